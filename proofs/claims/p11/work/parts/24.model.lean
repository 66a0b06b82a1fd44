noncomputable def fX12_gathers_190 (fu : Nat) (k_15 : Int32 → Int32 → Int32 → Int32 → St → Option (St × Int32)) (x1 : Int32) (x2 : Int32) (x3 : Int32) (x4 : Int32) (S : St) : Option (St × Int32) :=
  k_15 x1 x2 x3 (x4 + (1 : Int32)) S
noncomputable def fX12_gathers_139 (fu : Nat) (k_15 : Int32 → Int32 → Int32 → Int32 → St → Option (St × Int32)) (k_103 : Int32 → Int32 → Int32 → Int32 → Int32 → Int32 → St → Option (St × Int32)) (x1 : Int32) (x2 : Int32) (x3 : Int32) (x4 : Int32) (x8 : Int32) (t0 : Int32) (S : St) : Option (St × Int32) :=
  k_103 x1 x2 x3 x4 t0 (x8 + (1 : Int32)) S
noncomputable def fX12_gathers_134 (fu : Nat) (k_15 : Int32 → Int32 → Int32 → Int32 → St → Option (St × Int32)) (k_103 : Int32 → Int32 → Int32 → Int32 → Int32 → Int32 → St → Option (St × Int32)) (x1 : Int32) (x2 : Int32) (x3 : Int32) (x4 : Int32) (x8 : Int32) (S : St) : Option (St × Int32) :=
  fX12_gathers_139 fu k_15 k_103 x1 x2 x3 x4 x8 (1 : Int32) S
noncomputable def fX12_gathers_103 (fu : Nat) (k_15 : Int32 → Int32 → Int32 → Int32 → St → Option (St × Int32)) (n : Nat) : Int32 → Int32 → Int32 → Int32 → Int32 → Int32 → St → Option (St × Int32) :=
  Nat.rec (motive := fun _ => Int32 → Int32 → Int32 → Int32 → Int32 → Int32 → St → Option (St × Int32)) (fun _ _ _ _ _ _ _ => none) (fun _ k_103 x1 x2 x3 x4 x7 x8 S =>
    if (S.1 63 53) ≤ x8 then
      if x7 = 0 then
        if (S.1 63 53) = (10 : Int32) then
          fX12_gathers_190 fu k_15 x1 x2 x3 x4 S
        else
          gd (ck x4 100) <|
          gd (ck (S.1 63 53) 10) <|
          sI 96 ((S.1 63 53)).toNatClampNeg (S.1 88 (x4).toNatClampNeg) S fun S_179 =>
          sI 63 53 ((S_179.1 63 53) + (1 : Int32)) S_179 fun S_187 =>
          fX12_gathers_190 fu k_15 x1 x2 x3 x4 S_187
      else
        fX12_gathers_190 fu k_15 x1 x2 x3 x4 S
    else
      if x7 = 0 then
        gd (ck x8 10) <|
        gd (ck x4 100) <|
        if (S.1 96 (x8).toNatClampNeg) = (S.1 88 (x4).toNatClampNeg) then
          fX12_gathers_134 fu k_15 k_103 x1 x2 x3 x4 x8 S
        else
          fX12_gathers_139 fu k_15 k_103 x1 x2 x3 x4 x8 (0 : Int32) S
      else
        fX12_gathers_134 fu k_15 k_103 x1 x2 x3 x4 x8 S) n
theorem fX12_gathers_103_s (fu : Nat) (k_15 : Int32 → Int32 → Int32 → Int32 → St → Option (St × Int32)) (n : Nat) (x1 : Int32) (x2 : Int32) (x3 : Int32) (x4 : Int32) (x7 : Int32) (x8 : Int32) (S : St) : fX12_gathers_103 fu k_15 (n + 1) x1 x2 x3 x4 x7 x8 S = (
    if (S.1 63 53) ≤ x8 then
      if x7 = 0 then
        if (S.1 63 53) = (10 : Int32) then
          fX12_gathers_190 fu k_15 x1 x2 x3 x4 S
        else
          gd (ck x4 100) <|
          gd (ck (S.1 63 53) 10) <|
          sI 96 ((S.1 63 53)).toNatClampNeg (S.1 88 (x4).toNatClampNeg) S fun S_179 =>
          sI 63 53 ((S_179.1 63 53) + (1 : Int32)) S_179 fun S_187 =>
          fX12_gathers_190 fu k_15 x1 x2 x3 x4 S_187
      else
        fX12_gathers_190 fu k_15 x1 x2 x3 x4 S
    else
      if x7 = 0 then
        gd (ck x8 10) <|
        gd (ck x4 100) <|
        if (S.1 96 (x8).toNatClampNeg) = (S.1 88 (x4).toNatClampNeg) then
          fX12_gathers_134 fu k_15 (fX12_gathers_103 fu k_15 n) x1 x2 x3 x4 x8 S
        else
          fX12_gathers_139 fu k_15 (fX12_gathers_103 fu k_15 n) x1 x2 x3 x4 x8 (0 : Int32) S
      else
        fX12_gathers_134 fu k_15 (fX12_gathers_103 fu k_15 n) x1 x2 x3 x4 x8 S) := rfl
noncomputable def fX12_gathers_94 (fu : Nat) (k_15 : Int32 → Int32 → Int32 → Int32 → St → Option (St × Int32)) (x1 : Int32) (x2 : Int32) (x3 : Int32) (x4 : Int32) (t0 : Int64) (S : St) : Option (St × Int32) :=
  sJ 63 54 t0 S fun S_94 =>
  fX12_gathers_103 fu k_15 fu x1 x2 x3 x4 (0 : Int32) (0 : Int32) S_94
noncomputable def fX12_gathers_15 (fu : Nat) (n : Nat) : Int32 → Int32 → Int32 → Int32 → St → Option (St × Int32) :=
  Nat.rec (motive := fun _ => Int32 → Int32 → Int32 → Int32 → St → Option (St × Int32)) (fun _ _ _ _ _ => none) (fun _ k_15 x1 x2 x3 x4 S =>
    if (S.1 63 42) ≤ x4 then
      some (S, (S.1 63 53))
    else
      gd (ck x4 100) <|
      if (S.1 85 (x4).toNatClampNeg) = x1 then
        gd (ck x4 100) <|
        if (S.1 86 (x4).toNatClampNeg) = x2 then
          gd (ck x4 100) <|
          if (S.1 87 (x4).toNatClampNeg) = x3 then
            gd (ck x4 100) <|
            if 0 ≤ (lg_cmp (((S.1 89 (x4).toNatClampNeg)).toInt64 &&& (4294967295 : Int64)) (S.2 63 54)) then
              fX12_gathers_94 fu k_15 x1 x2 x3 x4 (S.2 63 54) S
            else
              fX12_gathers_94 fu k_15 x1 x2 x3 x4 (((S.1 89 (x4).toNatClampNeg)).toInt64 &&& (4294967295 : Int64)) S
          else
            fX12_gathers_190 fu k_15 x1 x2 x3 x4 S
        else
          fX12_gathers_190 fu k_15 x1 x2 x3 x4 S
      else
        fX12_gathers_190 fu k_15 x1 x2 x3 x4 S) n
theorem fX12_gathers_15_s (fu : Nat) (n : Nat) (x1 : Int32) (x2 : Int32) (x3 : Int32) (x4 : Int32) (S : St) : fX12_gathers_15 fu (n + 1) x1 x2 x3 x4 S = (
    if (S.1 63 42) ≤ x4 then
      some (S, (S.1 63 53))
    else
      gd (ck x4 100) <|
      if (S.1 85 (x4).toNatClampNeg) = x1 then
        gd (ck x4 100) <|
        if (S.1 86 (x4).toNatClampNeg) = x2 then
          gd (ck x4 100) <|
          if (S.1 87 (x4).toNatClampNeg) = x3 then
            gd (ck x4 100) <|
            if 0 ≤ (lg_cmp (((S.1 89 (x4).toNatClampNeg)).toInt64 &&& (4294967295 : Int64)) (S.2 63 54)) then
              fX12_gathers_94 fu (fX12_gathers_15 fu n) x1 x2 x3 x4 (S.2 63 54) S
            else
              fX12_gathers_94 fu (fX12_gathers_15 fu n) x1 x2 x3 x4 (((S.1 89 (x4).toNatClampNeg)).toInt64 &&& (4294967295 : Int64)) S
          else
            fX12_gathers_190 fu (fX12_gathers_15 fu n) x1 x2 x3 x4 S
        else
          fX12_gathers_190 fu (fX12_gathers_15 fu n) x1 x2 x3 x4 S
      else
        fX12_gathers_190 fu (fX12_gathers_15 fu n) x1 x2 x3 x4 S) := rfl
noncomputable def fX12_gathers (fu : Nat) (x1 : Int32) (x2 : Int32) (x3 : Int32) (S : St) : Option (St × Int32) :=
  sI 63 53 (0 : Int32) S fun S_2 =>
  sJ 63 54 (4294967296 : Int64) S_2 fun S_9 =>
  fX12_gathers_15 fu fu x1 x2 x3 (0 : Int32) S_9
theorem mvX12_gathers : MV yX12_gathers cX12_gathers 9 (some .int) RX12 3 := ⟨gw8_228, gw8_227, gs_92, gw1_13, by decide +kernel⟩
def rmX12_gathers : Room := { frames := 0, cells := 0, slots := 0, locals := 0 }
set_option maxHeartbeats 4000000 in
set_option maxRecDepth 100000 in
theorem m_X12_gathers (l : Launch) (D : va_G) (cA : FieldType → ClassId) (ad : Nat → Nat) (base : Nat) (fu : Nat) {S S' : St} {x1 : Int32} {x2 : Int32} {x3 : Int32} {r : Int32} (hf : fX12_gathers fu x1 x2 x3 S = some (S', r)) : Met l yX12_gathers (GC yX12_gathers cX12_gathers 9 (some .int)) rmX12_gathers (va_Pc [.ref (ad 63), .int x1, .int x2, .int x3] (wd D cA ad base S)) (QI D cA ad base S' r) 0 0 (aB base) := by
  refine Met.ofW (cc := cX12_gathers) (maxL := 9) (ret := (some .int)) (by decide) rfl ?_
  intro p e s m args below meth c s₁ B hml hv
  obtain ⟨hargs, hwd⟩ := hv
  have hr := B.returns
  have hlocks := B.notSynchronized
  obtain ⟨C, hw⟩ := CX.of (own := RX12) rfl B hml hwd
  have hx := C.1
  have hb := C.2.1
  have hl := lv_entry ([.ref (ad 63), .int x1, .int x2, .int x3]) (n := 9) (Nat.le_of_ble_eq_true rfl)
  rw [show entryFrame m args 9 = entryFrame m ([.ref (ad 63), .int x1, .int x2, .int x3] : List Value).toArray 9 from by rw [hargs], lg_entry_eq]
  generalize (lg_sl ([.ref (ad 63), .int x1, .int x2, .int x3]) ++ List.replicate (9 - (lg_sl ([.ref (ad 63), .int x1, .int x2, .int x3])).length) Slot.unset).toArray = ls at hl ⊢
  have hl : lv_has ls 9 [(0, .ref (ad 63)), (1, .int x1), (2, .int x2), (3, .int x3)] := hl
  have L_15 : ∀ (n_15 : Nat) (x1 : Int32) (x2 : Int32) (x3 : Int32) (x4 : Int32) (S : St) (H : Heap) (locs : List Loc) (ls : Array Slot), fX12_gathers_15 fu n_15 x1 x2 x3 x4 S = some (S', r) → lv_has ls 9 [(0, .ref (ad 63)), (1, .int x1), (2, .int x2), (3, .int x3), (4, .int x4)] → WS D cA ad base s S H locs → W p l e rmX12_gathers s m args below meth c H locs 0 0 (MQ below (QI D cA ad base S' r) args s 0 0 (aB base)) (F0 m 15 ls []) := by
    intro n_15
    induction n_15 with
    | zero =>
      intro x1 x2 x3 x4 S H locs ls hf hl hw
      exact (no_none hf).elim
    | succ n_15 ih_15 =>
      have J_190 : ∀ (x1 : Int32) (x2 : Int32) (x3 : Int32) (x4 : Int32) (S : St) (H : Heap) (locs : List Loc) (ls : Array Slot), fX12_gathers_190 fu (fX12_gathers_15 fu n_15) x1 x2 x3 x4 S = some (S', r) → lv_has ls 9 [(0, .ref (ad 63)), (1, .int x1), (2, .int x2), (3, .int x3), (4, .int x4)] → WS D cA ad base s S H locs → W p l e rmX12_gathers s m args below meth c H locs 0 0 (MQ below (QI D cA ad base S' r) args s 0 0 (aB base)) (F0 m 190 ls []) := by
        intro x1 x2 x3 x4 S H locs ls hf hl hw
        refine lv_iinc (v := (x4 + (1 : Int32))) (lv' := [(4, .int (x4 + (1 : Int32))), (0, .ref (ad 63)), (1, .int x1), (2, .int x2), (3, .int x3)]) hx hb dX12_gathers_190 hl (k := 4) rfl rfl (by decide) rfl (fun ls hl => ?_)
        refine lv_goto (tgt := 15) hx hb dX12_gathers_193 (by decide) ?_
        exact ih_15 _ _ _ _ _ _ _ _ hf (lv_sub hl [1, 2, 3, 4, 0] rfl) hw
      have L_103 : ∀ (n_103 : Nat) (x1 : Int32) (x2 : Int32) (x3 : Int32) (x4 : Int32) (x7 : Int32) (x8 : Int32) (S : St) (H : Heap) (locs : List Loc) (ls : Array Slot), fX12_gathers_103 fu (fX12_gathers_15 fu n_15) n_103 x1 x2 x3 x4 x7 x8 S = some (S', r) → lv_has ls 9 [(0, .ref (ad 63)), (1, .int x1), (2, .int x2), (3, .int x3), (4, .int x4), (7, .int x7), (8, .int x8)] → WS D cA ad base s S H locs → W p l e rmX12_gathers s m args below meth c H locs 0 0 (MQ below (QI D cA ad base S' r) args s 0 0 (aB base)) (F0 m 103 ls []) := by
        intro n_103
        induction n_103 with
        | zero =>
          intro x1 x2 x3 x4 x7 x8 S H locs ls hf hl hw
          exact (no_none hf).elim
        | succ n_103 ih_103 =>
          have J_139 : ∀ (x1 : Int32) (x2 : Int32) (x3 : Int32) (x4 : Int32) (x8 : Int32) (t0 : Int32) (S : St) (H : Heap) (locs : List Loc) (ls : Array Slot), fX12_gathers_139 fu (fX12_gathers_15 fu n_15) (fX12_gathers_103 fu (fX12_gathers_15 fu n_15) n_103) x1 x2 x3 x4 x8 t0 S = some (S', r) → lv_has ls 9 [(0, .ref (ad 63)), (1, .int x1), (2, .int x2), (3, .int x3), (4, .int x4), (8, .int x8)] → WS D cA ad base s S H locs → W p l e rmX12_gathers s m args below meth c H locs 0 0 (MQ below (QI D cA ad base S' r) args s 0 0 (aB base)) (F0 m 139 ls [.int t0]) := by
            intro x1 x2 x3 x4 x8 t0 S H locs ls hf hl hw
            refine lv_istore (lv' := [(7, .int t0), (0, .ref (ad 63)), (1, .int x1), (2, .int x2), (3, .int x3), (4, .int x4), (8, .int x8)]) hx hb dX12_gathers_139 hl (by decide) rfl (fun ls hl => ?_)
            refine lv_iinc (v := (x8 + (1 : Int32))) (lv' := [(8, .int (x8 + (1 : Int32))), (7, .int t0), (0, .ref (ad 63)), (1, .int x1), (2, .int x2), (3, .int x3), (4, .int x4)]) hx hb dX12_gathers_141 hl (k := 6) rfl rfl (by decide) rfl (fun ls hl => ?_)
            refine lv_goto (tgt := 103) hx hb dX12_gathers_144 (by decide) ?_
            exact ih_103 _ _ _ _ _ _ _ _ _ _ hf (lv_sub hl [2, 3, 4, 5, 6, 1, 0] rfl) hw
          have J_134 : ∀ (x1 : Int32) (x2 : Int32) (x3 : Int32) (x4 : Int32) (x8 : Int32) (S : St) (H : Heap) (locs : List Loc) (ls : Array Slot), fX12_gathers_134 fu (fX12_gathers_15 fu n_15) (fX12_gathers_103 fu (fX12_gathers_15 fu n_15) n_103) x1 x2 x3 x4 x8 S = some (S', r) → lv_has ls 9 [(0, .ref (ad 63)), (1, .int x1), (2, .int x2), (3, .int x3), (4, .int x4), (8, .int x8)] → WS D cA ad base s S H locs → W p l e rmX12_gathers s m args below meth c H locs 0 0 (MQ below (QI D cA ad base S' r) args s 0 0 (aB base)) (F0 m 134 ls []) := by
            intro x1 x2 x3 x4 x8 S H locs ls hf hl hw
            refine lv_iconst (v := (1 : Int32)) hx hb dX12_gathers_134 (by decide) ?_
            refine lv_goto (tgt := 139) hx hb dX12_gathers_135 (by decide) ?_
            exact J_139 _ _ _ _ _ _ _ _ _ _ hf (lv_sub hl [0, 1, 2, 3, 4, 5] rfl) hw
          intro x1 x2 x3 x4 x7 x8 S H locs ls hf hl hw
          rw [fX12_gathers_103_s] at hf
          refine lv_iload hx hb dX12_gathers_103 (lv_at hl 6 rfl) ?_
          refine lv_aload_n hx hb dX12_gathers_105 rfl (lv_at hl 0 rfl) ?_
          refine r_getI C hw (k := 53) dq_63 ln_63 rfl vc_12 inX12 (by decide) rfl gw6_234 dX12_gathers_106 ?_
          refine lv_icmp_ge (tgt := 147) hx hb dX12_gathers_109 (by decide) (fun c_109 => ?_) (fun c_109 => ?_)
          · have hf := if_t hf c_109
            refine lv_iload hx hb dX12_gathers_147 (lv_at hl 5 rfl) ?_
            refine lv_if_ne (tgt := 190) hx hb dX12_gathers_149 (by decide) (fun c_149 => ?_) (fun c_149 => ?_)
            · have hf := if_f hf c_149
              exact J_190 _ _ _ _ _ _ _ _ hf (lv_sub hl [0, 1, 2, 3, 4] rfl) hw
            · have hf := if_t hf c_149
              refine lv_aload_n hx hb dX12_gathers_152 rfl (lv_at hl 0 rfl) ?_
              refine r_getI C hw (k := 53) dq_63 ln_63 rfl vc_12 inX12 (by decide) rfl gw6_234 dX12_gathers_153 ?_
              refine lv_bipush (v := (10 : Int32)) hx hb dX12_gathers_156 (by decide) ?_
              refine lv_icmp_ne (tgt := 164) hx hb dX12_gathers_158 (by decide) (fun c_158 => ?_) (fun c_158 => ?_)
              · have hf := if_f hf c_158
                refine lv_aload_n hx hb dX12_gathers_164 rfl (lv_at hl 0 rfl) ?_
                refine r_getR C hw (k := 52) (r := 96) dq_63 ln_63 rfl vc_12 inX12 (by decide) rfl gw6_233 dX12_gathers_165 ?_
                refine lv_aload_n hx hb dX12_gathers_168 rfl (lv_at hl 0 rfl) ?_
                refine r_getI C hw (k := 53) dq_63 ln_63 rfl vc_12 inX12 (by decide) rfl gw6_234 dX12_gathers_169 ?_
                refine lv_aload_n hx hb dX12_gathers_172 rfl (lv_at hl 0 rfl) ?_
                refine r_getR C hw (k := 40) (r := 88) dq_63 ln_63 rfl vc_12 inX12 (by decide) rfl gw6_221 dX12_gathers_173 ?_
                refine lv_iload hx hb dX12_gathers_176 (lv_at hl 4 rfl) ?_
                obtain ⟨z_178, hf⟩ := gd_some hf
                refine r_iald C hw (x := 88) dq_88 ln_88 z_178 dX12_gathers_178 ?_
                obtain ⟨z_179, hf⟩ := gd_some hf
                obtain ⟨S_179, e_179, hf⟩ := sI_some hf
                refine r_iast C hw (x := 96) dq_96 ln_96 z_179 dX12_gathers_179 e_179 (fun H locs hw => ?_)
                refine lv_aload_n hx hb dX12_gathers_180 rfl (lv_at hl 0 rfl) ?_
                refine lv_dup hx hb dX12_gathers_181 rfl ?_
                refine r_getI C hw (k := 53) dq_63 ln_63 rfl vc_12 inX12 (by decide) rfl gw6_234 dX12_gathers_182 ?_
                refine lv_iconst (v := (1 : Int32)) hx hb dX12_gathers_185 (by decide) ?_
                refine lv_iadd hx hb dX12_gathers_186 ?_
                obtain ⟨S_187, e_187, hf⟩ := sI_some hf
                refine r_putI C hw (k := 53) (ty0 := tyX12) dq_63 ln_63 rfl vc_12 inX12 tyX12_ok nmX12 (by decide) rfl rfl gw6_234 rfl rfl dX12_gathers_187 e_187 (fun H locs hw => ?_)
                exact J_190 _ _ _ _ _ _ _ _ hf (lv_sub hl [0, 1, 2, 3, 4] rfl) hw
              · have hf := if_t hf c_158
                refine lv_goto (tgt := 190) hx hb dX12_gathers_161 (by decide) ?_
                exact J_190 _ _ _ _ _ _ _ _ hf (lv_sub hl [0, 1, 2, 3, 4] rfl) hw
          · have hf := if_f hf c_109
            refine lv_iload hx hb dX12_gathers_112 (lv_at hl 5 rfl) ?_
            refine lv_if_ne (tgt := 134) hx hb dX12_gathers_114 (by decide) (fun c_114 => ?_) (fun c_114 => ?_)
            · have hf := if_f hf c_114
              exact J_134 _ _ _ _ _ _ _ _ _ hf (lv_sub hl [0, 1, 2, 3, 4, 6] rfl) hw
            · have hf := if_t hf c_114
              refine lv_aload_n hx hb dX12_gathers_117 rfl (lv_at hl 0 rfl) ?_
              refine r_getR C hw (k := 52) (r := 96) dq_63 ln_63 rfl vc_12 inX12 (by decide) rfl gw6_233 dX12_gathers_118 ?_
              refine lv_iload hx hb dX12_gathers_121 (lv_at hl 6 rfl) ?_
              obtain ⟨z_123, hf⟩ := gd_some hf
              refine r_iald C hw (x := 96) dq_96 ln_96 z_123 dX12_gathers_123 ?_
              refine lv_aload_n hx hb dX12_gathers_124 rfl (lv_at hl 0 rfl) ?_
              refine r_getR C hw (k := 40) (r := 88) dq_63 ln_63 rfl vc_12 inX12 (by decide) rfl gw6_221 dX12_gathers_125 ?_
              refine lv_iload hx hb dX12_gathers_128 (lv_at hl 4 rfl) ?_
              obtain ⟨z_130, hf⟩ := gd_some hf
              refine r_iald C hw (x := 88) dq_88 ln_88 z_130 dX12_gathers_130 ?_
              refine lv_icmp_ne (tgt := 138) hx hb dX12_gathers_131 (by decide) (fun c_131 => ?_) (fun c_131 => ?_)
              · have hf := if_f hf c_131
                refine lv_iconst (v := (0 : Int32)) hx hb dX12_gathers_138 (by decide) ?_
                exact J_139 _ _ _ _ _ _ _ _ _ _ hf (lv_sub hl [0, 1, 2, 3, 4, 6] rfl) hw
              · have hf := if_t hf c_131
                exact J_134 _ _ _ _ _ _ _ _ _ hf (lv_sub hl [0, 1, 2, 3, 4, 6] rfl) hw
      have J_94 : ∀ (x1 : Int32) (x2 : Int32) (x3 : Int32) (x4 : Int32) (t0 : Int64) (S : St) (H : Heap) (locs : List Loc) (ls : Array Slot), fX12_gathers_94 fu (fX12_gathers_15 fu n_15) x1 x2 x3 x4 t0 S = some (S', r) → lv_has ls 9 [(0, .ref (ad 63)), (1, .int x1), (2, .int x2), (3, .int x3), (4, .int x4)] → WS D cA ad base s S H locs → W p l e rmX12_gathers s m args below meth c H locs 0 0 (MQ below (QI D cA ad base S' r) args s 0 0 (aB base)) (F0 m 94 ls [.long t0, .ref (ad 63)]) := by
        intro x1 x2 x3 x4 t0 S H locs ls hf hl hw
        obtain ⟨S_94, e_94, hf⟩ := sJ_some hf
        refine r_putJ C hw (k := 54) (ty0 := tyX12) dq_63 ln_63 rfl vc_12 inX12 tyX12_ok nmX12 (by decide) rfl rfl gw6_235 rfl rfl dX12_gathers_94 e_94 (fun H locs hw => ?_)
        refine lv_iconst (v := (0 : Int32)) hx hb dX12_gathers_97 (by decide) ?_
        refine lv_istore (lv' := [(7, .int (0 : Int32)), (0, .ref (ad 63)), (1, .int x1), (2, .int x2), (3, .int x3), (4, .int x4)]) hx hb dX12_gathers_98 hl (by decide) rfl (fun ls hl => ?_)
        refine lv_iconst (v := (0 : Int32)) hx hb dX12_gathers_100 (by decide) ?_
        refine lv_istore (lv' := [(8, .int (0 : Int32)), (7, .int (0 : Int32)), (0, .ref (ad 63)), (1, .int x1), (2, .int x2), (3, .int x3), (4, .int x4)]) hx hb dX12_gathers_101 hl (by decide) rfl (fun ls hl => ?_)
        exact L_103 fu _ _ _ _ _ _ _ _ _ _ hf (lv_sub hl [2, 3, 4, 5, 6, 1, 0] rfl) hw
      intro x1 x2 x3 x4 S H locs ls hf hl hw
      rw [fX12_gathers_15_s] at hf
      refine lv_iload hx hb dX12_gathers_15 (lv_at hl 4 rfl) ?_
      refine lv_aload_n hx hb dX12_gathers_17 rfl (lv_at hl 0 rfl) ?_
      refine r_getI C hw (k := 42) dq_63 ln_63 rfl vc_12 inX12 (by decide) rfl gw6_223 dX12_gathers_18 ?_
      refine lv_icmp_ge (tgt := 196) hx hb dX12_gathers_21 (by decide) (fun c_21 => ?_) (fun c_21 => ?_)
      · have hf := if_t hf c_21
        refine lv_aload_n hx hb dX12_gathers_196 rfl (lv_at hl 0 rfl) ?_
        refine r_getI C hw (k := 53) dq_63 ln_63 rfl vc_12 inX12 (by decide) rfl gw6_234 dX12_gathers_197 ?_
        exact r_iret C hw hr hlocks hf dX12_gathers_200
      · have hf := if_f hf c_21
        refine lv_aload_n hx hb dX12_gathers_24 rfl (lv_at hl 0 rfl) ?_
        refine r_getR C hw (k := 37) (r := 85) dq_63 ln_63 rfl vc_12 inX12 (by decide) rfl gw6_218 dX12_gathers_25 ?_
        refine lv_iload hx hb dX12_gathers_28 (lv_at hl 4 rfl) ?_
        obtain ⟨z_30, hf⟩ := gd_some hf
        refine r_iald C hw (x := 85) dq_85 ln_85 z_30 dX12_gathers_30 ?_
        refine lv_iload_n hx hb dX12_gathers_31 rfl (lv_at hl 1 rfl) ?_
        refine lv_icmp_ne (tgt := 190) hx hb dX12_gathers_32 (by decide) (fun c_32 => ?_) (fun c_32 => ?_)
        · have hf := if_f hf c_32
          exact J_190 _ _ _ _ _ _ _ _ hf (lv_sub hl [0, 1, 2, 3, 4] rfl) hw
        · have hf := if_t hf c_32
          refine lv_aload_n hx hb dX12_gathers_35 rfl (lv_at hl 0 rfl) ?_
          refine r_getR C hw (k := 38) (r := 86) dq_63 ln_63 rfl vc_12 inX12 (by decide) rfl gw6_219 dX12_gathers_36 ?_
          refine lv_iload hx hb dX12_gathers_39 (lv_at hl 4 rfl) ?_
          obtain ⟨z_41, hf⟩ := gd_some hf
          refine r_iald C hw (x := 86) dq_86 ln_86 z_41 dX12_gathers_41 ?_
          refine lv_iload_n hx hb dX12_gathers_42 rfl (lv_at hl 2 rfl) ?_
          refine lv_icmp_ne (tgt := 190) hx hb dX12_gathers_43 (by decide) (fun c_43 => ?_) (fun c_43 => ?_)
          · have hf := if_f hf c_43
            exact J_190 _ _ _ _ _ _ _ _ hf (lv_sub hl [0, 1, 2, 3, 4] rfl) hw
          · have hf := if_t hf c_43
            refine lv_aload_n hx hb dX12_gathers_46 rfl (lv_at hl 0 rfl) ?_
            refine r_getR C hw (k := 39) (r := 87) dq_63 ln_63 rfl vc_12 inX12 (by decide) rfl gw6_220 dX12_gathers_47 ?_
            refine lv_iload hx hb dX12_gathers_50 (lv_at hl 4 rfl) ?_
            obtain ⟨z_52, hf⟩ := gd_some hf
            refine r_iald C hw (x := 87) dq_87 ln_87 z_52 dX12_gathers_52 ?_
            refine lv_iload_n hx hb dX12_gathers_53 rfl (lv_at hl 3 rfl) ?_
            refine lv_icmp_eq (tgt := 60) hx hb dX12_gathers_54 (by decide) (fun c_54 => ?_) (fun c_54 => ?_)
            · have hf := if_t hf c_54
              refine lv_aload_n hx hb dX12_gathers_60 rfl (lv_at hl 0 rfl) ?_
              refine r_getR C hw (k := 41) (r := 89) dq_63 ln_63 rfl vc_12 inX12 (by decide) rfl gw6_222 dX12_gathers_61 ?_
              refine lv_iload hx hb dX12_gathers_64 (lv_at hl 4 rfl) ?_
              obtain ⟨z_66, hf⟩ := gd_some hf
              refine r_iald C hw (x := 89) dq_89 ln_89 z_66 dX12_gathers_66 ?_
              refine lv_i2l hx hb dX12_gathers_67 rfl ?_
              refine lv_ldc2 hx hb C.2.2.2.1 (C.2.2.2.2.1 _ (gw_of gw8_230 rfl)) dX12_gathers_68 ?_
              refine lv_land hx hb dX12_gathers_71 ?_
              refine lv_lstore (lv' := [(5, .long (((S.1 89 (x4).toNatClampNeg)).toInt64 &&& (4294967295 : Int64))), (0, .ref (ad 63)), (1, .int x1), (2, .int x2), (3, .int x3), (4, .int x4)]) hx hb dX12_gathers_72 hl (by decide) rfl (fun ls hl => ?_)
              refine lv_aload_n hx hb dX12_gathers_74 rfl (lv_at hl 1 rfl) ?_
              refine lv_lload hx hb dX12_gathers_75 (lv_at hl 0 rfl) ?_
              refine lv_aload_n hx hb dX12_gathers_77 rfl (lv_at hl 1 rfl) ?_
              refine r_getJ C hw (k := 54) dq_63 ln_63 rfl vc_12 inX12 (by decide) rfl gw6_235 dX12_gathers_78 ?_
              refine W.lcmp hx hb dX12_gathers_81 ?_
              refine lv_if_ge (tgt := 90) hx hb dX12_gathers_82 (by decide) (fun c_82 => ?_) (fun c_82 => ?_)
              · have hf := if_t hf c_82
                refine lv_aload_n hx hb dX12_gathers_90 rfl (lv_at hl 1 rfl) ?_
                refine r_getJ C hw (k := 54) dq_63 ln_63 rfl vc_12 inX12 (by decide) rfl gw6_235 dX12_gathers_91 ?_
                exact J_94 _ _ _ _ _ _ _ _ _ hf (lv_sub hl [1, 2, 3, 4, 5] rfl) hw
              · have hf := if_f hf c_82
                refine lv_lload hx hb dX12_gathers_85 (lv_at hl 0 rfl) ?_
                refine lv_goto (tgt := 94) hx hb dX12_gathers_87 (by decide) ?_
                exact J_94 _ _ _ _ _ _ _ _ _ hf (lv_sub hl [1, 2, 3, 4, 5] rfl) hw
            · have hf := if_f hf c_54
              refine lv_goto (tgt := 190) hx hb dX12_gathers_57 (by decide) ?_
              exact J_190 _ _ _ _ _ _ _ _ hf (lv_sub hl [0, 1, 2, 3, 4] rfl) hw
  show W p l e rmX12_gathers s m args below meth c s.heap [] 0 0 _ _
  refine lv_aload_n hx hb dX12_gathers_0 rfl (lv_at hl 0 rfl) ?_
  refine lv_iconst (v := (0 : Int32)) hx hb dX12_gathers_1 (by decide) ?_
  obtain ⟨S_2, e_2, hf⟩ := sI_some hf
  refine r_putI C hw (k := 53) (ty0 := tyX12) dq_63 ln_63 rfl vc_12 inX12 tyX12_ok nmX12 (by decide) rfl rfl gw6_234 rfl rfl dX12_gathers_2 e_2 (fun H locs hw => ?_)
  refine lv_aload_n hx hb dX12_gathers_5 rfl (lv_at hl 0 rfl) ?_
  refine lv_ldc2 hx hb C.2.2.2.1 (C.2.2.2.2.1 _ (gw_of gw8_229 rfl)) dX12_gathers_6 ?_
  obtain ⟨S_9, e_9, hf⟩ := sJ_some hf
  refine r_putJ C hw (k := 54) (ty0 := tyX12) dq_63 ln_63 rfl vc_12 inX12 tyX12_ok nmX12 (by decide) rfl rfl gw6_235 rfl rfl dX12_gathers_9 e_9 (fun H locs hw => ?_)
  refine lv_iconst (v := (0 : Int32)) hx hb dX12_gathers_12 (by decide) ?_
  refine lv_istore (lv' := [(4, .int (0 : Int32)), (0, .ref (ad 63)), (1, .int x1), (2, .int x2), (3, .int x3)]) hx hb dX12_gathers_13 hl (by decide) rfl (fun ls hl => ?_)
  exact L_15 fu _ _ _ _ _ _ _ _ hf (lv_sub hl [1, 2, 3, 4, 0] rfl) hw
noncomputable def fX12_first_52 (fu : Nat) (k_3 : Int32 → Int32 → Int32 → Int32 → St → Option (St × Int32)) (x1 : Int32) (x2 : Int32) (x3 : Int32) (x4 : Int32) (S : St) : Option (St × Int32) :=
  k_3 x1 x2 x3 (x4 + (1 : Int32)) S
noncomputable def fX12_first_3 (fu : Nat) (n : Nat) : Int32 → Int32 → Int32 → Int32 → St → Option (St × Int32) :=
  Nat.rec (motive := fun _ => Int32 → Int32 → Int32 → Int32 → St → Option (St × Int32)) (fun _ _ _ _ _ => none) (fun _ k_3 x1 x2 x3 x4 S =>
    if (S.1 63 42) ≤ x4 then
      some (S, (-1 : Int32))
    else
      gd (ck x4 100) <|
      if (S.1 85 (x4).toNatClampNeg) = x1 then
        gd (ck x4 100) <|
        if (S.1 87 (x4).toNatClampNeg) = x2 then
          if x3 < 0 then
            some (S, x4)
          else
            gd (ck x4 100) <|
            if (S.1 86 (x4).toNatClampNeg) = x3 then
              some (S, x4)
            else
              fX12_first_52 fu k_3 x1 x2 x3 x4 S
        else
          fX12_first_52 fu k_3 x1 x2 x3 x4 S
      else
        fX12_first_52 fu k_3 x1 x2 x3 x4 S) n
theorem fX12_first_3_s (fu : Nat) (n : Nat) (x1 : Int32) (x2 : Int32) (x3 : Int32) (x4 : Int32) (S : St) : fX12_first_3 fu (n + 1) x1 x2 x3 x4 S = (
    if (S.1 63 42) ≤ x4 then
      some (S, (-1 : Int32))
    else
      gd (ck x4 100) <|
      if (S.1 85 (x4).toNatClampNeg) = x1 then
        gd (ck x4 100) <|
        if (S.1 87 (x4).toNatClampNeg) = x2 then
          if x3 < 0 then
            some (S, x4)
          else
            gd (ck x4 100) <|
            if (S.1 86 (x4).toNatClampNeg) = x3 then
              some (S, x4)
            else
              fX12_first_52 fu (fX12_first_3 fu n) x1 x2 x3 x4 S
        else
          fX12_first_52 fu (fX12_first_3 fu n) x1 x2 x3 x4 S
      else
        fX12_first_52 fu (fX12_first_3 fu n) x1 x2 x3 x4 S) := rfl
noncomputable def fX12_first (fu : Nat) (x1 : Int32) (x2 : Int32) (x3 : Int32) (S : St) : Option (St × Int32) :=
  fX12_first_3 fu fu x1 x2 x3 (0 : Int32) S
theorem mvX12_first : MV yX12_first cX12_first 5 (some .int) RX12 3 := ⟨gw9_2, gw9_1, gs_95, gw1_13, by decide +kernel⟩
def rmX12_first : Room := { frames := 0, cells := 0, slots := 0, locals := 0 }
set_option maxHeartbeats 4000000 in
set_option maxRecDepth 100000 in
theorem m_X12_first (l : Launch) (D : va_G) (cA : FieldType → ClassId) (ad : Nat → Nat) (base : Nat) (fu : Nat) {S S' : St} {x1 : Int32} {x2 : Int32} {x3 : Int32} {r : Int32} (hf : fX12_first fu x1 x2 x3 S = some (S', r)) : Met l yX12_first (GC yX12_first cX12_first 5 (some .int)) rmX12_first (va_Pc [.ref (ad 63), .int x1, .int x2, .int x3] (wd D cA ad base S)) (QI D cA ad base S' r) 0 0 (aB base) := by
  refine Met.ofW (cc := cX12_first) (maxL := 5) (ret := (some .int)) (by decide) rfl ?_
  intro p e s m args below meth c s₁ B hml hv
  obtain ⟨hargs, hwd⟩ := hv
  have hr := B.returns
  have hlocks := B.notSynchronized
  obtain ⟨C, hw⟩ := CX.of (own := RX12) rfl B hml hwd
  have hx := C.1
  have hb := C.2.1
  have hl := lv_entry ([.ref (ad 63), .int x1, .int x2, .int x3]) (n := 5) (Nat.le_of_ble_eq_true rfl)
  rw [show entryFrame m args 5 = entryFrame m ([.ref (ad 63), .int x1, .int x2, .int x3] : List Value).toArray 5 from by rw [hargs], lg_entry_eq]
  generalize (lg_sl ([.ref (ad 63), .int x1, .int x2, .int x3]) ++ List.replicate (5 - (lg_sl ([.ref (ad 63), .int x1, .int x2, .int x3])).length) Slot.unset).toArray = ls at hl ⊢
  have hl : lv_has ls 5 [(0, .ref (ad 63)), (1, .int x1), (2, .int x2), (3, .int x3)] := hl
  have L_3 : ∀ (n_3 : Nat) (x1 : Int32) (x2 : Int32) (x3 : Int32) (x4 : Int32) (S : St) (H : Heap) (locs : List Loc) (ls : Array Slot), fX12_first_3 fu n_3 x1 x2 x3 x4 S = some (S', r) → lv_has ls 5 [(0, .ref (ad 63)), (1, .int x1), (2, .int x2), (3, .int x3), (4, .int x4)] → WS D cA ad base s S H locs → W p l e rmX12_first s m args below meth c H locs 0 0 (MQ below (QI D cA ad base S' r) args s 0 0 (aB base)) (F0 m 3 ls []) := by
    intro n_3
    induction n_3 with
    | zero =>
      intro x1 x2 x3 x4 S H locs ls hf hl hw
      exact (no_none hf).elim
    | succ n_3 ih_3 =>
      have J_52 : ∀ (x1 : Int32) (x2 : Int32) (x3 : Int32) (x4 : Int32) (S : St) (H : Heap) (locs : List Loc) (ls : Array Slot), fX12_first_52 fu (fX12_first_3 fu n_3) x1 x2 x3 x4 S = some (S', r) → lv_has ls 5 [(0, .ref (ad 63)), (1, .int x1), (2, .int x2), (3, .int x3), (4, .int x4)] → WS D cA ad base s S H locs → W p l e rmX12_first s m args below meth c H locs 0 0 (MQ below (QI D cA ad base S' r) args s 0 0 (aB base)) (F0 m 52 ls []) := by
        intro x1 x2 x3 x4 S H locs ls hf hl hw
        refine lv_iinc (v := (x4 + (1 : Int32))) (lv' := [(4, .int (x4 + (1 : Int32))), (0, .ref (ad 63)), (1, .int x1), (2, .int x2), (3, .int x3)]) hx hb dX12_first_52 hl (k := 4) rfl rfl (by decide) rfl (fun ls hl => ?_)
        refine lv_goto (tgt := 3) hx hb dX12_first_55 (by decide) ?_
        exact ih_3 _ _ _ _ _ _ _ _ hf (lv_sub hl [1, 2, 3, 4, 0] rfl) hw
      intro x1 x2 x3 x4 S H locs ls hf hl hw
      rw [fX12_first_3_s] at hf
      refine lv_iload hx hb dX12_first_3 (lv_at hl 4 rfl) ?_
      refine lv_aload_n hx hb dX12_first_5 rfl (lv_at hl 0 rfl) ?_
      refine r_getI C hw (k := 42) dq_63 ln_63 rfl vc_12 inX12 (by decide) rfl gw6_223 dX12_first_6 ?_
      refine lv_icmp_ge (tgt := 58) hx hb dX12_first_9 (by decide) (fun c_9 => ?_) (fun c_9 => ?_)
      · have hf := if_t hf c_9
        refine lv_iconst (v := (-1 : Int32)) hx hb dX12_first_58 (by decide) ?_
        exact r_iret C hw hr hlocks hf dX12_first_59
      · have hf := if_f hf c_9
        refine lv_aload_n hx hb dX12_first_12 rfl (lv_at hl 0 rfl) ?_
        refine r_getR C hw (k := 37) (r := 85) dq_63 ln_63 rfl vc_12 inX12 (by decide) rfl gw6_218 dX12_first_13 ?_
        refine lv_iload hx hb dX12_first_16 (lv_at hl 4 rfl) ?_
        obtain ⟨z_18, hf⟩ := gd_some hf
        refine r_iald C hw (x := 85) dq_85 ln_85 z_18 dX12_first_18 ?_
        refine lv_iload_n hx hb dX12_first_19 rfl (lv_at hl 1 rfl) ?_
        refine lv_icmp_ne (tgt := 52) hx hb dX12_first_20 (by decide) (fun c_20 => ?_) (fun c_20 => ?_)
        · have hf := if_f hf c_20
          exact J_52 _ _ _ _ _ _ _ _ hf (lv_sub hl [0, 1, 2, 3, 4] rfl) hw
        · have hf := if_t hf c_20
          refine lv_aload_n hx hb dX12_first_23 rfl (lv_at hl 0 rfl) ?_
          refine r_getR C hw (k := 39) (r := 87) dq_63 ln_63 rfl vc_12 inX12 (by decide) rfl gw6_220 dX12_first_24 ?_
          refine lv_iload hx hb dX12_first_27 (lv_at hl 4 rfl) ?_
          obtain ⟨z_29, hf⟩ := gd_some hf
          refine r_iald C hw (x := 87) dq_87 ln_87 z_29 dX12_first_29 ?_
          refine lv_iload_n hx hb dX12_first_30 rfl (lv_at hl 2 rfl) ?_
          refine lv_icmp_ne (tgt := 52) hx hb dX12_first_31 (by decide) (fun c_31 => ?_) (fun c_31 => ?_)
          · have hf := if_f hf c_31
            exact J_52 _ _ _ _ _ _ _ _ hf (lv_sub hl [0, 1, 2, 3, 4] rfl) hw
          · have hf := if_t hf c_31
            refine lv_iload_n hx hb dX12_first_34 rfl (lv_at hl 3 rfl) ?_
            refine lv_if_lt (tgt := 49) hx hb dX12_first_35 (by decide) (fun c_35 => ?_) (fun c_35 => ?_)
            · have hf := if_t hf c_35
              refine lv_iload hx hb dX12_first_49 (lv_at hl 4 rfl) ?_
              exact r_iret C hw hr hlocks hf dX12_first_51
            · have hf := if_f hf c_35
              refine lv_aload_n hx hb dX12_first_38 rfl (lv_at hl 0 rfl) ?_
              refine r_getR C hw (k := 38) (r := 86) dq_63 ln_63 rfl vc_12 inX12 (by decide) rfl gw6_219 dX12_first_39 ?_
              refine lv_iload hx hb dX12_first_42 (lv_at hl 4 rfl) ?_
              obtain ⟨z_44, hf⟩ := gd_some hf
              refine r_iald C hw (x := 86) dq_86 ln_86 z_44 dX12_first_44 ?_
              refine lv_iload_n hx hb dX12_first_45 rfl (lv_at hl 3 rfl) ?_
              refine lv_icmp_ne (tgt := 52) hx hb dX12_first_46 (by decide) (fun c_46 => ?_) (fun c_46 => ?_)
              · have hf := if_f hf c_46
                exact J_52 _ _ _ _ _ _ _ _ hf (lv_sub hl [0, 1, 2, 3, 4] rfl) hw
              · have hf := if_t hf c_46
                refine lv_iload hx hb dX12_first_49 (lv_at hl 4 rfl) ?_
                exact r_iret C hw hr hlocks hf dX12_first_51
  show W p l e rmX12_first s m args below meth c s.heap [] 0 0 _ _
  refine lv_iconst (v := (0 : Int32)) hx hb dX12_first_0 (by decide) ?_
  refine lv_istore (lv' := [(4, .int (0 : Int32)), (0, .ref (ad 63)), (1, .int x1), (2, .int x2), (3, .int x3)]) hx hb dX12_first_1 hl (by decide) rfl (fun ls hl => ?_)
  exact L_3 fu _ _ _ _ _ _ _ _ hf (lv_sub hl [1, 2, 3, 4, 0] rfl) hw
noncomputable def fX12_isReply (fu : Nat) (S : St) : Option (St × Int32) :=
  if (S.1 63 36) = (S.1 63 69) then
    gd (ck ((S.1 63 62) - (1 : Int32)) 4) <|
    if (S.1 63 32) = (S.1 97 (((S.1 63 62) - (1 : Int32))).toNatClampNeg) then
      gd (ck ((S.1 63 62) - (1 : Int32)) 4) <|
      if (S.1 63 33) = (S.1 98 (((S.1 63 62) - (1 : Int32))).toNatClampNeg) then
        if (S.1 63 34) = (1 : Int32) then
          if ((S.1 63 35) &&& (32768 : Int32)) = 0 then
            some (S, (0 : Int32))
          else
            some (S, (1 : Int32))
        else
          some (S, (0 : Int32))
      else
        some (S, (0 : Int32))
    else
      some (S, (0 : Int32))
  else
    some (S, (0 : Int32))
theorem mvX12_isReply : MV yX12_isReply cX12_isReply 2 (some .boolean) RX12 0 := ⟨gw8_220, gw8_219, gs_90, gw1_13, by decide +kernel⟩
def rmX12_isReply : Room := { frames := 0, cells := 0, slots := 0, locals := 0 }
set_option maxHeartbeats 4000000 in
set_option maxRecDepth 100000 in
theorem m_X12_isReply (l : Launch) (D : va_G) (cA : FieldType → ClassId) (ad : Nat → Nat) (base : Nat) (fu : Nat) {S S' : St} {r : Int32} (hf : fX12_isReply fu S = some (S', r)) : Met l yX12_isReply (GC yX12_isReply cX12_isReply 2 (some .boolean)) rmX12_isReply (va_Pc [.ref (ad 63)] (wd D cA ad base S)) (QI D cA ad base S' r) 0 0 (aB base) := by
  refine Met.ofW (cc := cX12_isReply) (maxL := 2) (ret := (some .boolean)) (by decide) rfl ?_
  intro p e s m args below meth c s₁ B hml hv
  obtain ⟨hargs, hwd⟩ := hv
  have hr := B.returns
  have hlocks := B.notSynchronized
  obtain ⟨C, hw⟩ := CX.of (own := RX12) rfl B hml hwd
  have hx := C.1
  have hb := C.2.1
  have hl := lv_entry ([.ref (ad 63)]) (n := 2) (Nat.le_of_ble_eq_true rfl)
  rw [show entryFrame m args 2 = entryFrame m ([.ref (ad 63)] : List Value).toArray 2 from by rw [hargs], lg_entry_eq]
  generalize (lg_sl ([.ref (ad 63)]) ++ List.replicate (2 - (lg_sl ([.ref (ad 63)])).length) Slot.unset).toArray = ls at hl ⊢
  have hl : lv_has ls 2 [(0, .ref (ad 63))] := hl
  show W p l e rmX12_isReply s m args below meth c s.heap [] 0 0 _ _
  refine lv_aload_n hx hb dX12_isReply_0 rfl (lv_at hl 0 rfl) ?_
  refine r_getI C hw (k := 62) dq_63 ln_63 rfl vc_12 inX12 (by decide) rfl gw7_3 dX12_isReply_1 ?_
  refine lv_iconst (v := (1 : Int32)) hx hb dX12_isReply_4 (by decide) ?_
  refine lv_isub hx hb dX12_isReply_5 ?_
  refine lv_istore_n (lv' := [(1, .int ((S.1 63 62) - (1 : Int32))), (0, .ref (ad 63))]) hx hb dX12_isReply_6 rfl hl (by decide) rfl (fun ls hl => ?_)
  refine lv_aload_n hx hb dX12_isReply_7 rfl (lv_at hl 1 rfl) ?_
  refine r_getI C hw (k := 36) dq_63 ln_63 rfl vc_12 inX12 (by decide) rfl gw6_217 dX12_isReply_8 ?_
  refine lv_aload_n hx hb dX12_isReply_11 rfl (lv_at hl 1 rfl) ?_
  refine r_getI C hw (k := 69) dq_63 ln_63 rfl vc_12 inX12 (by decide) rfl gw7_10 dX12_isReply_12 ?_
  refine lv_icmp_ne (tgt := 66) hx hb dX12_isReply_15 (by decide) (fun c_15 => ?_) (fun c_15 => ?_)
  · have hf := if_f hf c_15
    refine lv_iconst (v := (0 : Int32)) hx hb dX12_isReply_66 (by decide) ?_
    exact r_zret C hw hr hlocks rfl hf dX12_isReply_67
  · have hf := if_t hf c_15
    refine lv_aload_n hx hb dX12_isReply_18 rfl (lv_at hl 1 rfl) ?_
    refine r_getI C hw (k := 32) dq_63 ln_63 rfl vc_12 inX12 (by decide) rfl gw6_213 dX12_isReply_19 ?_
    refine lv_aload_n hx hb dX12_isReply_22 rfl (lv_at hl 1 rfl) ?_
    refine r_getR C hw (k := 55) (r := 97) dq_63 ln_63 rfl vc_12 inX12 (by decide) rfl gw6_236 dX12_isReply_23 ?_
    refine lv_iload_n hx hb dX12_isReply_26 rfl (lv_at hl 0 rfl) ?_
    obtain ⟨z_27, hf⟩ := gd_some hf
    refine r_iald C hw (x := 97) dq_97 ln_97 z_27 dX12_isReply_27 ?_
    refine lv_icmp_ne (tgt := 66) hx hb dX12_isReply_28 (by decide) (fun c_28 => ?_) (fun c_28 => ?_)
    · have hf := if_f hf c_28
      refine lv_iconst (v := (0 : Int32)) hx hb dX12_isReply_66 (by decide) ?_
      exact r_zret C hw hr hlocks rfl hf dX12_isReply_67
    · have hf := if_t hf c_28
      refine lv_aload_n hx hb dX12_isReply_31 rfl (lv_at hl 1 rfl) ?_
      refine r_getI C hw (k := 33) dq_63 ln_63 rfl vc_12 inX12 (by decide) rfl gw6_214 dX12_isReply_32 ?_
      refine lv_aload_n hx hb dX12_isReply_35 rfl (lv_at hl 1 rfl) ?_
      refine r_getR C hw (k := 56) (r := 98) dq_63 ln_63 rfl vc_12 inX12 (by decide) rfl gw6_237 dX12_isReply_36 ?_
      refine lv_iload_n hx hb dX12_isReply_39 rfl (lv_at hl 0 rfl) ?_
      obtain ⟨z_40, hf⟩ := gd_some hf
      refine r_iald C hw (x := 98) dq_98 ln_98 z_40 dX12_isReply_40 ?_
      refine lv_icmp_ne (tgt := 66) hx hb dX12_isReply_41 (by decide) (fun c_41 => ?_) (fun c_41 => ?_)
      · have hf := if_f hf c_41
        refine lv_iconst (v := (0 : Int32)) hx hb dX12_isReply_66 (by decide) ?_
        exact r_zret C hw hr hlocks rfl hf dX12_isReply_67
      · have hf := if_t hf c_41
        refine lv_aload_n hx hb dX12_isReply_44 rfl (lv_at hl 1 rfl) ?_
        refine r_getI C hw (k := 34) dq_63 ln_63 rfl vc_12 inX12 (by decide) rfl gw6_215 dX12_isReply_45 ?_
        refine lv_iconst (v := (1 : Int32)) hx hb dX12_isReply_48 (by decide) ?_
        refine lv_icmp_ne (tgt := 66) hx hb dX12_isReply_49 (by decide) (fun c_49 => ?_) (fun c_49 => ?_)
        · have hf := if_f hf c_49
          refine lv_iconst (v := (0 : Int32)) hx hb dX12_isReply_66 (by decide) ?_
          exact r_zret C hw hr hlocks rfl hf dX12_isReply_67
        · have hf := if_t hf c_49
          refine lv_aload_n hx hb dX12_isReply_52 rfl (lv_at hl 1 rfl) ?_
          refine r_getI C hw (k := 35) dq_63 ln_63 rfl vc_12 inX12 (by decide) rfl gw6_216 dX12_isReply_53 ?_
          refine lv_ldc hx hb C.2.2.2.1 (C.2.2.2.2.1 _ (gw_of gw8_80 rfl)) dX12_isReply_56 ?_
          refine lv_iand hx hb dX12_isReply_58 ?_
          refine lv_if_eq (tgt := 66) hx hb dX12_isReply_59 (by decide) (fun c_59 => ?_) (fun c_59 => ?_)
          · have hf := if_t hf c_59
            refine lv_iconst (v := (0 : Int32)) hx hb dX12_isReply_66 (by decide) ?_
            exact r_zret C hw hr hlocks rfl hf dX12_isReply_67
          · have hf := if_f hf c_59
            refine lv_iconst (v := (1 : Int32)) hx hb dX12_isReply_62 (by decide) ?_
            refine lv_goto (tgt := 67) hx hb dX12_isReply_63 (by decide) ?_
            exact r_zret C hw hr hlocks rfl hf dX12_isReply_67
noncomputable def fX12_nothing_47 (fu : Nat) (x1 : Int32) (x2 : Int32) (t0 : Int64) (S : St) : Option (St × Int32) :=
  sJ 63 54 t0 S fun S_47 =>
  bd (fX12_puts fu x1 x2 S_47) fun S_53 _ =>
  some (S_53, (0 : Int32))
noncomputable def fX12_nothing (fu : Nat) (x1 : Int32) (x2 : Int32) (x3 : Int32) (S : St) : Option (St × Int32) :=
  gd (ck x3 100) <|
  gd (ck x3 100) <|
  sI 63 53 (0 : Int32) S fun S_28 =>
  if 0 ≤ (lg_cmp (((S.1 89 (x3).toNatClampNeg)).toInt64 &&& (4294967295 : Int64)) (((S.1 88 (x3).toNatClampNeg)).toInt64 &&& (4294967295 : Int64))) then
    fX12_nothing_47 fu x1 x2 (((S.1 88 (x3).toNatClampNeg)).toInt64 &&& (4294967295 : Int64)) S_28
  else
    fX12_nothing_47 fu x1 x2 (((S.1 89 (x3).toNatClampNeg)).toInt64 &&& (4294967295 : Int64)) S_28
theorem mvX12_nothing : MV yX12_nothing cX12_nothing 8 none RX12 3 := ⟨gw9_6, gw9_5, gs_96, gw1_13, by decide +kernel⟩
def rmX12_nothing : Room := { frames := 2, cells := 0, slots := 0, locals := 48 }
set_option maxHeartbeats 4000000 in
set_option maxRecDepth 100000 in
theorem m_X12_nothing (l : Launch) (D : va_G) (cA : FieldType → ClassId) (ad : Nat → Nat) (base : Nat) (fu : Nat) {S S' : St} {x1 : Int32} {x2 : Int32} {x3 : Int32} {r : Int32} (hf : fX12_nothing fu x1 x2 x3 S = some (S', r)) : Met l yX12_nothing (GC yX12_nothing cX12_nothing 8 none) rmX12_nothing (va_Pc [.ref (ad 63), .int x1, .int x2, .int x3] (wd D cA ad base S)) (QV D cA ad base S') 0 0 (aB base) := by
  refine Met.ofW (cc := cX12_nothing) (maxL := 8) (ret := none) (by decide) rfl ?_
  intro p e s m args below meth c s₁ B hml hv
  obtain ⟨hargs, hwd⟩ := hv
  have hr := B.returns
  have hlocks := B.notSynchronized
  obtain ⟨C, hw⟩ := CX.of (own := RX12) rfl B hml hwd
  have hx := C.1
  have hb := C.2.1
  have hl := lv_entry ([.ref (ad 63), .int x1, .int x2, .int x3]) (n := 8) (Nat.le_of_ble_eq_true rfl)
  rw [show entryFrame m args 8 = entryFrame m ([.ref (ad 63), .int x1, .int x2, .int x3] : List Value).toArray 8 from by rw [hargs], lg_entry_eq]
  generalize (lg_sl ([.ref (ad 63), .int x1, .int x2, .int x3]) ++ List.replicate (8 - (lg_sl ([.ref (ad 63), .int x1, .int x2, .int x3])).length) Slot.unset).toArray = ls at hl ⊢
  have hl : lv_has ls 8 [(0, .ref (ad 63)), (1, .int x1), (2, .int x2), (3, .int x3)] := hl
  have J_47 : ∀ (x1 : Int32) (x2 : Int32) (t0 : Int64) (S : St) (H : Heap) (locs : List Loc) (ls : Array Slot), fX12_nothing_47 fu x1 x2 t0 S = some (S', r) → lv_has ls 8 [(0, .ref (ad 63)), (1, .int x1), (2, .int x2)] → WS D cA ad base s S H locs → W p l e rmX12_nothing s m args below meth c H locs 0 0 (MQ below (QV D cA ad base S') args s 0 0 (aB base)) (F0 m 47 ls [.long t0, .ref (ad 63)]) := by
    intro x1 x2 t0 S H locs ls hf hl hw
    obtain ⟨S_47, e_47, hf⟩ := sJ_some hf
    refine r_putJ C hw (k := 54) (ty0 := tyX12) dq_63 ln_63 rfl vc_12 inX12 tyX12_ok nmX12 (by decide) rfl rfl gw6_235 rfl rfl dX12_nothing_47 e_47 (fun H locs hw => ?_)
    refine lv_aload_n hx hb dX12_nothing_50 rfl (lv_at hl 0 rfl) ?_
    refine lv_iload_n hx hb dX12_nothing_51 rfl (lv_at hl 1 rfl) ?_
    refine lv_iload_n hx hb dX12_nothing_52 rfl (lv_at hl 2 rfl) ?_
    obtain ⟨S_53, r_53, h_53, hf⟩ := bd_some hf
    refine r_bv hw (r_runV (rest := []) C hw (m_X12_puts l D cA ad base fu h_53) mvX12_puts gw8_231 ⟨rfl, rfl, Nat.le_of_ble_eq_true rfl, Nat.le_of_ble_eq_true rfl⟩ dq_63 ln_63 vc_12 rfl hl.1 rfl (Nat.le_of_ble_eq_true rfl) dX12_nothing_53 (Nat.zero_le _) (Nat.zero_le _)) (fun H locs hw => ?_)
    exact r_vret C hw hr hlocks hf dX12_nothing_56
  show W p l e rmX12_nothing s m args below meth c s.heap [] 0 0 _ _
  refine lv_aload_n hx hb dX12_nothing_0 rfl (lv_at hl 0 rfl) ?_
  refine r_getR C hw (k := 41) (r := 89) dq_63 ln_63 rfl vc_12 inX12 (by decide) rfl gw6_222 dX12_nothing_1 ?_
  refine lv_iload_n hx hb dX12_nothing_4 rfl (lv_at hl 3 rfl) ?_
  obtain ⟨z_5, hf⟩ := gd_some hf
  refine r_iald C hw (x := 89) dq_89 ln_89 z_5 dX12_nothing_5 ?_
  refine lv_i2l hx hb dX12_nothing_6 rfl ?_
  refine lv_ldc2 hx hb C.2.2.2.1 (C.2.2.2.2.1 _ (gw_of gw8_230 rfl)) dX12_nothing_7 ?_
  refine lv_land hx hb dX12_nothing_10 ?_
  refine lv_lstore (lv' := [(4, .long (((S.1 89 (x3).toNatClampNeg)).toInt64 &&& (4294967295 : Int64))), (0, .ref (ad 63)), (1, .int x1), (2, .int x2), (3, .int x3)]) hx hb dX12_nothing_11 hl (by decide) rfl (fun ls hl => ?_)
  refine lv_aload_n hx hb dX12_nothing_13 rfl (lv_at hl 1 rfl) ?_
  refine r_getR C hw (k := 40) (r := 88) dq_63 ln_63 rfl vc_12 inX12 (by decide) rfl gw6_221 dX12_nothing_14 ?_
  refine lv_iload_n hx hb dX12_nothing_17 rfl (lv_at hl 4 rfl) ?_
  obtain ⟨z_18, hf⟩ := gd_some hf
  refine r_iald C hw (x := 88) dq_88 ln_88 z_18 dX12_nothing_18 ?_
  refine lv_i2l hx hb dX12_nothing_19 rfl ?_
  refine lv_ldc2 hx hb C.2.2.2.1 (C.2.2.2.2.1 _ (gw_of gw8_230 rfl)) dX12_nothing_20 ?_
  refine lv_land hx hb dX12_nothing_23 ?_
  refine lv_lstore (lv' := [(6, .long (((S.1 88 (x3).toNatClampNeg)).toInt64 &&& (4294967295 : Int64))), (4, .long (((S.1 89 (x3).toNatClampNeg)).toInt64 &&& (4294967295 : Int64))), (0, .ref (ad 63)), (1, .int x1), (2, .int x2), (3, .int x3)]) hx hb dX12_nothing_24 hl (by decide) rfl (fun ls hl => ?_)
  refine lv_aload_n hx hb dX12_nothing_26 rfl (lv_at hl 2 rfl) ?_
  refine lv_iconst (v := (0 : Int32)) hx hb dX12_nothing_27 (by decide) ?_
  obtain ⟨S_28, e_28, hf⟩ := sI_some hf
  refine r_putI C hw (k := 53) (ty0 := tyX12) dq_63 ln_63 rfl vc_12 inX12 tyX12_ok nmX12 (by decide) rfl rfl gw6_234 rfl rfl dX12_nothing_28 e_28 (fun H locs hw => ?_)
  refine lv_aload_n hx hb dX12_nothing_31 rfl (lv_at hl 2 rfl) ?_
  refine lv_lload hx hb dX12_nothing_32 (lv_at hl 1 rfl) ?_
  refine lv_lload hx hb dX12_nothing_34 (lv_at hl 0 rfl) ?_
  refine W.lcmp hx hb dX12_nothing_36 ?_
  refine lv_if_ge (tgt := 45) hx hb dX12_nothing_37 (by decide) (fun c_37 => ?_) (fun c_37 => ?_)
  · have hf := if_t hf c_37
    refine lv_lload hx hb dX12_nothing_45 (lv_at hl 0 rfl) ?_
    exact J_47 _ _ _ _ _ _ _ hf (lv_sub hl [2, 3, 4] rfl) hw
  · have hf := if_f hf c_37
    refine lv_lload hx hb dX12_nothing_40 (lv_at hl 1 rfl) ?_
    refine lv_goto (tgt := 47) hx hb dX12_nothing_42 (by decide) ?_
    exact J_47 _ _ _ _ _ _ _ hf (lv_sub hl [2, 3, 4] rfl) hw
noncomputable def fX12_refersTo_154 (fu : Nat) (k_119 : Int32 → Int32 → St → Option (St × Int32)) (x4 : Int32) (x5 : Int32) (S : St) : Option (St × Int32) :=
  k_119 x4 (x5 + (1 : Int32)) S
noncomputable def fX12_refersTo_119 (fu : Nat) (n : Nat) : Int32 → Int32 → St → Option (St × Int32) :=
  Nat.rec (motive := fun _ => Int32 → Int32 → St → Option (St × Int32)) (fun _ _ _ => none) (fun _ k_119 x4 x5 S =>
    if x4 ≤ x5 then
      some (S, (0 : Int32))
    else
      gd (ck x5 10) <|
      bd (fX12_gathers fu (2 : Int32) (S.1 105 (x5).toNatClampNeg) (1 : Int32) S) fun S_136 r_136 =>
      if r_136 ≤ 0 then
        fX12_refersTo_154 fu k_119 x4 x5 S_136
      else
        gd (ck x5 10) <|
        bd (fX12_puts fu (S_136.1 105 (x5).toNatClampNeg) (1 : Int32) S_136) fun S_151 _ =>
        fX12_refersTo_154 fu k_119 x4 x5 S_151) n
theorem fX12_refersTo_119_s (fu : Nat) (n : Nat) (x4 : Int32) (x5 : Int32) (S : St) : fX12_refersTo_119 fu (n + 1) x4 x5 S = (
    if x4 ≤ x5 then
      some (S, (0 : Int32))
    else
      gd (ck x5 10) <|
      bd (fX12_gathers fu (2 : Int32) (S.1 105 (x5).toNatClampNeg) (1 : Int32) S) fun S_136 r_136 =>
      if r_136 ≤ 0 then
        fX12_refersTo_154 fu (fX12_refersTo_119 fu n) x4 x5 S_136
      else
        gd (ck x5 10) <|
        bd (fX12_puts fu (S_136.1 105 (x5).toNatClampNeg) (1 : Int32) S_136) fun S_151 _ =>
        fX12_refersTo_154 fu (fX12_refersTo_119 fu n) x4 x5 S_151) := rfl
noncomputable def fX12_refersTo_78 (fu : Nat) (n : Nat) : Int32 → Int32 → Int32 → St → Option (St × Int32) :=
  Nat.rec (motive := fun _ => Int32 → Int32 → Int32 → St → Option (St × Int32)) (fun _ _ _ _ => none) (fun _ k_78 x3 x4 x5 S =>
    if x4 ≤ x5 then
      gd (ck x3 100) <|
      bd (fX12_puts fu (S.1 86 (x3).toNatClampNeg) (2 : Int32) S) fun S_113 _ =>
      fX12_refersTo_119 fu fu x4 (0 : Int32) S_113
    else
      gd (ck x5 10) <|
      gd (ck x5 10) <|
      sI 105 (x5).toNatClampNeg (S.1 96 (x5).toNatClampNeg) S fun S_98 =>
      k_78 x3 x4 (x5 + (1 : Int32)) S_98) n
theorem fX12_refersTo_78_s (fu : Nat) (n : Nat) (x3 : Int32) (x4 : Int32) (x5 : Int32) (S : St) : fX12_refersTo_78 fu (n + 1) x3 x4 x5 S = (
    if x4 ≤ x5 then
      gd (ck x3 100) <|
      bd (fX12_puts fu (S.1 86 (x3).toNatClampNeg) (2 : Int32) S) fun S_113 _ =>
      fX12_refersTo_119 fu fu x4 (0 : Int32) S_113
    else
      gd (ck x5 10) <|
      gd (ck x5 10) <|
      sI 105 (x5).toNatClampNeg (S.1 96 (x5).toNatClampNeg) S fun S_98 =>
      (fX12_refersTo_78 fu n) x3 x4 (x5 + (1 : Int32)) S_98) := rfl
noncomputable def fX12_refersTo (fu : Nat) (x1 : Int32) (x2 : Int32) (S : St) : Option (St × Int32) :=
  bd (fX12_first fu (1 : Int32) (2 : Int32) (-1 : Int32) S) fun S_4 r_4 =>
  if r_4 < 0 then
    some (S_4, (0 : Int32))
  else
    gd (ck r_4 100) <|
    gd (ck x1 4) <|
    if (S_4.1 86 (r_4).toNatClampNeg) = (S_4.1 100 (x1).toNatClampNeg) then
      some (S_4, (0 : Int32))
    else
      gd (ck r_4 100) <|
      gd (ck x1 4) <|
      bd (fX12_isIn fu (S_4.1 86 (r_4).toNatClampNeg) (S_4.1 100 (x1).toNatClampNeg) S_4) fun S_40 r_40 =>
      if r_40 = 0 then
        some (S_40, (0 : Int32))
      else
        gd (ck r_4 100) <|
        bd (fX12_isIn fu x2 (S_40.1 86 (r_4).toNatClampNeg) S_40) fun S_54 r_54 =>
        if r_54 = 0 then
          some (S_54, (0 : Int32))
        else
          gd (ck r_4 100) <|
          bd (fX12_gathers fu (1 : Int32) (S_54.1 86 (r_4).toNatClampNeg) (2 : Int32) S_54) fun S_70 r_70 =>
          fX12_refersTo_78 fu fu r_4 r_70 (0 : Int32) S_70
theorem mvX12_refersTo : MV yX12_refersTo cX12_refersTo 6 none RX12 2 := ⟨gw9_10, gw9_9, gs_97, gw1_13, by decide +kernel⟩
def rmX12_refersTo : Room := { frames := 2, cells := 0, slots := 0, locals := 48 }
set_option maxHeartbeats 4000000 in
set_option maxRecDepth 100000 in
theorem m_X12_refersTo (l : Launch) (D : va_G) (cA : FieldType → ClassId) (ad : Nat → Nat) (base : Nat) (fu : Nat) {S S' : St} {x1 : Int32} {x2 : Int32} {r : Int32} (hf : fX12_refersTo fu x1 x2 S = some (S', r)) : Met l yX12_refersTo (GC yX12_refersTo cX12_refersTo 6 none) rmX12_refersTo (va_Pc [.ref (ad 63), .int x1, .int x2] (wd D cA ad base S)) (QV D cA ad base S') 0 0 (aB base) := by
  refine Met.ofW (cc := cX12_refersTo) (maxL := 6) (ret := none) (by decide) rfl ?_
  intro p e s m args below meth c s₁ B hml hv
  obtain ⟨hargs, hwd⟩ := hv
  have hr := B.returns
  have hlocks := B.notSynchronized
  obtain ⟨C, hw⟩ := CX.of (own := RX12) rfl B hml hwd
  have hx := C.1
  have hb := C.2.1
  have hl := lv_entry ([.ref (ad 63), .int x1, .int x2]) (n := 6) (Nat.le_of_ble_eq_true rfl)
  rw [show entryFrame m args 6 = entryFrame m ([.ref (ad 63), .int x1, .int x2] : List Value).toArray 6 from by rw [hargs], lg_entry_eq]
  generalize (lg_sl ([.ref (ad 63), .int x1, .int x2]) ++ List.replicate (6 - (lg_sl ([.ref (ad 63), .int x1, .int x2])).length) Slot.unset).toArray = ls at hl ⊢
  have hl : lv_has ls 6 [(0, .ref (ad 63)), (1, .int x1), (2, .int x2)] := hl
  have L_119 : ∀ (n_119 : Nat) (x4 : Int32) (x5 : Int32) (S : St) (H : Heap) (locs : List Loc) (ls : Array Slot), fX12_refersTo_119 fu n_119 x4 x5 S = some (S', r) → lv_has ls 6 [(0, .ref (ad 63)), (4, .int x4), (5, .int x5)] → WS D cA ad base s S H locs → W p l e rmX12_refersTo s m args below meth c H locs 0 0 (MQ below (QV D cA ad base S') args s 0 0 (aB base)) (F0 m 119 ls []) := by
    intro n_119
    induction n_119 with
    | zero =>
      intro x4 x5 S H locs ls hf hl hw
      exact (no_none hf).elim
    | succ n_119 ih_119 =>
      have J_154 : ∀ (x4 : Int32) (x5 : Int32) (S : St) (H : Heap) (locs : List Loc) (ls : Array Slot), fX12_refersTo_154 fu (fX12_refersTo_119 fu n_119) x4 x5 S = some (S', r) → lv_has ls 6 [(0, .ref (ad 63)), (4, .int x4), (5, .int x5)] → WS D cA ad base s S H locs → W p l e rmX12_refersTo s m args below meth c H locs 0 0 (MQ below (QV D cA ad base S') args s 0 0 (aB base)) (F0 m 154 ls []) := by
        intro x4 x5 S H locs ls hf hl hw
        refine lv_iinc (v := (x5 + (1 : Int32))) (lv' := [(5, .int (x5 + (1 : Int32))), (0, .ref (ad 63)), (4, .int x4)]) hx hb dX12_refersTo_154 hl (k := 2) rfl rfl (by decide) rfl (fun ls hl => ?_)
        refine lv_goto (tgt := 119) hx hb dX12_refersTo_157 (by decide) ?_
        exact ih_119 _ _ _ _ _ _ hf (lv_sub hl [1, 2, 0] rfl) hw
      intro x4 x5 S H locs ls hf hl hw
      rw [fX12_refersTo_119_s] at hf
      refine lv_iload hx hb dX12_refersTo_119 (lv_at hl 2 rfl) ?_
      refine lv_iload hx hb dX12_refersTo_121 (lv_at hl 1 rfl) ?_
      refine lv_icmp_ge (tgt := 160) hx hb dX12_refersTo_123 (by decide) (fun c_123 => ?_) (fun c_123 => ?_)
      · have hf := if_t hf c_123
        exact r_vret C hw hr hlocks hf dX12_refersTo_160
      · have hf := if_f hf c_123
        refine lv_aload_n hx hb dX12_refersTo_126 rfl (lv_at hl 0 rfl) ?_
        refine lv_iconst (v := (2 : Int32)) hx hb dX12_refersTo_127 (by decide) ?_
        refine lv_aload_n hx hb dX12_refersTo_128 rfl (lv_at hl 0 rfl) ?_
        refine r_getR C hw (k := 72) (r := 105) dq_63 ln_63 rfl vc_12 inX12 (by decide) rfl gw7_13 dX12_refersTo_129 ?_
        refine lv_iload hx hb dX12_refersTo_132 (lv_at hl 2 rfl) ?_
        obtain ⟨z_134, hf⟩ := gd_some hf
        refine r_iald C hw (x := 105) dq_105 ln_105 z_134 dX12_refersTo_134 ?_
        refine lv_iconst (v := (1 : Int32)) hx hb dX12_refersTo_135 (by decide) ?_
        obtain ⟨S_136, r_136, h_136, hf⟩ := bd_some hf
        refine r_bi hw (r_runV (rest := []) C hw (m_X12_gathers l D cA ad base fu h_136) mvX12_gathers gw8_225 ⟨rfl, rfl, Nat.le_of_ble_eq_true rfl, Nat.le_of_ble_eq_true rfl⟩ dq_63 ln_63 vc_12 rfl hl.1 rfl (Nat.le_of_ble_eq_true rfl) dX12_refersTo_136 (Nat.zero_le _) (Nat.zero_le _)) (fun H locs hw => ?_)
        refine lv_if_le (tgt := 154) hx hb dX12_refersTo_139 (by decide) (fun c_139 => ?_) (fun c_139 => ?_)
        · have hf := if_t hf c_139
          exact J_154 _ _ _ _ _ _ hf (lv_sub hl [0, 1, 2] rfl) hw
        · have hf := if_f hf c_139
          refine lv_aload_n hx hb dX12_refersTo_142 rfl (lv_at hl 0 rfl) ?_
          refine lv_aload_n hx hb dX12_refersTo_143 rfl (lv_at hl 0 rfl) ?_
          refine r_getR C hw (k := 72) (r := 105) dq_63 ln_63 rfl vc_12 inX12 (by decide) rfl gw7_13 dX12_refersTo_144 ?_
          refine lv_iload hx hb dX12_refersTo_147 (lv_at hl 2 rfl) ?_
          obtain ⟨z_149, hf⟩ := gd_some hf
          refine r_iald C hw (x := 105) dq_105 ln_105 z_149 dX12_refersTo_149 ?_
          refine lv_iconst (v := (1 : Int32)) hx hb dX12_refersTo_150 (by decide) ?_
          obtain ⟨S_151, r_151, h_151, hf⟩ := bd_some hf
          refine r_bv hw (r_runV (rest := []) C hw (m_X12_puts l D cA ad base fu h_151) mvX12_puts gw8_231 ⟨rfl, rfl, Nat.le_of_ble_eq_true rfl, Nat.le_of_ble_eq_true rfl⟩ dq_63 ln_63 vc_12 rfl hl.1 rfl (Nat.le_of_ble_eq_true rfl) dX12_refersTo_151 (Nat.zero_le _) (Nat.zero_le _)) (fun H locs hw => ?_)
          exact J_154 _ _ _ _ _ _ hf (lv_sub hl [0, 1, 2] rfl) hw
  have L_78 : ∀ (n_78 : Nat) (x3 : Int32) (x4 : Int32) (x5 : Int32) (S : St) (H : Heap) (locs : List Loc) (ls : Array Slot), fX12_refersTo_78 fu n_78 x3 x4 x5 S = some (S', r) → lv_has ls 6 [(0, .ref (ad 63)), (3, .int x3), (4, .int x4), (5, .int x5)] → WS D cA ad base s S H locs → W p l e rmX12_refersTo s m args below meth c H locs 0 0 (MQ below (QV D cA ad base S') args s 0 0 (aB base)) (F0 m 78 ls []) := by
    intro n_78
    induction n_78 with
    | zero =>
      intro x3 x4 x5 S H locs ls hf hl hw
      exact (no_none hf).elim
    | succ n_78 ih_78 =>
      intro x3 x4 x5 S H locs ls hf hl hw
      rw [fX12_refersTo_78_s] at hf
      refine lv_iload hx hb dX12_refersTo_78 (lv_at hl 3 rfl) ?_
      refine lv_iload hx hb dX12_refersTo_80 (lv_at hl 2 rfl) ?_
      refine lv_icmp_ge (tgt := 105) hx hb dX12_refersTo_82 (by decide) (fun c_82 => ?_) (fun c_82 => ?_)
      · have hf := if_t hf c_82
        refine lv_aload_n hx hb dX12_refersTo_105 rfl (lv_at hl 0 rfl) ?_
        refine lv_aload_n hx hb dX12_refersTo_106 rfl (lv_at hl 0 rfl) ?_
        refine r_getR C hw (k := 38) (r := 86) dq_63 ln_63 rfl vc_12 inX12 (by decide) rfl gw6_219 dX12_refersTo_107 ?_
        refine lv_iload_n hx hb dX12_refersTo_110 rfl (lv_at hl 1 rfl) ?_
        obtain ⟨z_111, hf⟩ := gd_some hf
        refine r_iald C hw (x := 86) dq_86 ln_86 z_111 dX12_refersTo_111 ?_
        refine lv_iconst (v := (2 : Int32)) hx hb dX12_refersTo_112 (by decide) ?_
        obtain ⟨S_113, r_113, h_113, hf⟩ := bd_some hf
        refine r_bv hw (r_runV (rest := []) C hw (m_X12_puts l D cA ad base fu h_113) mvX12_puts gw8_231 ⟨rfl, rfl, Nat.le_of_ble_eq_true rfl, Nat.le_of_ble_eq_true rfl⟩ dq_63 ln_63 vc_12 rfl hl.1 rfl (Nat.le_of_ble_eq_true rfl) dX12_refersTo_113 (Nat.zero_le _) (Nat.zero_le _)) (fun H locs hw => ?_)
        refine lv_iconst (v := (0 : Int32)) hx hb dX12_refersTo_116 (by decide) ?_
        refine lv_istore (lv' := [(5, .int (0 : Int32)), (0, .ref (ad 63)), (3, .int x3), (4, .int x4)]) hx hb dX12_refersTo_117 hl (by decide) rfl (fun ls hl => ?_)
        exact L_119 fu _ _ _ _ _ _ hf (lv_sub hl [1, 3, 0] rfl) hw
      · have hf := if_f hf c_82
        refine lv_aload_n hx hb dX12_refersTo_85 rfl (lv_at hl 0 rfl) ?_
        refine r_getR C hw (k := 72) (r := 105) dq_63 ln_63 rfl vc_12 inX12 (by decide) rfl gw7_13 dX12_refersTo_86 ?_
        refine lv_iload hx hb dX12_refersTo_89 (lv_at hl 3 rfl) ?_
        refine lv_aload_n hx hb dX12_refersTo_91 rfl (lv_at hl 0 rfl) ?_
        refine r_getR C hw (k := 52) (r := 96) dq_63 ln_63 rfl vc_12 inX12 (by decide) rfl gw6_233 dX12_refersTo_92 ?_
        refine lv_iload hx hb dX12_refersTo_95 (lv_at hl 3 rfl) ?_
        obtain ⟨z_97, hf⟩ := gd_some hf
        refine r_iald C hw (x := 96) dq_96 ln_96 z_97 dX12_refersTo_97 ?_
        obtain ⟨z_98, hf⟩ := gd_some hf
        obtain ⟨S_98, e_98, hf⟩ := sI_some hf
        refine r_iast C hw (x := 105) dq_105 ln_105 z_98 dX12_refersTo_98 e_98 (fun H locs hw => ?_)
        refine lv_iinc (v := (x5 + (1 : Int32))) (lv' := [(5, .int (x5 + (1 : Int32))), (0, .ref (ad 63)), (3, .int x3), (4, .int x4)]) hx hb dX12_refersTo_99 hl (k := 3) rfl rfl (by decide) rfl (fun ls hl => ?_)
        refine lv_goto (tgt := 78) hx hb dX12_refersTo_102 (by decide) ?_
        exact ih_78 _ _ _ _ _ _ _ hf (lv_sub hl [1, 2, 3, 0] rfl) hw
  show W p l e rmX12_refersTo s m args below meth c s.heap [] 0 0 _ _
  refine lv_aload_n hx hb dX12_refersTo_0 rfl (lv_at hl 0 rfl) ?_
  refine lv_iconst (v := (1 : Int32)) hx hb dX12_refersTo_1 (by decide) ?_
  refine lv_iconst (v := (2 : Int32)) hx hb dX12_refersTo_2 (by decide) ?_
  refine lv_iconst (v := (-1 : Int32)) hx hb dX12_refersTo_3 (by decide) ?_
  obtain ⟨S_4, r_4, h_4, hf⟩ := bd_some hf
  refine r_bi hw (r_runV (rest := []) C hw (m_X12_first l D cA ad base fu h_4) mvX12_first gw8_239 ⟨rfl, rfl, Nat.le_of_ble_eq_true rfl, Nat.le_of_ble_eq_true rfl⟩ dq_63 ln_63 vc_12 rfl hl.1 rfl (Nat.le_of_ble_eq_true rfl) dX12_refersTo_4 (Nat.zero_le _) (Nat.zero_le _)) (fun H locs hw => ?_)
  refine lv_istore_n (lv' := [(3, .int r_4), (0, .ref (ad 63)), (1, .int x1), (2, .int x2)]) hx hb dX12_refersTo_7 rfl hl (by decide) rfl (fun ls hl => ?_)
  refine lv_iload_n hx hb dX12_refersTo_8 rfl (lv_at hl 0 rfl) ?_
  refine lv_if_lt (tgt := 60) hx hb dX12_refersTo_9 (by decide) (fun c_9 => ?_) (fun c_9 => ?_)
  · have hf := if_t hf c_9
    exact r_vret C hw hr hlocks hf dX12_refersTo_60
  · have hf := if_f hf c_9
    refine lv_aload_n hx hb dX12_refersTo_12 rfl (lv_at hl 1 rfl) ?_
    refine r_getR C hw (k := 38) (r := 86) dq_63 ln_63 rfl vc_12 inX12 (by decide) rfl gw6_219 dX12_refersTo_13 ?_
    refine lv_iload_n hx hb dX12_refersTo_16 rfl (lv_at hl 0 rfl) ?_
    obtain ⟨z_17, hf⟩ := gd_some hf
    refine r_iald C hw (x := 86) dq_86 ln_86 z_17 dX12_refersTo_17 ?_
    refine lv_aload_n hx hb dX12_refersTo_18 rfl (lv_at hl 1 rfl) ?_
    refine r_getR C hw (k := 58) (r := 100) dq_63 ln_63 rfl vc_12 inX12 (by decide) rfl gw6_239 dX12_refersTo_19 ?_
    refine lv_iload_n hx hb dX12_refersTo_22 rfl (lv_at hl 2 rfl) ?_
    obtain ⟨z_23, hf⟩ := gd_some hf
    refine r_iald C hw (x := 100) dq_100 ln_100 z_23 dX12_refersTo_23 ?_
    refine lv_icmp_eq (tgt := 60) hx hb dX12_refersTo_24 (by decide) (fun c_24 => ?_) (fun c_24 => ?_)
    · have hf := if_t hf c_24
      exact r_vret C hw hr hlocks hf dX12_refersTo_60
    · have hf := if_f hf c_24
      refine lv_aload_n hx hb dX12_refersTo_27 rfl (lv_at hl 1 rfl) ?_
      refine lv_aload_n hx hb dX12_refersTo_28 rfl (lv_at hl 1 rfl) ?_
      refine r_getR C hw (k := 38) (r := 86) dq_63 ln_63 rfl vc_12 inX12 (by decide) rfl gw6_219 dX12_refersTo_29 ?_
      refine lv_iload_n hx hb dX12_refersTo_32 rfl (lv_at hl 0 rfl) ?_
      obtain ⟨z_33, hf⟩ := gd_some hf
      refine r_iald C hw (x := 86) dq_86 ln_86 z_33 dX12_refersTo_33 ?_
      refine lv_aload_n hx hb dX12_refersTo_34 rfl (lv_at hl 1 rfl) ?_
      refine r_getR C hw (k := 58) (r := 100) dq_63 ln_63 rfl vc_12 inX12 (by decide) rfl gw6_239 dX12_refersTo_35 ?_
      refine lv_iload_n hx hb dX12_refersTo_38 rfl (lv_at hl 2 rfl) ?_
      obtain ⟨z_39, hf⟩ := gd_some hf
      refine r_iald C hw (x := 100) dq_100 ln_100 z_39 dX12_refersTo_39 ?_
      obtain ⟨S_40, r_40, h_40, hf⟩ := bd_some hf
      refine r_bi hw (r_runV (rest := []) C hw (m_X12_isIn l D cA ad base fu h_40) mvX12_isIn gw8_5 ⟨rfl, rfl, Nat.le_of_ble_eq_true rfl, Nat.le_of_ble_eq_true rfl⟩ dq_63 ln_63 vc_12 rfl hl.1 rfl (Nat.le_of_ble_eq_true rfl) dX12_refersTo_40 (Nat.zero_le _) (Nat.zero_le _)) (fun H locs hw => ?_)
      refine lv_if_eq (tgt := 60) hx hb dX12_refersTo_43 (by decide) (fun c_43 => ?_) (fun c_43 => ?_)
      · have hf := if_t hf c_43
        exact r_vret C hw hr hlocks hf dX12_refersTo_60
      · have hf := if_f hf c_43
        refine lv_aload_n hx hb dX12_refersTo_46 rfl (lv_at hl 1 rfl) ?_
        refine lv_iload_n hx hb dX12_refersTo_47 rfl (lv_at hl 3 rfl) ?_
        refine lv_aload_n hx hb dX12_refersTo_48 rfl (lv_at hl 1 rfl) ?_
        refine r_getR C hw (k := 38) (r := 86) dq_63 ln_63 rfl vc_12 inX12 (by decide) rfl gw6_219 dX12_refersTo_49 ?_
        refine lv_iload_n hx hb dX12_refersTo_52 rfl (lv_at hl 0 rfl) ?_
        obtain ⟨z_53, hf⟩ := gd_some hf
        refine r_iald C hw (x := 86) dq_86 ln_86 z_53 dX12_refersTo_53 ?_
        obtain ⟨S_54, r_54, h_54, hf⟩ := bd_some hf
        refine r_bi hw (r_runV (rest := []) C hw (m_X12_isIn l D cA ad base fu h_54) mvX12_isIn gw8_5 ⟨rfl, rfl, Nat.le_of_ble_eq_true rfl, Nat.le_of_ble_eq_true rfl⟩ dq_63 ln_63 vc_12 rfl hl.1 rfl (Nat.le_of_ble_eq_true rfl) dX12_refersTo_54 (Nat.zero_le _) (Nat.zero_le _)) (fun H locs hw => ?_)
        refine lv_if_ne (tgt := 61) hx hb dX12_refersTo_57 (by decide) (fun c_57 => ?_) (fun c_57 => ?_)
        · have hf := if_f hf c_57
          refine lv_aload_n hx hb dX12_refersTo_61 rfl (lv_at hl 1 rfl) ?_
          refine lv_iconst (v := (1 : Int32)) hx hb dX12_refersTo_62 (by decide) ?_
          refine lv_aload_n hx hb dX12_refersTo_63 rfl (lv_at hl 1 rfl) ?_
          refine r_getR C hw (k := 38) (r := 86) dq_63 ln_63 rfl vc_12 inX12 (by decide) rfl gw6_219 dX12_refersTo_64 ?_
          refine lv_iload_n hx hb dX12_refersTo_67 rfl (lv_at hl 0 rfl) ?_
          obtain ⟨z_68, hf⟩ := gd_some hf
          refine r_iald C hw (x := 86) dq_86 ln_86 z_68 dX12_refersTo_68 ?_
          refine lv_iconst (v := (2 : Int32)) hx hb dX12_refersTo_69 (by decide) ?_
          obtain ⟨S_70, r_70, h_70, hf⟩ := bd_some hf
          refine r_bi hw (r_runV (rest := []) C hw (m_X12_gathers l D cA ad base fu h_70) mvX12_gathers gw8_225 ⟨rfl, rfl, Nat.le_of_ble_eq_true rfl, Nat.le_of_ble_eq_true rfl⟩ dq_63 ln_63 vc_12 rfl hl.1 rfl (Nat.le_of_ble_eq_true rfl) dX12_refersTo_70 (Nat.zero_le _) (Nat.zero_le _)) (fun H locs hw => ?_)
          refine lv_istore (lv' := [(4, .int r_70), (3, .int r_4), (0, .ref (ad 63)), (1, .int x1), (2, .int x2)]) hx hb dX12_refersTo_73 hl (by decide) rfl (fun ls hl => ?_)
          refine lv_iconst (v := (0 : Int32)) hx hb dX12_refersTo_75 (by decide) ?_
          refine lv_istore (lv' := [(5, .int (0 : Int32)), (4, .int r_70), (3, .int r_4), (0, .ref (ad 63)), (1, .int x1), (2, .int x2)]) hx hb dX12_refersTo_76 hl (by decide) rfl (fun ls hl => ?_)
          exact L_78 fu _ _ _ _ _ _ _ hf (lv_sub hl [3, 2, 1, 0] rfl) hw
        · have hf := if_t hf c_57
          exact r_vret C hw hr hlocks hf dX12_refersTo_60
noncomputable def fX12_takes_178 (fu : Nat) (x1 : Int32) (x2 : Int32) (S : St) : Option (St × Int32) :=
  bd (fX12_refersTo fu x1 x2 S) fun S_181 _ =>
  some (S_181, (0 : Int32))
noncomputable def fX12_takes_141 (fu : Nat) (x1 : Int32) (x2 : Int32) (x3 : Int32) (x5 : Int32) (S : St) : Option (St × Int32) :=
  if ((S.1 63 35) &&& (15 : Int32)) = 0 then
    if ((S.1 63 35) &&& (1024 : Int32)) = 0 then
      fX12_takes_178 fu x1 x2 S
    else
      if x5 < 0 then
        fX12_takes_178 fu x1 x2 S
      else
        bd (fX12_nothing fu x2 x3 x5 S) fun S_172 _ =>
        some (S_172, (0 : Int32))
  else
    fX12_takes_178 fu x1 x2 S
noncomputable def fX12_takes_54 (fu : Nat) (x1 : Int32) (x2 : Int32) (x3 : Int32) (t0 : Int32) (S : St) : Option (St × Int32) :=
  bd (fX12_first fu (1 : Int32) (6 : Int32) (-1 : Int32) S) fun S_61 r_61 =>
  if t0 < 0 then
    if ((S_61.1 63 35) &&& (15 : Int32)) = (3 : Int32) then
      if r_61 < 0 then
        fX12_takes_141 fu x1 x2 x3 r_61 S_61
      else
        bd (fX12_nothing fu x2 (0 : Int32) r_61 S_61) fun S_135 _ =>
        some (S_135, (0 : Int32))
    else
      fX12_takes_141 fu x1 x2 x3 r_61 S_61
  else
    sI 63 53 (1 : Int32) S_61 fun S_73 =>
    gd (ck t0 100) <|
    gd (ck (0 : Int32) 10) <|
    sI 96 ((0 : Int32)).toNatClampNeg (S_73.1 88 (t0).toNatClampNeg) S_73 fun S_88 =>
    gd (ck t0 100) <|
    sJ 63 54 (((S_88.1 89 (t0).toNatClampNeg)).toInt64 &&& (4294967295 : Int64)) S_88 fun S_102 =>
    bd (fX12_puts fu x2 (5 : Int32) S_102) fun S_108 _ =>
    some (S_108, (0 : Int32))
noncomputable def fX12_takes (fu : Nat) (S : St) : Option (St × Int32) :=
  gd (ck ((S.1 63 62) - (1 : Int32)) 4) <|
  gd (ck ((S.1 63 62) - (1 : Int32)) 4) <|
  bd (fX12_gathers fu (0 : Int32) (S.1 97 (((S.1 63 62) - (1 : Int32))).toNatClampNeg) (S.1 98 (((S.1 63 62) - (1 : Int32))).toNatClampNeg) S) fun S_25 r_25 =>
  if r_25 ≤ 0 then
    if (S.1 98 (((S.1 63 62) - (1 : Int32))).toNatClampNeg) = (5 : Int32) then
      fX12_takes_54 fu ((S.1 63 62) - (1 : Int32)) (S.1 97 (((S.1 63 62) - (1 : Int32))).toNatClampNeg) (S.1 98 (((S.1 63 62) - (1 : Int32))).toNatClampNeg) (-1 : Int32) S_25
    else
      bd (fX12_first fu (0 : Int32) (5 : Int32) (S.1 97 (((S.1 63 62) - (1 : Int32))).toNatClampNeg) S_25) fun S_51 r_51 =>
      fX12_takes_54 fu ((S.1 63 62) - (1 : Int32)) (S.1 97 (((S.1 63 62) - (1 : Int32))).toNatClampNeg) (S.1 98 (((S.1 63 62) - (1 : Int32))).toNatClampNeg) r_51 S_51
  else
    bd (fX12_puts fu (S.1 97 (((S.1 63 62) - (1 : Int32))).toNatClampNeg) (S.1 98 (((S.1 63 62) - (1 : Int32))).toNatClampNeg) S_25) fun S_34 _ =>
    some (S_34, (0 : Int32))
theorem mvX12_takes : MV yX12_takes cX12_takes 6 none RX12 0 := ⟨gw8_224, gw8_223, gs_91, gw1_13, by decide +kernel⟩
def rmX12_takes : Room := { frames := 3, cells := 0, slots := 0, locals := 75 }
set_option maxHeartbeats 4000000 in
set_option maxRecDepth 100000 in
theorem m_X12_takes (l : Launch) (D : va_G) (cA : FieldType → ClassId) (ad : Nat → Nat) (base : Nat) (fu : Nat) {S S' : St} {r : Int32} (hf : fX12_takes fu S = some (S', r)) : Met l yX12_takes (GC yX12_takes cX12_takes 6 none) rmX12_takes (va_Pc [.ref (ad 63)] (wd D cA ad base S)) (QV D cA ad base S') 0 0 (aB base) := by
  refine Met.ofW (cc := cX12_takes) (maxL := 6) (ret := none) (by decide) rfl ?_
  intro p e s m args below meth c s₁ B hml hv
  obtain ⟨hargs, hwd⟩ := hv
  have hr := B.returns
  have hlocks := B.notSynchronized
  obtain ⟨C, hw⟩ := CX.of (own := RX12) rfl B hml hwd
  have hx := C.1
  have hb := C.2.1
  have hl := lv_entry ([.ref (ad 63)]) (n := 6) (Nat.le_of_ble_eq_true rfl)
  rw [show entryFrame m args 6 = entryFrame m ([.ref (ad 63)] : List Value).toArray 6 from by rw [hargs], lg_entry_eq]
  generalize (lg_sl ([.ref (ad 63)]) ++ List.replicate (6 - (lg_sl ([.ref (ad 63)])).length) Slot.unset).toArray = ls at hl ⊢
  have hl : lv_has ls 6 [(0, .ref (ad 63))] := hl
  have J_178 : ∀ (x1 : Int32) (x2 : Int32) (S : St) (H : Heap) (locs : List Loc) (ls : Array Slot), fX12_takes_178 fu x1 x2 S = some (S', r) → lv_has ls 6 [(0, .ref (ad 63)), (1, .int x1), (2, .int x2)] → WS D cA ad base s S H locs → W p l e rmX12_takes s m args below meth c H locs 0 0 (MQ below (QV D cA ad base S') args s 0 0 (aB base)) (F0 m 178 ls []) := by
    intro x1 x2 S H locs ls hf hl hw
    refine lv_aload_n hx hb dX12_takes_178 rfl (lv_at hl 0 rfl) ?_
    refine lv_iload_n hx hb dX12_takes_179 rfl (lv_at hl 1 rfl) ?_
    refine lv_iload_n hx hb dX12_takes_180 rfl (lv_at hl 2 rfl) ?_
    obtain ⟨S_181, r_181, h_181, hf⟩ := bd_some hf
    refine r_bv hw (r_runV (rest := []) C hw (m_X12_refersTo l D cA ad base fu h_181) mvX12_refersTo gw9_7 ⟨rfl, rfl, Nat.le_of_ble_eq_true rfl, Nat.le_of_ble_eq_true rfl⟩ dq_63 ln_63 vc_12 rfl hl.1 rfl (Nat.le_of_ble_eq_true rfl) dX12_takes_181 (Nat.zero_le _) (Nat.zero_le _)) (fun H locs hw => ?_)
    exact r_vret C hw hr hlocks hf dX12_takes_184
  have J_141 : ∀ (x1 : Int32) (x2 : Int32) (x3 : Int32) (x5 : Int32) (S : St) (H : Heap) (locs : List Loc) (ls : Array Slot), fX12_takes_141 fu x1 x2 x3 x5 S = some (S', r) → lv_has ls 6 [(0, .ref (ad 63)), (1, .int x1), (2, .int x2), (3, .int x3), (5, .int x5)] → WS D cA ad base s S H locs → W p l e rmX12_takes s m args below meth c H locs 0 0 (MQ below (QV D cA ad base S') args s 0 0 (aB base)) (F0 m 141 ls []) := by
    intro x1 x2 x3 x5 S H locs ls hf hl hw
    refine lv_aload_n hx hb dX12_takes_141 rfl (lv_at hl 0 rfl) ?_
    refine r_getI C hw (k := 35) dq_63 ln_63 rfl vc_12 inX12 (by decide) rfl gw6_216 dX12_takes_142 ?_
    refine lv_bipush (v := (15 : Int32)) hx hb dX12_takes_145 (by decide) ?_
    refine lv_iand hx hb dX12_takes_147 ?_
    refine lv_if_ne (tgt := 178) hx hb dX12_takes_148 (by decide) (fun c_148 => ?_) (fun c_148 => ?_)
    · have hf := if_f hf c_148
      exact J_178 _ _ _ _ _ _ hf (lv_sub hl [0, 1, 2] rfl) hw
    · have hf := if_t hf c_148
      refine lv_aload_n hx hb dX12_takes_151 rfl (lv_at hl 0 rfl) ?_
      refine r_getI C hw (k := 35) dq_63 ln_63 rfl vc_12 inX12 (by decide) rfl gw6_216 dX12_takes_152 ?_
      refine lv_sipush (v := (1024 : Int32)) hx hb dX12_takes_155 (by decide) ?_
      refine lv_iand hx hb dX12_takes_158 ?_
      refine lv_if_eq (tgt := 178) hx hb dX12_takes_159 (by decide) (fun c_159 => ?_) (fun c_159 => ?_)
      · have hf := if_t hf c_159
        exact J_178 _ _ _ _ _ _ hf (lv_sub hl [0, 1, 2] rfl) hw
      · have hf := if_f hf c_159
        refine lv_iload hx hb dX12_takes_162 (lv_at hl 4 rfl) ?_
        refine lv_if_lt (tgt := 178) hx hb dX12_takes_164 (by decide) (fun c_164 => ?_) (fun c_164 => ?_)
        · have hf := if_t hf c_164
          exact J_178 _ _ _ _ _ _ hf (lv_sub hl [0, 1, 2] rfl) hw
        · have hf := if_f hf c_164
          refine lv_aload_n hx hb dX12_takes_167 rfl (lv_at hl 0 rfl) ?_
          refine lv_iload_n hx hb dX12_takes_168 rfl (lv_at hl 2 rfl) ?_
          refine lv_iload_n hx hb dX12_takes_169 rfl (lv_at hl 3 rfl) ?_
          refine lv_iload hx hb dX12_takes_170 (lv_at hl 4 rfl) ?_
          obtain ⟨S_172, r_172, h_172, hf⟩ := bd_some hf
          refine r_bv hw (r_runV (rest := []) C hw (m_X12_nothing l D cA ad base fu h_172) mvX12_nothing gw9_3 ⟨rfl, rfl, Nat.le_of_ble_eq_true rfl, Nat.le_of_ble_eq_true rfl⟩ dq_63 ln_63 vc_12 rfl hl.1 rfl (Nat.le_of_ble_eq_true rfl) dX12_takes_172 (Nat.zero_le _) (Nat.zero_le _)) (fun H locs hw => ?_)
          refine lv_goto (tgt := 184) hx hb dX12_takes_175 (by decide) ?_
          exact r_vret C hw hr hlocks hf dX12_takes_184
  have J_54 : ∀ (x1 : Int32) (x2 : Int32) (x3 : Int32) (t0 : Int32) (S : St) (H : Heap) (locs : List Loc) (ls : Array Slot), fX12_takes_54 fu x1 x2 x3 t0 S = some (S', r) → lv_has ls 6 [(0, .ref (ad 63)), (1, .int x1), (2, .int x2), (3, .int x3)] → WS D cA ad base s S H locs → W p l e rmX12_takes s m args below meth c H locs 0 0 (MQ below (QV D cA ad base S') args s 0 0 (aB base)) (F0 m 54 ls [.int t0]) := by
    intro x1 x2 x3 t0 S H locs ls hf hl hw
    refine lv_istore (lv' := [(4, .int t0), (0, .ref (ad 63)), (1, .int x1), (2, .int x2), (3, .int x3)]) hx hb dX12_takes_54 hl (by decide) rfl (fun ls hl => ?_)
    refine lv_aload_n hx hb dX12_takes_56 rfl (lv_at hl 1 rfl) ?_
    refine lv_iconst (v := (1 : Int32)) hx hb dX12_takes_57 (by decide) ?_
    refine lv_bipush (v := (6 : Int32)) hx hb dX12_takes_58 (by decide) ?_
    refine lv_iconst (v := (-1 : Int32)) hx hb dX12_takes_60 (by decide) ?_
    obtain ⟨S_61, r_61, h_61, hf⟩ := bd_some hf
    refine r_bi hw (r_runV (rest := []) C hw (m_X12_first l D cA ad base fu h_61) mvX12_first gw8_239 ⟨rfl, rfl, Nat.le_of_ble_eq_true rfl, Nat.le_of_ble_eq_true rfl⟩ dq_63 ln_63 vc_12 rfl hl.1 rfl (Nat.le_of_ble_eq_true rfl) dX12_takes_61 (Nat.zero_le _) (Nat.zero_le _)) (fun H locs hw => ?_)
    refine lv_istore (lv' := [(5, .int r_61), (4, .int t0), (0, .ref (ad 63)), (1, .int x1), (2, .int x2), (3, .int x3)]) hx hb dX12_takes_64 hl (by decide) rfl (fun ls hl => ?_)
    refine lv_iload hx hb dX12_takes_66 (lv_at hl 1 rfl) ?_
    refine lv_if_lt (tgt := 114) hx hb dX12_takes_68 (by decide) (fun c_68 => ?_) (fun c_68 => ?_)
    · have hf := if_t hf c_68
      refine lv_aload_n hx hb dX12_takes_114 rfl (lv_at hl 2 rfl) ?_
      refine r_getI C hw (k := 35) dq_63 ln_63 rfl vc_12 inX12 (by decide) rfl gw6_216 dX12_takes_115 ?_
      refine lv_bipush (v := (15 : Int32)) hx hb dX12_takes_118 (by decide) ?_
      refine lv_iand hx hb dX12_takes_120 ?_
      refine lv_iconst (v := (3 : Int32)) hx hb dX12_takes_121 (by decide) ?_
      refine lv_icmp_ne (tgt := 141) hx hb dX12_takes_122 (by decide) (fun c_122 => ?_) (fun c_122 => ?_)
      · have hf := if_f hf c_122
        exact J_141 _ _ _ _ _ _ _ _ hf (lv_sub hl [2, 3, 4, 5, 0] rfl) hw
      · have hf := if_t hf c_122
        refine lv_iload hx hb dX12_takes_125 (lv_at hl 0 rfl) ?_
        refine lv_if_lt (tgt := 141) hx hb dX12_takes_127 (by decide) (fun c_127 => ?_) (fun c_127 => ?_)
        · have hf := if_t hf c_127
          exact J_141 _ _ _ _ _ _ _ _ hf (lv_sub hl [2, 3, 4, 5, 0] rfl) hw
        · have hf := if_f hf c_127
          refine lv_aload_n hx hb dX12_takes_130 rfl (lv_at hl 2 rfl) ?_
          refine lv_iload_n hx hb dX12_takes_131 rfl (lv_at hl 4 rfl) ?_
          refine lv_iconst (v := (0 : Int32)) hx hb dX12_takes_132 (by decide) ?_
          refine lv_iload hx hb dX12_takes_133 (lv_at hl 0 rfl) ?_
          obtain ⟨S_135, r_135, h_135, hf⟩ := bd_some hf
          refine r_bv hw (r_runV (rest := []) C hw (m_X12_nothing l D cA ad base fu h_135) mvX12_nothing gw9_3 ⟨rfl, rfl, Nat.le_of_ble_eq_true rfl, Nat.le_of_ble_eq_true rfl⟩ dq_63 ln_63 vc_12 rfl hl.1 rfl (Nat.le_of_ble_eq_true rfl) dX12_takes_135 (Nat.zero_le _) (Nat.zero_le _)) (fun H locs hw => ?_)
          refine lv_goto (tgt := 184) hx hb dX12_takes_138 (by decide) ?_
          exact r_vret C hw hr hlocks hf dX12_takes_184
    · have hf := if_f hf c_68
      refine lv_aload_n hx hb dX12_takes_71 rfl (lv_at hl 2 rfl) ?_
      refine lv_iconst (v := (1 : Int32)) hx hb dX12_takes_72 (by decide) ?_
      obtain ⟨S_73, e_73, hf⟩ := sI_some hf
      refine r_putI C hw (k := 53) (ty0 := tyX12) dq_63 ln_63 rfl vc_12 inX12 tyX12_ok nmX12 (by decide) rfl rfl gw6_234 rfl rfl dX12_takes_73 e_73 (fun H locs hw => ?_)
      refine lv_aload_n hx hb dX12_takes_76 rfl (lv_at hl 2 rfl) ?_
      refine r_getR C hw (k := 52) (r := 96) dq_63 ln_63 rfl vc_12 inX12 (by decide) rfl gw6_233 dX12_takes_77 ?_
      refine lv_iconst (v := (0 : Int32)) hx hb dX12_takes_80 (by decide) ?_
      refine lv_aload_n hx hb dX12_takes_81 rfl (lv_at hl 2 rfl) ?_
      refine r_getR C hw (k := 40) (r := 88) dq_63 ln_63 rfl vc_12 inX12 (by decide) rfl gw6_221 dX12_takes_82 ?_
      refine lv_iload hx hb dX12_takes_85 (lv_at hl 1 rfl) ?_
      obtain ⟨z_87, hf⟩ := gd_some hf
      refine r_iald C hw (x := 88) dq_88 ln_88 z_87 dX12_takes_87 ?_
      obtain ⟨z_88, hf⟩ := gd_some hf
      obtain ⟨S_88, e_88, hf⟩ := sI_some hf
      refine r_iast C hw (x := 96) dq_96 ln_96 z_88 dX12_takes_88 e_88 (fun H locs hw => ?_)
      refine lv_aload_n hx hb dX12_takes_89 rfl (lv_at hl 2 rfl) ?_
      refine lv_aload_n hx hb dX12_takes_90 rfl (lv_at hl 2 rfl) ?_
      refine r_getR C hw (k := 41) (r := 89) dq_63 ln_63 rfl vc_12 inX12 (by decide) rfl gw6_222 dX12_takes_91 ?_
      refine lv_iload hx hb dX12_takes_94 (lv_at hl 1 rfl) ?_
      obtain ⟨z_96, hf⟩ := gd_some hf
      refine r_iald C hw (x := 89) dq_89 ln_89 z_96 dX12_takes_96 ?_
      refine lv_i2l hx hb dX12_takes_97 rfl ?_
      refine lv_ldc2 hx hb C.2.2.2.1 (C.2.2.2.2.1 _ (gw_of gw8_230 rfl)) dX12_takes_98 ?_
      refine lv_land hx hb dX12_takes_101 ?_
      obtain ⟨S_102, e_102, hf⟩ := sJ_some hf
      refine r_putJ C hw (k := 54) (ty0 := tyX12) dq_63 ln_63 rfl vc_12 inX12 tyX12_ok nmX12 (by decide) rfl rfl gw6_235 rfl rfl dX12_takes_102 e_102 (fun H locs hw => ?_)
      refine lv_aload_n hx hb dX12_takes_105 rfl (lv_at hl 2 rfl) ?_
      refine lv_iload_n hx hb dX12_takes_106 rfl (lv_at hl 4 rfl) ?_
      refine lv_iconst (v := (5 : Int32)) hx hb dX12_takes_107 (by decide) ?_
      obtain ⟨S_108, r_108, h_108, hf⟩ := bd_some hf
      refine r_bv hw (r_runV (rest := []) C hw (m_X12_puts l D cA ad base fu h_108) mvX12_puts gw8_231 ⟨rfl, rfl, Nat.le_of_ble_eq_true rfl, Nat.le_of_ble_eq_true rfl⟩ dq_63 ln_63 vc_12 rfl hl.1 rfl (Nat.le_of_ble_eq_true rfl) dX12_takes_108 (Nat.zero_le _) (Nat.zero_le _)) (fun H locs hw => ?_)
      refine lv_goto (tgt := 184) hx hb dX12_takes_111 (by decide) ?_
      exact r_vret C hw hr hlocks hf dX12_takes_184
  show W p l e rmX12_takes s m args below meth c s.heap [] 0 0 _ _
  refine lv_aload_n hx hb dX12_takes_0 rfl (lv_at hl 0 rfl) ?_
  refine r_getI C hw (k := 62) dq_63 ln_63 rfl vc_12 inX12 (by decide) rfl gw7_3 dX12_takes_1 ?_
  refine lv_iconst (v := (1 : Int32)) hx hb dX12_takes_4 (by decide) ?_
  refine lv_isub hx hb dX12_takes_5 ?_
  refine lv_istore_n (lv' := [(1, .int ((S.1 63 62) - (1 : Int32))), (0, .ref (ad 63))]) hx hb dX12_takes_6 rfl hl (by decide) rfl (fun ls hl => ?_)
  refine lv_aload_n hx hb dX12_takes_7 rfl (lv_at hl 1 rfl) ?_
  refine r_getR C hw (k := 55) (r := 97) dq_63 ln_63 rfl vc_12 inX12 (by decide) rfl gw6_236 dX12_takes_8 ?_
  refine lv_iload_n hx hb dX12_takes_11 rfl (lv_at hl 0 rfl) ?_
  obtain ⟨z_12, hf⟩ := gd_some hf
  refine r_iald C hw (x := 97) dq_97 ln_97 z_12 dX12_takes_12 ?_
  refine lv_istore_n (lv' := [(2, .int (S.1 97 (((S.1 63 62) - (1 : Int32))).toNatClampNeg)), (1, .int ((S.1 63 62) - (1 : Int32))), (0, .ref (ad 63))]) hx hb dX12_takes_13 rfl hl (by decide) rfl (fun ls hl => ?_)
  refine lv_aload_n hx hb dX12_takes_14 rfl (lv_at hl 2 rfl) ?_
  refine r_getR C hw (k := 56) (r := 98) dq_63 ln_63 rfl vc_12 inX12 (by decide) rfl gw6_237 dX12_takes_15 ?_
  refine lv_iload_n hx hb dX12_takes_18 rfl (lv_at hl 1 rfl) ?_
  obtain ⟨z_19, hf⟩ := gd_some hf
  refine r_iald C hw (x := 98) dq_98 ln_98 z_19 dX12_takes_19 ?_
  refine lv_istore_n (lv' := [(3, .int (S.1 98 (((S.1 63 62) - (1 : Int32))).toNatClampNeg)), (2, .int (S.1 97 (((S.1 63 62) - (1 : Int32))).toNatClampNeg)), (1, .int ((S.1 63 62) - (1 : Int32))), (0, .ref (ad 63))]) hx hb dX12_takes_20 rfl hl (by decide) rfl (fun ls hl => ?_)
  refine lv_aload_n hx hb dX12_takes_21 rfl (lv_at hl 3 rfl) ?_
  refine lv_iconst (v := (0 : Int32)) hx hb dX12_takes_22 (by decide) ?_
  refine lv_iload_n hx hb dX12_takes_23 rfl (lv_at hl 1 rfl) ?_
  refine lv_iload_n hx hb dX12_takes_24 rfl (lv_at hl 0 rfl) ?_
  obtain ⟨S_25, r_25, h_25, hf⟩ := bd_some hf
  refine r_bi hw (r_runV (rest := []) C hw (m_X12_gathers l D cA ad base fu h_25) mvX12_gathers gw8_225 ⟨rfl, rfl, Nat.le_of_ble_eq_true rfl, Nat.le_of_ble_eq_true rfl⟩ dq_63 ln_63 vc_12 rfl hl.1 rfl (Nat.le_of_ble_eq_true rfl) dX12_takes_25 (Nat.zero_le _) (Nat.zero_le _)) (fun H locs hw => ?_)
  refine lv_if_le (tgt := 38) hx hb dX12_takes_28 (by decide) (fun c_28 => ?_) (fun c_28 => ?_)
  · have hf := if_t hf c_28
    refine lv_iload_n hx hb dX12_takes_38 rfl (lv_at hl 0 rfl) ?_
    refine lv_iconst (v := (5 : Int32)) hx hb dX12_takes_39 (by decide) ?_
    refine lv_icmp_ne (tgt := 47) hx hb dX12_takes_40 (by decide) (fun c_40 => ?_) (fun c_40 => ?_)
    · have hf := if_f hf c_40
      refine lv_aload_n hx hb dX12_takes_47 rfl (lv_at hl 3 rfl) ?_
      refine lv_iconst (v := (0 : Int32)) hx hb dX12_takes_48 (by decide) ?_
      refine lv_iconst (v := (5 : Int32)) hx hb dX12_takes_49 (by decide) ?_
      refine lv_iload_n hx hb dX12_takes_50 rfl (lv_at hl 1 rfl) ?_
      obtain ⟨S_51, r_51, h_51, hf⟩ := bd_some hf
      refine r_bi hw (r_runV (rest := []) C hw (m_X12_first l D cA ad base fu h_51) mvX12_first gw8_239 ⟨rfl, rfl, Nat.le_of_ble_eq_true rfl, Nat.le_of_ble_eq_true rfl⟩ dq_63 ln_63 vc_12 rfl hl.1 rfl (Nat.le_of_ble_eq_true rfl) dX12_takes_51 (Nat.zero_le _) (Nat.zero_le _)) (fun H locs hw => ?_)
      exact J_54 _ _ _ _ _ _ _ _ hf (lv_sub hl [3, 2, 1, 0] rfl) hw
    · have hf := if_t hf c_40
      refine lv_iconst (v := (-1 : Int32)) hx hb dX12_takes_43 (by decide) ?_
      refine lv_goto (tgt := 54) hx hb dX12_takes_44 (by decide) ?_
      exact J_54 _ _ _ _ _ _ _ _ hf (lv_sub hl [3, 2, 1, 0] rfl) hw
  · have hf := if_f hf c_28
    refine lv_aload_n hx hb dX12_takes_31 rfl (lv_at hl 3 rfl) ?_
    refine lv_iload_n hx hb dX12_takes_32 rfl (lv_at hl 1 rfl) ?_
    refine lv_iload_n hx hb dX12_takes_33 rfl (lv_at hl 0 rfl) ?_
    obtain ⟨S_34, r_34, h_34, hf⟩ := bd_some hf
    refine r_bv hw (r_runV (rest := []) C hw (m_X12_puts l D cA ad base fu h_34) mvX12_puts gw8_231 ⟨rfl, rfl, Nat.le_of_ble_eq_true rfl, Nat.le_of_ble_eq_true rfl⟩ dq_63 ln_63 vc_12 rfl hl.1 rfl (Nat.le_of_ble_eq_true rfl) dX12_takes_34 (Nat.zero_le _) (Nat.zero_le _)) (fun H locs hw => ?_)
    exact r_vret C hw hr hlocks hf dX12_takes_37
noncomputable def fX12_step_103 (fu : Nat) (S : St) : Option (St × Int32) :=
  bd (fX12_goes fu S) fun S_104 r_104 =>
  some (S_104, r_104)
noncomputable def fX12_step_75 (fu : Nat) (t0 : Int32) (S : St) : Option (St × Int32) :=
  if t0 ≤ 0 then
    fX12_step_103 fu S
  else
    bd (fX12_reads fu 82 1000 t0 S) fun S_86 r_86 =>
    if r_86 = 0 then
      fX12_step_103 fu S_86
    else
      bd (fX12_isReply fu S_86) fun S_93 r_93 =>
      if r_93 = 0 then
        fX12_step_103 fu S_93
      else
        bd (fX12_takes fu S_93) fun S_100 _ =>
        fX12_step_103 fu S_100
noncomputable def fX12_step_18 (fu : Nat) (t0 : Int32) (S : St) : Option (St × Int32) :=
  bd (fX12_throwsIf fu t0 (1 : Int32) S) fun S_19 r_19 =>
  if r_19 = 0 then
    bd (fX12_serverOf fu (S_19.1 63 68) S_19) fun S_32 r_32 =>
    if 0 ≤ r_32 then
      gd (ck ((S_32.1 63 62) - (1 : Int32)) 4) <|
      gd (ck ((S_32.1 63 62) - (1 : Int32)) 4) <|
      bd (fX12_says fu r_32 (S_32.1 63 69) (S_32.1 97 (((S_32.1 63 62) - (1 : Int32))).toNatClampNeg) (S_32.1 98 (((S_32.1 63 62) - (1 : Int32))).toNatClampNeg) S_32) fun S_72 r_72 =>
      fX12_step_75 fu r_72 S_72
    else
      fX12_step_75 fu (0 : Int32) S_32
  else
    some (S_19, (0 : Int32))
noncomputable def fX12_step (fu : Nat) (S : St) : Option (St × Int32) :=
  sI 63 0 (0 : Int32) S fun S_2 =>
  if (S_2.1 63 67) = 0 then
    fX12_step_18 fu (1 : Int32) S_2
  else
    fX12_step_18 fu (0 : Int32) S_2
theorem mvX12_step : MV yX12_step cX12_step 3 (some .int) RX12 0 := ⟨gw8_216, gw8_214, gw8_215, gw1_13, by decide +kernel⟩
def rmX12_step : Room := { frames := 8, cells := 0, slots := 0, locals := 187 }
set_option maxHeartbeats 4000000 in
set_option maxRecDepth 100000 in
theorem m_X12_step (l : Launch) (D : va_G) (cA : FieldType → ClassId) (ad : Nat → Nat) (base : Nat) (fu : Nat) {S S' : St} {r : Int32} (hf : fX12_step fu S = some (S', r)) : Met l yX12_step (GC yX12_step cX12_step 3 (some .int)) rmX12_step (va_Pc [.ref (ad 63)] (wd D cA ad base S)) (QI D cA ad base S' r) 0 0 (aB base) := by
  refine Met.ofW (cc := cX12_step) (maxL := 3) (ret := (some .int)) (by decide) rfl ?_
  intro p e s m args below meth c s₁ B hml hv
  obtain ⟨hargs, hwd⟩ := hv
  have hr := B.returns
  have hlocks := B.notSynchronized
  obtain ⟨C, hw⟩ := CX.of (own := RX12) rfl B hml hwd
  have hx := C.1
  have hb := C.2.1
  have hl := lv_entry ([.ref (ad 63)]) (n := 3) (Nat.le_of_ble_eq_true rfl)
  rw [show entryFrame m args 3 = entryFrame m ([.ref (ad 63)] : List Value).toArray 3 from by rw [hargs], lg_entry_eq]
  generalize (lg_sl ([.ref (ad 63)]) ++ List.replicate (3 - (lg_sl ([.ref (ad 63)])).length) Slot.unset).toArray = ls at hl ⊢
  have hl : lv_has ls 3 [(0, .ref (ad 63))] := hl
  have J_103 : ∀ (S : St) (H : Heap) (locs : List Loc) (ls : Array Slot), fX12_step_103 fu S = some (S', r) → lv_has ls 3 [(0, .ref (ad 63))] → WS D cA ad base s S H locs → W p l e rmX12_step s m args below meth c H locs 0 0 (MQ below (QI D cA ad base S' r) args s 0 0 (aB base)) (F0 m 103 ls []) := by
    intro  S H locs ls hf hl hw
    refine lv_aload_n hx hb dX12_step_103 rfl (lv_at hl 0 rfl) ?_
    obtain ⟨S_104, r_104, h_104, hf⟩ := bd_some hf
    refine r_bi hw (r_runV (rest := []) C hw (m_X12_goes l D cA ad base fu h_104) mvX12_goes gw8_176 ⟨rfl, rfl, Nat.le_of_ble_eq_true rfl, Nat.le_of_ble_eq_true rfl⟩ dq_63 ln_63 vc_12 rfl hl.1 rfl (Nat.le_of_ble_eq_true rfl) dX12_step_104 (Nat.zero_le _) (Nat.zero_le _)) (fun H locs hw => ?_)
    exact r_iret C hw hr hlocks hf dX12_step_107
  have J_75 : ∀ (t0 : Int32) (S : St) (H : Heap) (locs : List Loc) (ls : Array Slot), fX12_step_75 fu t0 S = some (S', r) → lv_has ls 3 [(0, .ref (ad 63))] → WS D cA ad base s S H locs → W p l e rmX12_step s m args below meth c H locs 0 0 (MQ below (QI D cA ad base S' r) args s 0 0 (aB base)) (F0 m 75 ls [.int t0]) := by
    intro t0 S H locs ls hf hl hw
    refine lv_istore_n (lv' := [(2, .int t0), (0, .ref (ad 63))]) hx hb dX12_step_75 rfl hl (by decide) rfl (fun ls hl => ?_)
    refine lv_iload_n hx hb dX12_step_76 rfl (lv_at hl 0 rfl) ?_
    refine lv_if_le (tgt := 103) hx hb dX12_step_77 (by decide) (fun c_77 => ?_) (fun c_77 => ?_)
    · have hf := if_t hf c_77
      exact J_103 _ _ _ _ hf (lv_sub hl [1] rfl) hw
    · have hf := if_f hf c_77
      refine lv_aload_n hx hb dX12_step_80 rfl (lv_at hl 1 rfl) ?_
      refine lv_aload_n hx hb dX12_step_81 rfl (lv_at hl 1 rfl) ?_
      refine r_getR C hw (k := 26) (r := 82) dq_63 ln_63 rfl vc_12 inX12 (by decide) rfl gw6_207 dX12_step_82 ?_
      refine lv_iload_n hx hb dX12_step_85 rfl (lv_at hl 0 rfl) ?_
      obtain ⟨S_86, r_86, h_86, hf⟩ := bd_some hf
      refine r_bi hw (r_runV (rest := []) C hw (m_X12_reads l D cA ad base fu 82 1000 ⟨dq_82, ln_82⟩ h_86) mvX12_reads gw8_114 ⟨rfl, rfl, Nat.le_of_ble_eq_true rfl, Nat.le_of_ble_eq_true rfl⟩ dq_63 ln_63 vc_12 rfl hl.1 rfl (Nat.le_of_ble_eq_true rfl) dX12_step_86 (Nat.zero_le _) (Nat.zero_le _)) (fun H locs hw => ?_)
      refine lv_if_eq (tgt := 103) hx hb dX12_step_89 (by decide) (fun c_89 => ?_) (fun c_89 => ?_)
      · have hf := if_t hf c_89
        exact J_103 _ _ _ _ hf (lv_sub hl [1] rfl) hw
      · have hf := if_f hf c_89
        refine lv_aload_n hx hb dX12_step_92 rfl (lv_at hl 1 rfl) ?_
        obtain ⟨S_93, r_93, h_93, hf⟩ := bd_some hf
        refine r_bi hw (r_runV (rest := []) C hw (m_X12_isReply l D cA ad base fu h_93) mvX12_isReply gw8_217 ⟨rfl, rfl, Nat.le_of_ble_eq_true rfl, Nat.le_of_ble_eq_true rfl⟩ dq_63 ln_63 vc_12 rfl hl.1 rfl (Nat.le_of_ble_eq_true rfl) dX12_step_93 (Nat.zero_le _) (Nat.zero_le _)) (fun H locs hw => ?_)
        refine lv_if_eq (tgt := 103) hx hb dX12_step_96 (by decide) (fun c_96 => ?_) (fun c_96 => ?_)
        · have hf := if_t hf c_96
          exact J_103 _ _ _ _ hf (lv_sub hl [1] rfl) hw
        · have hf := if_f hf c_96
          refine lv_aload_n hx hb dX12_step_99 rfl (lv_at hl 1 rfl) ?_
          obtain ⟨S_100, r_100, h_100, hf⟩ := bd_some hf
          refine r_bv hw (r_runV (rest := []) C hw (m_X12_takes l D cA ad base fu h_100) mvX12_takes gw8_221 ⟨rfl, rfl, Nat.le_of_ble_eq_true rfl, Nat.le_of_ble_eq_true rfl⟩ dq_63 ln_63 vc_12 rfl hl.1 rfl (Nat.le_of_ble_eq_true rfl) dX12_step_100 (Nat.zero_le _) (Nat.zero_le _)) (fun H locs hw => ?_)
          exact J_103 _ _ _ _ hf (lv_sub hl [1] rfl) hw
  have J_18 : ∀ (t0 : Int32) (S : St) (H : Heap) (locs : List Loc) (ls : Array Slot), fX12_step_18 fu t0 S = some (S', r) → lv_has ls 3 [(0, .ref (ad 63))] → WS D cA ad base s S H locs → W p l e rmX12_step s m args below meth c H locs 0 0 (MQ below (QI D cA ad base S' r) args s 0 0 (aB base)) (F0 m 18 ls [.int t0, .ref (ad 63)]) := by
    intro t0 S H locs ls hf hl hw
    refine lv_iconst (v := (1 : Int32)) hx hb dX12_step_18 (by decide) ?_
    obtain ⟨S_19, r_19, h_19, hf⟩ := bd_some hf
    refine r_bi hw (r_runV (rest := []) C hw (m_X12_throwsIf l D cA ad base fu h_19) mvX12_throwsIf gw7_193 ⟨rfl, rfl, Nat.le_of_ble_eq_true rfl, Nat.le_of_ble_eq_true rfl⟩ dq_63 ln_63 vc_12 rfl hl.1 rfl (Nat.le_of_ble_eq_true rfl) dX12_step_19 (Nat.zero_le _) (Nat.zero_le _)) (fun H locs hw => ?_)
    refine lv_if_eq (tgt := 27) hx hb dX12_step_22 (by decide) (fun c_22 => ?_) (fun c_22 => ?_)
    · have hf := if_t hf c_22
      refine lv_aload_n hx hb dX12_step_27 rfl (lv_at hl 0 rfl) ?_
      refine lv_aload_n hx hb dX12_step_28 rfl (lv_at hl 0 rfl) ?_
      refine r_getI C hw (k := 68) dq_63 ln_63 rfl vc_12 inX12 (by decide) rfl gw7_9 dX12_step_29 ?_
      obtain ⟨S_32, r_32, h_32, hf⟩ := bd_some hf
      refine r_bi hw (r_runV (rest := []) C hw (m_X12_serverOf l D cA ad base fu h_32) mvX12_serverOf gw8_24 ⟨rfl, rfl, Nat.le_of_ble_eq_true rfl, Nat.le_of_ble_eq_true rfl⟩ dq_63 ln_63 vc_12 rfl hl.1 rfl (Nat.le_of_ble_eq_true rfl) dX12_step_32 (Nat.zero_le _) (Nat.zero_le _)) (fun H locs hw => ?_)
      refine lv_istore_n (lv' := [(1, .int r_32), (0, .ref (ad 63))]) hx hb dX12_step_35 rfl hl (by decide) rfl (fun ls hl => ?_)
      refine lv_iload_n hx hb dX12_step_36 rfl (lv_at hl 0 rfl) ?_
      refine lv_if_ge (tgt := 44) hx hb dX12_step_37 (by decide) (fun c_37 => ?_) (fun c_37 => ?_)
      · have hf := if_t hf c_37
        refine lv_aload_n hx hb dX12_step_44 rfl (lv_at hl 1 rfl) ?_
        refine lv_iload_n hx hb dX12_step_45 rfl (lv_at hl 0 rfl) ?_
        refine lv_aload_n hx hb dX12_step_46 rfl (lv_at hl 1 rfl) ?_
        refine r_getI C hw (k := 69) dq_63 ln_63 rfl vc_12 inX12 (by decide) rfl gw7_10 dX12_step_47 ?_
        refine lv_aload_n hx hb dX12_step_50 rfl (lv_at hl 1 rfl) ?_
        refine r_getR C hw (k := 55) (r := 97) dq_63 ln_63 rfl vc_12 inX12 (by decide) rfl gw6_236 dX12_step_51 ?_
        refine lv_aload_n hx hb dX12_step_54 rfl (lv_at hl 1 rfl) ?_
        refine r_getI C hw (k := 62) dq_63 ln_63 rfl vc_12 inX12 (by decide) rfl gw7_3 dX12_step_55 ?_
        refine lv_iconst (v := (1 : Int32)) hx hb dX12_step_58 (by decide) ?_
        refine lv_isub hx hb dX12_step_59 ?_
        obtain ⟨z_60, hf⟩ := gd_some hf
        refine r_iald C hw (x := 97) dq_97 ln_97 z_60 dX12_step_60 ?_
        refine lv_aload_n hx hb dX12_step_61 rfl (lv_at hl 1 rfl) ?_
        refine r_getR C hw (k := 56) (r := 98) dq_63 ln_63 rfl vc_12 inX12 (by decide) rfl gw6_237 dX12_step_62 ?_
        refine lv_aload_n hx hb dX12_step_65 rfl (lv_at hl 1 rfl) ?_
        refine r_getI C hw (k := 62) dq_63 ln_63 rfl vc_12 inX12 (by decide) rfl gw7_3 dX12_step_66 ?_
        refine lv_iconst (v := (1 : Int32)) hx hb dX12_step_69 (by decide) ?_
        refine lv_isub hx hb dX12_step_70 ?_
        obtain ⟨z_71, hf⟩ := gd_some hf
        refine r_iald C hw (x := 98) dq_98 ln_98 z_71 dX12_step_71 ?_
        obtain ⟨S_72, r_72, h_72, hf⟩ := bd_some hf
        refine r_bi hw (r_runV (rest := []) C hw (m_X12_says l D cA ad base fu h_72) mvX12_says gw8_44 ⟨rfl, rfl, Nat.le_of_ble_eq_true rfl, Nat.le_of_ble_eq_true rfl⟩ dq_63 ln_63 vc_12 rfl hl.1 rfl (Nat.le_of_ble_eq_true rfl) dX12_step_72 (Nat.zero_le _) (Nat.zero_le _)) (fun H locs hw => ?_)
        exact J_75 _ _ _ _ _ hf (lv_sub hl [1] rfl) hw
      · have hf := if_f hf c_37
        refine lv_iconst (v := (0 : Int32)) hx hb dX12_step_40 (by decide) ?_
        refine lv_goto (tgt := 75) hx hb dX12_step_41 (by decide) ?_
        exact J_75 _ _ _ _ _ hf (lv_sub hl [1] rfl) hw
    · have hf := if_f hf c_22
      refine lv_iconst (v := (0 : Int32)) hx hb dX12_step_25 (by decide) ?_
      exact r_iret C hw hr hlocks hf dX12_step_26
  show W p l e rmX12_step s m args below meth c s.heap [] 0 0 _ _
  refine lv_aload_n hx hb dX12_step_0 rfl (lv_at hl 0 rfl) ?_
  refine lv_iconst (v := (0 : Int32)) hx hb dX12_step_1 (by decide) ?_
  obtain ⟨S_2, e_2, hf⟩ := sI_some hf
  refine r_putI C hw (k := 0) (ty0 := tyX12) dq_63 ln_63 rfl vc_12 inX12 tyX12_ok nmX12 (by decide) rfl rfl gw6_181 rfl rfl dX12_step_2 e_2 (fun H locs hw => ?_)
  refine lv_aload_n hx hb dX12_step_5 rfl (lv_at hl 0 rfl) ?_
  refine lv_aload_n hx hb dX12_step_6 rfl (lv_at hl 0 rfl) ?_
  refine r_getI C hw (k := 67) dq_63 ln_63 rfl vc_12 inX12 (by decide) rfl gw7_8 dX12_step_7 ?_
  refine lv_if_ne (tgt := 17) hx hb dX12_step_10 (by decide) (fun c_10 => ?_) (fun c_10 => ?_)
  · have hf := if_f hf c_10
    refine lv_iconst (v := (0 : Int32)) hx hb dX12_step_17 (by decide) ?_
    exact J_18 _ _ _ _ _ hf (lv_sub hl [0] rfl) hw
  · have hf := if_t hf c_10
    refine lv_iconst (v := (1 : Int32)) hx hb dX12_step_13 (by decide) ?_
    refine lv_goto (tgt := 18) hx hb dX12_step_14 (by decide) ?_
    exact J_18 _ _ _ _ _ hf (lv_sub hl [0] rfl) hw
noncomputable def fX12_lose_18 (fu : Nat) (t0 : Int32) (S : St) : Option (St × Int32) :=
  bd (fX12_throwsIf fu t0 (1 : Int32) S) fun S_19 r_19 =>
  if r_19 = 0 then
    bd (fX12_goes fu S_19) fun S_30 r_30 =>
    some (S_30, r_30)
  else
    some (S_19, (0 : Int32))
noncomputable def fX12_lose (fu : Nat) (S : St) : Option (St × Int32) :=
  sI 63 0 (0 : Int32) S fun S_2 =>
  if (S_2.1 63 67) = 0 then
    fX12_lose_18 fu (1 : Int32) S_2
  else
    fX12_lose_18 fu (0 : Int32) S_2
theorem mvX12_lose : MV yX12_lose cX12_lose 1 (some .int) RX12 0 := ⟨gw9_14, gw9_12, gw9_13, gw1_13, by decide +kernel⟩
def rmX12_lose : Room := { frames := 5, cells := 0, slots := 0, locals := 117 }
set_option maxHeartbeats 4000000 in
set_option maxRecDepth 100000 in
theorem m_X12_lose (l : Launch) (D : va_G) (cA : FieldType → ClassId) (ad : Nat → Nat) (base : Nat) (fu : Nat) {S S' : St} {r : Int32} (hf : fX12_lose fu S = some (S', r)) : Met l yX12_lose (GC yX12_lose cX12_lose 1 (some .int)) rmX12_lose (va_Pc [.ref (ad 63)] (wd D cA ad base S)) (QI D cA ad base S' r) 0 0 (aB base) := by
  refine Met.ofW (cc := cX12_lose) (maxL := 1) (ret := (some .int)) (by decide) rfl ?_
  intro p e s m args below meth c s₁ B hml hv
  obtain ⟨hargs, hwd⟩ := hv
  have hr := B.returns
  have hlocks := B.notSynchronized
  obtain ⟨C, hw⟩ := CX.of (own := RX12) rfl B hml hwd
  have hx := C.1
  have hb := C.2.1
  have hl := lv_entry ([.ref (ad 63)]) (n := 1) (Nat.le_of_ble_eq_true rfl)
  rw [show entryFrame m args 1 = entryFrame m ([.ref (ad 63)] : List Value).toArray 1 from by rw [hargs], lg_entry_eq]
  generalize (lg_sl ([.ref (ad 63)]) ++ List.replicate (1 - (lg_sl ([.ref (ad 63)])).length) Slot.unset).toArray = ls at hl ⊢
  have hl : lv_has ls 1 [(0, .ref (ad 63))] := hl
  have J_18 : ∀ (t0 : Int32) (S : St) (H : Heap) (locs : List Loc) (ls : Array Slot), fX12_lose_18 fu t0 S = some (S', r) → lv_has ls 1 [(0, .ref (ad 63))] → WS D cA ad base s S H locs → W p l e rmX12_lose s m args below meth c H locs 0 0 (MQ below (QI D cA ad base S' r) args s 0 0 (aB base)) (F0 m 18 ls [.int t0, .ref (ad 63)]) := by
    intro t0 S H locs ls hf hl hw
    refine lv_iconst (v := (1 : Int32)) hx hb dX12_lose_18 (by decide) ?_
    obtain ⟨S_19, r_19, h_19, hf⟩ := bd_some hf
    refine r_bi hw (r_runV (rest := []) C hw (m_X12_throwsIf l D cA ad base fu h_19) mvX12_throwsIf gw7_193 ⟨rfl, rfl, Nat.le_of_ble_eq_true rfl, Nat.le_of_ble_eq_true rfl⟩ dq_63 ln_63 vc_12 rfl hl.1 rfl (Nat.le_of_ble_eq_true rfl) dX12_lose_19 (Nat.zero_le _) (Nat.zero_le _)) (fun H locs hw => ?_)
    refine lv_if_eq (tgt := 29) hx hb dX12_lose_22 (by decide) (fun c_22 => ?_) (fun c_22 => ?_)
    · have hf := if_t hf c_22
      refine lv_aload_n hx hb dX12_lose_29 rfl (lv_at hl 0 rfl) ?_
      obtain ⟨S_30, r_30, h_30, hf⟩ := bd_some hf
      refine r_bi hw (r_runV (rest := []) C hw (m_X12_goes l D cA ad base fu h_30) mvX12_goes gw8_176 ⟨rfl, rfl, Nat.le_of_ble_eq_true rfl, Nat.le_of_ble_eq_true rfl⟩ dq_63 ln_63 vc_12 rfl hl.1 rfl (Nat.le_of_ble_eq_true rfl) dX12_lose_30 (Nat.zero_le _) (Nat.zero_le _)) (fun H locs hw => ?_)
      exact r_iret C hw hr hlocks hf dX12_lose_33
    · have hf := if_f hf c_22
      refine lv_iconst (v := (0 : Int32)) hx hb dX12_lose_25 (by decide) ?_
      refine lv_goto (tgt := 33) hx hb dX12_lose_26 (by decide) ?_
      exact r_iret C hw hr hlocks hf dX12_lose_33
  show W p l e rmX12_lose s m args below meth c s.heap [] 0 0 _ _
  refine lv_aload_n hx hb dX12_lose_0 rfl (lv_at hl 0 rfl) ?_
  refine lv_iconst (v := (0 : Int32)) hx hb dX12_lose_1 (by decide) ?_
  obtain ⟨S_2, e_2, hf⟩ := sI_some hf
  refine r_putI C hw (k := 0) (ty0 := tyX12) dq_63 ln_63 rfl vc_12 inX12 tyX12_ok nmX12 (by decide) rfl rfl gw6_181 rfl rfl dX12_lose_2 e_2 (fun H locs hw => ?_)
  refine lv_aload_n hx hb dX12_lose_5 rfl (lv_at hl 0 rfl) ?_
  refine lv_aload_n hx hb dX12_lose_6 rfl (lv_at hl 0 rfl) ?_
  refine r_getI C hw (k := 67) dq_63 ln_63 rfl vc_12 inX12 (by decide) rfl gw7_8 dX12_lose_7 ?_
  refine lv_if_ne (tgt := 17) hx hb dX12_lose_10 (by decide) (fun c_10 => ?_) (fun c_10 => ?_)
  · have hf := if_f hf c_10
    refine lv_iconst (v := (0 : Int32)) hx hb dX12_lose_17 (by decide) ?_
    exact J_18 _ _ _ _ _ hf (lv_sub hl [0] rfl) hw
  · have hf := if_t hf c_10
    refine lv_iconst (v := (1 : Int32)) hx hb dX12_lose_13 (by decide) ?_
    refine lv_goto (tgt := 18) hx hb dX12_lose_14 (by decide) ?_
    exact J_18 _ _ _ _ _ hf (lv_sub hl [0] rfl) hw
noncomputable def fX12_forge_18 (fu : Nat) (x1 : Int32) (t0 : Int32) (S : St) : Option (St × Int32) :=
  bd (fX12_throwsIf fu t0 (1 : Int32) S) fun S_19 r_19 =>
  if r_19 = 0 then
    bd (fX12_reads fu 70 1040 x1 S_19) fun S_33 r_33 =>
    if r_33 = 0 then
      some (S_33, (-1 : Int32))
    else
      bd (fX12_isReply fu S_33) fun S_40 r_40 =>
      if r_40 = 0 then
        some (S_40, (-1 : Int32))
      else
        bd (fX12_takes fu S_40) fun S_49 _ =>
        bd (fX12_goes fu S_49) fun S_53 r_53 =>
        some (S_53, r_53)
  else
    some (S_19, (0 : Int32))
noncomputable def fX12_forge (fu : Nat) (S : St) : Option (St × Int32) :=
  bd (fX12_used fu S) fun S_1 r_1 =>
  if (S_1.1 63 67) = 0 then
    fX12_forge_18 fu r_1 (1 : Int32) S_1
  else
    fX12_forge_18 fu r_1 (0 : Int32) S_1
theorem mvX12_forge : MV yX12_forge cX12_forge 2 (some .int) RX12 0 := ⟨gw9_18, gw9_16, gw9_17, gw1_13, by decide +kernel⟩
def rmX12_forge : Room := { frames := 7, cells := 0, slots := 0, locals := 177 }
set_option maxHeartbeats 4000000 in
set_option maxRecDepth 100000 in
theorem m_X12_forge (l : Launch) (D : va_G) (cA : FieldType → ClassId) (ad : Nat → Nat) (base : Nat) (fu : Nat) {S S' : St} {r : Int32} (hf : fX12_forge fu S = some (S', r)) : Met l yX12_forge (GC yX12_forge cX12_forge 2 (some .int)) rmX12_forge (va_Pc [.ref (ad 63)] (wd D cA ad base S)) (QI D cA ad base S' r) 0 0 (aB base) := by
  refine Met.ofW (cc := cX12_forge) (maxL := 2) (ret := (some .int)) (by decide) rfl ?_
  intro p e s m args below meth c s₁ B hml hv
  obtain ⟨hargs, hwd⟩ := hv
  have hr := B.returns
  have hlocks := B.notSynchronized
  obtain ⟨C, hw⟩ := CX.of (own := RX12) rfl B hml hwd
  have hx := C.1
  have hb := C.2.1
  have hl := lv_entry ([.ref (ad 63)]) (n := 2) (Nat.le_of_ble_eq_true rfl)
  rw [show entryFrame m args 2 = entryFrame m ([.ref (ad 63)] : List Value).toArray 2 from by rw [hargs], lg_entry_eq]
  generalize (lg_sl ([.ref (ad 63)]) ++ List.replicate (2 - (lg_sl ([.ref (ad 63)])).length) Slot.unset).toArray = ls at hl ⊢
  have hl : lv_has ls 2 [(0, .ref (ad 63))] := hl
  have J_18 : ∀ (x1 : Int32) (t0 : Int32) (S : St) (H : Heap) (locs : List Loc) (ls : Array Slot), fX12_forge_18 fu x1 t0 S = some (S', r) → lv_has ls 2 [(0, .ref (ad 63)), (1, .int x1)] → WS D cA ad base s S H locs → W p l e rmX12_forge s m args below meth c H locs 0 0 (MQ below (QI D cA ad base S' r) args s 0 0 (aB base)) (F0 m 18 ls [.int t0, .ref (ad 63)]) := by
    intro x1 t0 S H locs ls hf hl hw
    refine lv_iconst (v := (1 : Int32)) hx hb dX12_forge_18 (by decide) ?_
    obtain ⟨S_19, r_19, h_19, hf⟩ := bd_some hf
    refine r_bi hw (r_runV (rest := []) C hw (m_X12_throwsIf l D cA ad base fu h_19) mvX12_throwsIf gw7_193 ⟨rfl, rfl, Nat.le_of_ble_eq_true rfl, Nat.le_of_ble_eq_true rfl⟩ dq_63 ln_63 vc_12 rfl hl.1 rfl (Nat.le_of_ble_eq_true rfl) dX12_forge_19 (Nat.zero_le _) (Nat.zero_le _)) (fun H locs hw => ?_)
    refine lv_if_eq (tgt := 27) hx hb dX12_forge_22 (by decide) (fun c_22 => ?_) (fun c_22 => ?_)
    · have hf := if_t hf c_22
      refine lv_aload_n hx hb dX12_forge_27 rfl (lv_at hl 0 rfl) ?_
      refine lv_aload_n hx hb dX12_forge_28 rfl (lv_at hl 0 rfl) ?_
      refine r_getR C hw (k := 9) (r := 70) dq_63 ln_63 rfl vc_12 inX12 (by decide) rfl gw6_190 dX12_forge_29 ?_
      refine lv_iload_n hx hb dX12_forge_32 rfl (lv_at hl 1 rfl) ?_
      obtain ⟨S_33, r_33, h_33, hf⟩ := bd_some hf
      refine r_bi hw (r_runV (rest := []) C hw (m_X12_reads l D cA ad base fu 70 1040 ⟨dq_70, ln_70⟩ h_33) mvX12_reads gw8_114 ⟨rfl, rfl, Nat.le_of_ble_eq_true rfl, Nat.le_of_ble_eq_true rfl⟩ dq_63 ln_63 vc_12 rfl hl.1 rfl (Nat.le_of_ble_eq_true rfl) dX12_forge_33 (Nat.zero_le _) (Nat.zero_le _)) (fun H locs hw => ?_)
      refine lv_if_eq (tgt := 46) hx hb dX12_forge_36 (by decide) (fun c_36 => ?_) (fun c_36 => ?_)
      · have hf := if_t hf c_36
        refine lv_iconst (v := (-1 : Int32)) hx hb dX12_forge_46 (by decide) ?_
        exact r_iret C hw hr hlocks hf dX12_forge_47
      · have hf := if_f hf c_36
        refine lv_aload_n hx hb dX12_forge_39 rfl (lv_at hl 0 rfl) ?_
        obtain ⟨S_40, r_40, h_40, hf⟩ := bd_some hf
        refine r_bi hw (r_runV (rest := []) C hw (m_X12_isReply l D cA ad base fu h_40) mvX12_isReply gw8_217 ⟨rfl, rfl, Nat.le_of_ble_eq_true rfl, Nat.le_of_ble_eq_true rfl⟩ dq_63 ln_63 vc_12 rfl hl.1 rfl (Nat.le_of_ble_eq_true rfl) dX12_forge_40 (Nat.zero_le _) (Nat.zero_le _)) (fun H locs hw => ?_)
        refine lv_if_ne (tgt := 48) hx hb dX12_forge_43 (by decide) (fun c_43 => ?_) (fun c_43 => ?_)
        · have hf := if_f hf c_43
          refine lv_aload_n hx hb dX12_forge_48 rfl (lv_at hl 0 rfl) ?_
          obtain ⟨S_49, r_49, h_49, hf⟩ := bd_some hf
          refine r_bv hw (r_runV (rest := []) C hw (m_X12_takes l D cA ad base fu h_49) mvX12_takes gw8_221 ⟨rfl, rfl, Nat.le_of_ble_eq_true rfl, Nat.le_of_ble_eq_true rfl⟩ dq_63 ln_63 vc_12 rfl hl.1 rfl (Nat.le_of_ble_eq_true rfl) dX12_forge_49 (Nat.zero_le _) (Nat.zero_le _)) (fun H locs hw => ?_)
          refine lv_aload_n hx hb dX12_forge_52 rfl (lv_at hl 0 rfl) ?_
          obtain ⟨S_53, r_53, h_53, hf⟩ := bd_some hf
          refine r_bi hw (r_runV (rest := []) C hw (m_X12_goes l D cA ad base fu h_53) mvX12_goes gw8_176 ⟨rfl, rfl, Nat.le_of_ble_eq_true rfl, Nat.le_of_ble_eq_true rfl⟩ dq_63 ln_63 vc_12 rfl hl.1 rfl (Nat.le_of_ble_eq_true rfl) dX12_forge_53 (Nat.zero_le _) (Nat.zero_le _)) (fun H locs hw => ?_)
          exact r_iret C hw hr hlocks hf dX12_forge_56
        · have hf := if_t hf c_43
          refine lv_iconst (v := (-1 : Int32)) hx hb dX12_forge_46 (by decide) ?_
          exact r_iret C hw hr hlocks hf dX12_forge_47
    · have hf := if_f hf c_22
      refine lv_iconst (v := (0 : Int32)) hx hb dX12_forge_25 (by decide) ?_
      exact r_iret C hw hr hlocks hf dX12_forge_26
  show W p l e rmX12_forge s m args below meth c s.heap [] 0 0 _ _
  refine lv_aload_n hx hb dX12_forge_0 rfl (lv_at hl 0 rfl) ?_
  obtain ⟨S_1, r_1, h_1, hf⟩ := bd_some hf
  refine r_bi hw (r_runV (rest := []) C hw (m_X12_used l D cA ad base fu h_1) mvX12_used gw7_182 ⟨rfl, rfl, Nat.le_of_ble_eq_true rfl, Nat.le_of_ble_eq_true rfl⟩ dq_63 ln_63 vc_12 rfl hl.1 rfl (Nat.le_of_ble_eq_true rfl) dX12_forge_1 (Nat.zero_le _) (Nat.zero_le _)) (fun H locs hw => ?_)
  refine lv_istore_n (lv' := [(1, .int r_1), (0, .ref (ad 63))]) hx hb dX12_forge_4 rfl hl (by decide) rfl (fun ls hl => ?_)
  refine lv_aload_n hx hb dX12_forge_5 rfl (lv_at hl 1 rfl) ?_
  refine lv_aload_n hx hb dX12_forge_6 rfl (lv_at hl 1 rfl) ?_
  refine r_getI C hw (k := 67) dq_63 ln_63 rfl vc_12 inX12 (by decide) rfl gw7_8 dX12_forge_7 ?_
  refine lv_if_ne (tgt := 17) hx hb dX12_forge_10 (by decide) (fun c_10 => ?_) (fun c_10 => ?_)
  · have hf := if_f hf c_10
    refine lv_iconst (v := (0 : Int32)) hx hb dX12_forge_17 (by decide) ?_
    exact J_18 _ _ _ _ _ _ hf (lv_sub hl [1, 0] rfl) hw
  · have hf := if_t hf c_10
    refine lv_iconst (v := (1 : Int32)) hx hb dX12_forge_13 (by decide) ?_
    refine lv_goto (tgt := 18) hx hb dX12_forge_14 (by decide) ?_
    exact J_18 _ _ _ _ _ _ hf (lv_sub hl [1, 0] rfl) hw
noncomputable def fX12_query_18 (fu : Nat) (x1 : Int32) (t0 : Int32) (S : St) : Option (St × Int32) :=
  bd (fX12_throwsIf fu t0 (1 : Int32) S) fun S_19 r_19 =>
  if r_19 = 0 then
    if x1 = (0 : Int32) then
      some (S_19, (S_19.1 63 68))
    else
    if x1 = (1 : Int32) then
      some (S_19, (S_19.1 63 69))
    else
    if x1 = (2 : Int32) then
      gd (ck ((S_19.1 63 62) - (1 : Int32)) 4) <|
      some (S_19, (S_19.1 97 (((S_19.1 63 62) - (1 : Int32))).toNatClampNeg))
    else
    if x1 = (3 : Int32) then
      gd (ck ((S_19.1 63 62) - (1 : Int32)) 4) <|
      some (S_19, (S_19.1 98 (((S_19.1 63 62) - (1 : Int32))).toNatClampNeg))
    else
    if x1 = (4 : Int32) then
      some (S_19, (S_19.1 63 62))
    else
    if x1 = (5 : Int32) then
      gd (ck ((S_19.1 63 62) - (1 : Int32)) 4) <|
      some (S_19, (S_19.1 100 (((S_19.1 63 62) - (1 : Int32))).toNatClampNeg))
    else
      sI 63 0 (2 : Int32) S_19 fun S_121 =>
      some (S_121, (0 : Int32))
  else
    some (S_19, (0 : Int32))
noncomputable def fX12_query (fu : Nat) (x1 : Int32) (S : St) : Option (St × Int32) :=
  sI 63 0 (0 : Int32) S fun S_2 =>
  if (S_2.1 63 67) = 0 then
    fX12_query_18 fu x1 (1 : Int32) S_2
  else
    fX12_query_18 fu x1 (0 : Int32) S_2
theorem mvX12_query : MV yX12_query cX12_query 2 (some .int) RX12 1 := ⟨gw9_22, gw9_20, gw9_21, gw1_13, by decide +kernel⟩
def rmX12_query : Room := { frames := 1, cells := 0, slots := 0, locals := 22 }
set_option maxHeartbeats 4000000 in
set_option maxRecDepth 100000 in
theorem m_X12_query (l : Launch) (D : va_G) (cA : FieldType → ClassId) (ad : Nat → Nat) (base : Nat) (fu : Nat) {S S' : St} {x1 : Int32} {r : Int32} (hf : fX12_query fu x1 S = some (S', r)) : Met l yX12_query (GC yX12_query cX12_query 2 (some .int)) rmX12_query (va_Pc [.ref (ad 63), .int x1] (wd D cA ad base S)) (QI D cA ad base S' r) 0 0 (aB base) := by
  refine Met.ofW (cc := cX12_query) (maxL := 2) (ret := (some .int)) (by decide) rfl ?_
  intro p e s m args below meth c s₁ B hml hv
  obtain ⟨hargs, hwd⟩ := hv
  have hr := B.returns
  have hlocks := B.notSynchronized
  obtain ⟨C, hw⟩ := CX.of (own := RX12) rfl B hml hwd
  have hx := C.1
  have hb := C.2.1
  have hl := lv_entry ([.ref (ad 63), .int x1]) (n := 2) (Nat.le_of_ble_eq_true rfl)
  rw [show entryFrame m args 2 = entryFrame m ([.ref (ad 63), .int x1] : List Value).toArray 2 from by rw [hargs], lg_entry_eq]
  generalize (lg_sl ([.ref (ad 63), .int x1]) ++ List.replicate (2 - (lg_sl ([.ref (ad 63), .int x1])).length) Slot.unset).toArray = ls at hl ⊢
  have hl : lv_has ls 2 [(0, .ref (ad 63)), (1, .int x1)] := hl
  have J_18 : ∀ (x1 : Int32) (t0 : Int32) (S : St) (H : Heap) (locs : List Loc) (ls : Array Slot), fX12_query_18 fu x1 t0 S = some (S', r) → lv_has ls 2 [(0, .ref (ad 63)), (1, .int x1)] → WS D cA ad base s S H locs → W p l e rmX12_query s m args below meth c H locs 0 0 (MQ below (QI D cA ad base S' r) args s 0 0 (aB base)) (F0 m 18 ls [.int t0, .ref (ad 63)]) := by
    intro x1 t0 S H locs ls hf hl hw
    refine lv_iconst (v := (1 : Int32)) hx hb dX12_query_18 (by decide) ?_
    obtain ⟨S_19, r_19, h_19, hf⟩ := bd_some hf
    refine r_bi hw (r_runV (rest := []) C hw (m_X12_throwsIf l D cA ad base fu h_19) mvX12_throwsIf gw7_193 ⟨rfl, rfl, Nat.le_of_ble_eq_true rfl, Nat.le_of_ble_eq_true rfl⟩ dq_63 ln_63 vc_12 rfl hl.1 rfl (Nat.le_of_ble_eq_true rfl) dX12_query_19 (Nat.zero_le _) (Nat.zero_le _)) (fun H locs hw => ?_)
    refine lv_if_eq (tgt := 27) hx hb dX12_query_22 (by decide) (fun c_22 => ?_) (fun c_22 => ?_)
    · have hf := if_t hf c_22
      refine lv_iload_n hx hb dX12_query_27 rfl (lv_at hl 1 rfl) ?_
      by_cases c_28_0 : x1 = (0 : Int32)
      · have hf := if_t hf c_28_0
        refine lv_tableIn (tgt := 68) hx hb dX12_query_28 (by rw [c_28_0]; decide) (by rw [c_28_0]; decide) (off := 40) (by rw [c_28_0]; rfl) (by decide) ?_
        refine lv_aload_n hx hb dX12_query_68 rfl (lv_at hl 0 rfl) ?_
        refine r_getI C hw (k := 68) dq_63 ln_63 rfl vc_12 inX12 (by decide) rfl gw7_9 dX12_query_69 ?_
        exact r_iret C hw hr hlocks hf dX12_query_72
      have hf := if_f hf c_28_0
      by_cases c_28_1 : x1 = (1 : Int32)
      · have hf := if_t hf c_28_1
        refine lv_tableIn (tgt := 73) hx hb dX12_query_28 (by rw [c_28_1]; decide) (by rw [c_28_1]; decide) (off := 45) (by rw [c_28_1]; rfl) (by decide) ?_
        refine lv_aload_n hx hb dX12_query_73 rfl (lv_at hl 0 rfl) ?_
        refine r_getI C hw (k := 69) dq_63 ln_63 rfl vc_12 inX12 (by decide) rfl gw7_10 dX12_query_74 ?_
        exact r_iret C hw hr hlocks hf dX12_query_77
      have hf := if_f hf c_28_1
      by_cases c_28_2 : x1 = (2 : Int32)
      · have hf := if_t hf c_28_2
        refine lv_tableIn (tgt := 78) hx hb dX12_query_28 (by rw [c_28_2]; decide) (by rw [c_28_2]; decide) (off := 50) (by rw [c_28_2]; rfl) (by decide) ?_
        refine lv_aload_n hx hb dX12_query_78 rfl (lv_at hl 0 rfl) ?_
        refine r_getR C hw (k := 55) (r := 97) dq_63 ln_63 rfl vc_12 inX12 (by decide) rfl gw6_236 dX12_query_79 ?_
        refine lv_aload_n hx hb dX12_query_82 rfl (lv_at hl 0 rfl) ?_
        refine r_getI C hw (k := 62) dq_63 ln_63 rfl vc_12 inX12 (by decide) rfl gw7_3 dX12_query_83 ?_
        refine lv_iconst (v := (1 : Int32)) hx hb dX12_query_86 (by decide) ?_
        refine lv_isub hx hb dX12_query_87 ?_
        obtain ⟨z_88, hf⟩ := gd_some hf
        refine r_iald C hw (x := 97) dq_97 ln_97 z_88 dX12_query_88 ?_
        exact r_iret C hw hr hlocks hf dX12_query_89
      have hf := if_f hf c_28_2
      by_cases c_28_3 : x1 = (3 : Int32)
      · have hf := if_t hf c_28_3
        refine lv_tableIn (tgt := 90) hx hb dX12_query_28 (by rw [c_28_3]; decide) (by rw [c_28_3]; decide) (off := 62) (by rw [c_28_3]; rfl) (by decide) ?_
        refine lv_aload_n hx hb dX12_query_90 rfl (lv_at hl 0 rfl) ?_
        refine r_getR C hw (k := 56) (r := 98) dq_63 ln_63 rfl vc_12 inX12 (by decide) rfl gw6_237 dX12_query_91 ?_
        refine lv_aload_n hx hb dX12_query_94 rfl (lv_at hl 0 rfl) ?_
        refine r_getI C hw (k := 62) dq_63 ln_63 rfl vc_12 inX12 (by decide) rfl gw7_3 dX12_query_95 ?_
        refine lv_iconst (v := (1 : Int32)) hx hb dX12_query_98 (by decide) ?_
        refine lv_isub hx hb dX12_query_99 ?_
        obtain ⟨z_100, hf⟩ := gd_some hf
        refine r_iald C hw (x := 98) dq_98 ln_98 z_100 dX12_query_100 ?_
        exact r_iret C hw hr hlocks hf dX12_query_101
      have hf := if_f hf c_28_3
      by_cases c_28_4 : x1 = (4 : Int32)
      · have hf := if_t hf c_28_4
        refine lv_tableIn (tgt := 102) hx hb dX12_query_28 (by rw [c_28_4]; decide) (by rw [c_28_4]; decide) (off := 74) (by rw [c_28_4]; rfl) (by decide) ?_
        refine lv_aload_n hx hb dX12_query_102 rfl (lv_at hl 0 rfl) ?_
        refine r_getI C hw (k := 62) dq_63 ln_63 rfl vc_12 inX12 (by decide) rfl gw7_3 dX12_query_103 ?_
        exact r_iret C hw hr hlocks hf dX12_query_106
      have hf := if_f hf c_28_4
      by_cases c_28_5 : x1 = (5 : Int32)
      · have hf := if_t hf c_28_5
        refine lv_tableIn (tgt := 107) hx hb dX12_query_28 (by rw [c_28_5]; decide) (by rw [c_28_5]; decide) (off := 79) (by rw [c_28_5]; rfl) (by decide) ?_
        refine lv_aload_n hx hb dX12_query_107 rfl (lv_at hl 0 rfl) ?_
        refine r_getR C hw (k := 58) (r := 100) dq_63 ln_63 rfl vc_12 inX12 (by decide) rfl gw6_239 dX12_query_108 ?_
        refine lv_aload_n hx hb dX12_query_111 rfl (lv_at hl 0 rfl) ?_
        refine r_getI C hw (k := 62) dq_63 ln_63 rfl vc_12 inX12 (by decide) rfl gw7_3 dX12_query_112 ?_
        refine lv_iconst (v := (1 : Int32)) hx hb dX12_query_115 (by decide) ?_
        refine lv_isub hx hb dX12_query_116 ?_
        obtain ⟨z_117, hf⟩ := gd_some hf
        refine r_iald C hw (x := 100) dq_100 ln_100 z_117 dX12_query_117 ?_
        exact r_iret C hw hr hlocks hf dX12_query_118
      have hf := if_f hf c_28_5
      refine lv_tableOut (tgt := 119) hx hb dX12_query_28 (sw_out 6 (fun k hk => by rcases (show k = 0 ∨ k = 1 ∨ k = 2 ∨ k = 3 ∨ k = 4 ∨ k = 5 by omega) with rfl | rfl | rfl | rfl | rfl | rfl <;> assumption)) (by decide) ?_
      refine lv_aload_n hx hb dX12_query_119 rfl (lv_at hl 0 rfl) ?_
      refine lv_iconst (v := (2 : Int32)) hx hb dX12_query_120 (by decide) ?_
      obtain ⟨S_121, e_121, hf⟩ := sI_some hf
      refine r_putI C hw (k := 0) (ty0 := tyX12) dq_63 ln_63 rfl vc_12 inX12 tyX12_ok nmX12 (by decide) rfl rfl gw6_181 rfl rfl dX12_query_121 e_121 (fun H locs hw => ?_)
      refine lv_iconst (v := (0 : Int32)) hx hb dX12_query_124 (by decide) ?_
      exact r_iret C hw hr hlocks hf dX12_query_125
    · have hf := if_f hf c_22
      refine lv_iconst (v := (0 : Int32)) hx hb dX12_query_25 (by decide) ?_
      exact r_iret C hw hr hlocks hf dX12_query_26
  show W p l e rmX12_query s m args below meth c s.heap [] 0 0 _ _
  refine lv_aload_n hx hb dX12_query_0 rfl (lv_at hl 0 rfl) ?_
  refine lv_iconst (v := (0 : Int32)) hx hb dX12_query_1 (by decide) ?_
  obtain ⟨S_2, e_2, hf⟩ := sI_some hf
  refine r_putI C hw (k := 0) (ty0 := tyX12) dq_63 ln_63 rfl vc_12 inX12 tyX12_ok nmX12 (by decide) rfl rfl gw6_181 rfl rfl dX12_query_2 e_2 (fun H locs hw => ?_)
  refine lv_aload_n hx hb dX12_query_5 rfl (lv_at hl 0 rfl) ?_
  refine lv_aload_n hx hb dX12_query_6 rfl (lv_at hl 0 rfl) ?_
  refine r_getI C hw (k := 67) dq_63 ln_63 rfl vc_12 inX12 (by decide) rfl gw7_8 dX12_query_7 ?_
  refine lv_if_ne (tgt := 17) hx hb dX12_query_10 (by decide) (fun c_10 => ?_) (fun c_10 => ?_)
  · have hf := if_f hf c_10
    refine lv_iconst (v := (0 : Int32)) hx hb dX12_query_17 (by decide) ?_
    exact J_18 _ _ _ _ _ _ hf (lv_sub hl [0, 1] rfl) hw
  · have hf := if_t hf c_10
    refine lv_iconst (v := (1 : Int32)) hx hb dX12_query_13 (by decide) ?_
    refine lv_goto (tgt := 18) hx hb dX12_query_14 (by decide) ?_
    exact J_18 _ _ _ _ _ _ hf (lv_sub hl [0, 1] rfl) hw
noncomputable def fX12_result (fu : Nat) (x1 : Int32) (S : St) : Option (St × Int32) :=
  sI 63 0 (0 : Int32) S fun S_2 =>
  if x1 = (0 : Int32) then
    some (S_2, (S_2.1 63 63))
  else
  if x1 = (1 : Int32) then
    if (S_2.1 63 63) = 0 then
      some (S_2, (S_2.1 63 71))
    else
      some (S_2, (0 : Int32))
  else
  if x1 = (2 : Int32) then
    if (S_2.1 63 63) = (5 : Int32) then
      some (S_2, (0 : Int32))
    else
      gd (ck (0 : Int32) 4) <|
      some (S_2, (S_2.1 99 ((0 : Int32)).toNatClampNeg))
  else
  if x1 = (3 : Int32) then
    if (S_2.1 63 63) = (5 : Int32) then
      some (S_2, (0 : Int32))
    else
      gd (ck (0 : Int32) 4) <|
      some (S_2, (S_2.1 97 ((0 : Int32)).toNatClampNeg))
  else
  if x1 = (4 : Int32) then
    some (S_2, (S_2.1 63 65))
  else
    sI 63 0 (1 : Int32) S_2 fun S_106 =>
    some (S_106, (0 : Int32))
theorem mvX12_result : MV yX12_result cX12_result 2 (some .int) RX12 1 := ⟨gw9_26, gw9_24, gw9_25, gw1_13, by decide +kernel⟩
def rmX12_result : Room := { frames := 0, cells := 0, slots := 0, locals := 0 }
set_option maxHeartbeats 4000000 in
set_option maxRecDepth 100000 in
theorem m_X12_result (l : Launch) (D : va_G) (cA : FieldType → ClassId) (ad : Nat → Nat) (base : Nat) (fu : Nat) {S S' : St} {x1 : Int32} {r : Int32} (hf : fX12_result fu x1 S = some (S', r)) : Met l yX12_result (GC yX12_result cX12_result 2 (some .int)) rmX12_result (va_Pc [.ref (ad 63), .int x1] (wd D cA ad base S)) (QI D cA ad base S' r) 0 0 (aB base) := by
  refine Met.ofW (cc := cX12_result) (maxL := 2) (ret := (some .int)) (by decide) rfl ?_
  intro p e s m args below meth c s₁ B hml hv
  obtain ⟨hargs, hwd⟩ := hv
  have hr := B.returns
  have hlocks := B.notSynchronized
  obtain ⟨C, hw⟩ := CX.of (own := RX12) rfl B hml hwd
  have hx := C.1
  have hb := C.2.1
  have hl := lv_entry ([.ref (ad 63), .int x1]) (n := 2) (Nat.le_of_ble_eq_true rfl)
  rw [show entryFrame m args 2 = entryFrame m ([.ref (ad 63), .int x1] : List Value).toArray 2 from by rw [hargs], lg_entry_eq]
  generalize (lg_sl ([.ref (ad 63), .int x1]) ++ List.replicate (2 - (lg_sl ([.ref (ad 63), .int x1])).length) Slot.unset).toArray = ls at hl ⊢
  have hl : lv_has ls 2 [(0, .ref (ad 63)), (1, .int x1)] := hl
  show W p l e rmX12_result s m args below meth c s.heap [] 0 0 _ _
  refine lv_aload_n hx hb dX12_result_0 rfl (lv_at hl 0 rfl) ?_
  refine lv_iconst (v := (0 : Int32)) hx hb dX12_result_1 (by decide) ?_
  obtain ⟨S_2, e_2, hf⟩ := sI_some hf
  refine r_putI C hw (k := 0) (ty0 := tyX12) dq_63 ln_63 rfl vc_12 inX12 tyX12_ok nmX12 (by decide) rfl rfl gw6_181 rfl rfl dX12_result_2 e_2 (fun H locs hw => ?_)
  refine lv_iload_n hx hb dX12_result_5 rfl (lv_at hl 1 rfl) ?_
  by_cases c_6_0 : x1 = (0 : Int32)
  · have hf := if_t hf c_6_0
    refine lv_tableIn (tgt := 40) hx hb dX12_result_6 (by rw [c_6_0]; decide) (by rw [c_6_0]; decide) (off := 34) (by rw [c_6_0]; rfl) (by decide) ?_
    refine lv_aload_n hx hb dX12_result_40 rfl (lv_at hl 0 rfl) ?_
    refine r_getI C hw (k := 63) dq_63 ln_63 rfl vc_12 inX12 (by decide) rfl gw7_4 dX12_result_41 ?_
    exact r_iret C hw hr hlocks hf dX12_result_44
  have hf := if_f hf c_6_0
  by_cases c_6_1 : x1 = (1 : Int32)
  · have hf := if_t hf c_6_1
    refine lv_tableIn (tgt := 45) hx hb dX12_result_6 (by rw [c_6_1]; decide) (by rw [c_6_1]; decide) (off := 39) (by rw [c_6_1]; rfl) (by decide) ?_
    refine lv_aload_n hx hb dX12_result_45 rfl (lv_at hl 0 rfl) ?_
    refine r_getI C hw (k := 63) dq_63 ln_63 rfl vc_12 inX12 (by decide) rfl gw7_4 dX12_result_46 ?_
    refine lv_if_ne (tgt := 59) hx hb dX12_result_49 (by decide) (fun c_49 => ?_) (fun c_49 => ?_)
    · have hf := if_f hf c_49
      refine lv_iconst (v := (0 : Int32)) hx hb dX12_result_59 (by decide) ?_
      exact r_iret C hw hr hlocks hf dX12_result_60
    · have hf := if_t hf c_49
      refine lv_aload_n hx hb dX12_result_52 rfl (lv_at hl 0 rfl) ?_
      refine r_getI C hw (k := 71) dq_63 ln_63 rfl vc_12 inX12 (by decide) rfl gw7_12 dX12_result_53 ?_
      refine lv_goto (tgt := 60) hx hb dX12_result_56 (by decide) ?_
      exact r_iret C hw hr hlocks hf dX12_result_60
  have hf := if_f hf c_6_1
  by_cases c_6_2 : x1 = (2 : Int32)
  · have hf := if_t hf c_6_2
    refine lv_tableIn (tgt := 61) hx hb dX12_result_6 (by rw [c_6_2]; decide) (by rw [c_6_2]; decide) (off := 55) (by rw [c_6_2]; rfl) (by decide) ?_
    refine lv_aload_n hx hb dX12_result_61 rfl (lv_at hl 0 rfl) ?_
    refine r_getI C hw (k := 63) dq_63 ln_63 rfl vc_12 inX12 (by decide) rfl gw7_4 dX12_result_62 ?_
    refine lv_iconst (v := (5 : Int32)) hx hb dX12_result_65 (by decide) ?_
    refine lv_icmp_ne (tgt := 73) hx hb dX12_result_66 (by decide) (fun c_66 => ?_) (fun c_66 => ?_)
    · have hf := if_f hf c_66
      refine lv_aload_n hx hb dX12_result_73 rfl (lv_at hl 0 rfl) ?_
      refine r_getR C hw (k := 57) (r := 99) dq_63 ln_63 rfl vc_12 inX12 (by decide) rfl gw6_238 dX12_result_74 ?_
      refine lv_iconst (v := (0 : Int32)) hx hb dX12_result_77 (by decide) ?_
      obtain ⟨z_78, hf⟩ := gd_some hf
      refine r_iald C hw (x := 99) dq_99 ln_99 z_78 dX12_result_78 ?_
      exact r_iret C hw hr hlocks hf dX12_result_79
    · have hf := if_t hf c_66
      refine lv_iconst (v := (0 : Int32)) hx hb dX12_result_69 (by decide) ?_
      refine lv_goto (tgt := 79) hx hb dX12_result_70 (by decide) ?_
      exact r_iret C hw hr hlocks hf dX12_result_79
  have hf := if_f hf c_6_2
  by_cases c_6_3 : x1 = (3 : Int32)
  · have hf := if_t hf c_6_3
    refine lv_tableIn (tgt := 80) hx hb dX12_result_6 (by rw [c_6_3]; decide) (by rw [c_6_3]; decide) (off := 74) (by rw [c_6_3]; rfl) (by decide) ?_
    refine lv_aload_n hx hb dX12_result_80 rfl (lv_at hl 0 rfl) ?_
    refine r_getI C hw (k := 63) dq_63 ln_63 rfl vc_12 inX12 (by decide) rfl gw7_4 dX12_result_81 ?_
    refine lv_iconst (v := (5 : Int32)) hx hb dX12_result_84 (by decide) ?_
    refine lv_icmp_ne (tgt := 92) hx hb dX12_result_85 (by decide) (fun c_85 => ?_) (fun c_85 => ?_)
    · have hf := if_f hf c_85
      refine lv_aload_n hx hb dX12_result_92 rfl (lv_at hl 0 rfl) ?_
      refine r_getR C hw (k := 55) (r := 97) dq_63 ln_63 rfl vc_12 inX12 (by decide) rfl gw6_236 dX12_result_93 ?_
      refine lv_iconst (v := (0 : Int32)) hx hb dX12_result_96 (by decide) ?_
      obtain ⟨z_97, hf⟩ := gd_some hf
      refine r_iald C hw (x := 97) dq_97 ln_97 z_97 dX12_result_97 ?_
      exact r_iret C hw hr hlocks hf dX12_result_98
    · have hf := if_t hf c_85
      refine lv_iconst (v := (0 : Int32)) hx hb dX12_result_88 (by decide) ?_
      refine lv_goto (tgt := 98) hx hb dX12_result_89 (by decide) ?_
      exact r_iret C hw hr hlocks hf dX12_result_98
  have hf := if_f hf c_6_3
  by_cases c_6_4 : x1 = (4 : Int32)
  · have hf := if_t hf c_6_4
    refine lv_tableIn (tgt := 99) hx hb dX12_result_6 (by rw [c_6_4]; decide) (by rw [c_6_4]; decide) (off := 93) (by rw [c_6_4]; rfl) (by decide) ?_
    refine lv_aload_n hx hb dX12_result_99 rfl (lv_at hl 0 rfl) ?_
    refine r_getI C hw (k := 65) dq_63 ln_63 rfl vc_12 inX12 (by decide) rfl gw7_6 dX12_result_100 ?_
    exact r_iret C hw hr hlocks hf dX12_result_103
  have hf := if_f hf c_6_4
  refine lv_tableOut (tgt := 104) hx hb dX12_result_6 (sw_out 5 (fun k hk => by rcases (show k = 0 ∨ k = 1 ∨ k = 2 ∨ k = 3 ∨ k = 4 by omega) with rfl | rfl | rfl | rfl | rfl <;> assumption)) (by decide) ?_
  refine lv_aload_n hx hb dX12_result_104 rfl (lv_at hl 0 rfl) ?_
  refine lv_iconst (v := (1 : Int32)) hx hb dX12_result_105 (by decide) ?_
  obtain ⟨S_106, e_106, hf⟩ := sI_some hf
  refine r_putI C hw (k := 0) (ty0 := tyX12) dq_63 ln_63 rfl vc_12 inX12 tyX12_ok nmX12 (by decide) rfl rfl gw6_181 rfl rfl dX12_result_106 e_106 (fun H locs hw => ?_)
  refine lv_iconst (v := (0 : Int32)) hx hb dX12_result_109 (by decide) ?_
  exact r_iret C hw hr hlocks hf dX12_result_110
noncomputable def fX12_data_24 (fu : Nat) (S : St) : Option (St × Int32) :=
  some (S, (0 : Int32))
noncomputable def fX12_data (fu : Nat) (x1 : Int32) (S : St) : Option (St × Int32) :=
  sI 63 0 (0 : Int32) S fun S_2 =>
  if (S_2.1 63 63) = 0 then
    if x1 < 0 then
      fX12_data_24 fu S_2
    else
      if x1 < (S_2.1 63 71) then
        gd (ck x1 10) <|
        some (S_2, (S_2.1 104 (x1).toNatClampNeg))
      else
        fX12_data_24 fu S_2
  else
    fX12_data_24 fu S_2
theorem mvX12_data : MV yX12_data cX12_data 2 (some .int) RX12 1 := ⟨gw9_30, gw9_28, gw9_29, gw1_13, by decide +kernel⟩
def rmX12_data : Room := { frames := 0, cells := 0, slots := 0, locals := 0 }
set_option maxHeartbeats 4000000 in
set_option maxRecDepth 100000 in
theorem m_X12_data (l : Launch) (D : va_G) (cA : FieldType → ClassId) (ad : Nat → Nat) (base : Nat) (fu : Nat) {S S' : St} {x1 : Int32} {r : Int32} (hf : fX12_data fu x1 S = some (S', r)) : Met l yX12_data (GC yX12_data cX12_data 2 (some .int)) rmX12_data (va_Pc [.ref (ad 63), .int x1] (wd D cA ad base S)) (QI D cA ad base S' r) 0 0 (aB base) := by
  refine Met.ofW (cc := cX12_data) (maxL := 2) (ret := (some .int)) (by decide) rfl ?_
  intro p e s m args below meth c s₁ B hml hv
  obtain ⟨hargs, hwd⟩ := hv
  have hr := B.returns
  have hlocks := B.notSynchronized
  obtain ⟨C, hw⟩ := CX.of (own := RX12) rfl B hml hwd
  have hx := C.1
  have hb := C.2.1
  have hl := lv_entry ([.ref (ad 63), .int x1]) (n := 2) (Nat.le_of_ble_eq_true rfl)
  rw [show entryFrame m args 2 = entryFrame m ([.ref (ad 63), .int x1] : List Value).toArray 2 from by rw [hargs], lg_entry_eq]
  generalize (lg_sl ([.ref (ad 63), .int x1]) ++ List.replicate (2 - (lg_sl ([.ref (ad 63), .int x1])).length) Slot.unset).toArray = ls at hl ⊢
  have hl : lv_has ls 2 [(0, .ref (ad 63)), (1, .int x1)] := hl
  have J_24 : ∀ (S : St) (H : Heap) (locs : List Loc) (ls : Array Slot), fX12_data_24 fu S = some (S', r) → lv_has ls 2 [] → WS D cA ad base s S H locs → W p l e rmX12_data s m args below meth c H locs 0 0 (MQ below (QI D cA ad base S' r) args s 0 0 (aB base)) (F0 m 24 ls []) := by
    intro  S H locs ls hf hl hw
    refine lv_iconst (v := (0 : Int32)) hx hb dX12_data_24 (by decide) ?_
    refine lv_goto (tgt := 34) hx hb dX12_data_25 (by decide) ?_
    exact r_iret C hw hr hlocks hf dX12_data_34
  show W p l e rmX12_data s m args below meth c s.heap [] 0 0 _ _
  refine lv_aload_n hx hb dX12_data_0 rfl (lv_at hl 0 rfl) ?_
  refine lv_iconst (v := (0 : Int32)) hx hb dX12_data_1 (by decide) ?_
  obtain ⟨S_2, e_2, hf⟩ := sI_some hf
  refine r_putI C hw (k := 0) (ty0 := tyX12) dq_63 ln_63 rfl vc_12 inX12 tyX12_ok nmX12 (by decide) rfl rfl gw6_181 rfl rfl dX12_data_2 e_2 (fun H locs hw => ?_)
  refine lv_aload_n hx hb dX12_data_5 rfl (lv_at hl 0 rfl) ?_
  refine r_getI C hw (k := 63) dq_63 ln_63 rfl vc_12 inX12 (by decide) rfl gw7_4 dX12_data_6 ?_
  refine lv_if_ne (tgt := 24) hx hb dX12_data_9 (by decide) (fun c_9 => ?_) (fun c_9 => ?_)
  · have hf := if_f hf c_9
    exact J_24 _ _ _ _ hf (lv_sub hl [] rfl) hw
  · have hf := if_t hf c_9
    refine lv_iload_n hx hb dX12_data_12 rfl (lv_at hl 1 rfl) ?_
    refine lv_if_lt (tgt := 24) hx hb dX12_data_13 (by decide) (fun c_13 => ?_) (fun c_13 => ?_)
    · have hf := if_t hf c_13
      exact J_24 _ _ _ _ hf (lv_sub hl [] rfl) hw
    · have hf := if_f hf c_13
      refine lv_iload_n hx hb dX12_data_16 rfl (lv_at hl 1 rfl) ?_
      refine lv_aload_n hx hb dX12_data_17 rfl (lv_at hl 0 rfl) ?_
      refine r_getI C hw (k := 71) dq_63 ln_63 rfl vc_12 inX12 (by decide) rfl gw7_12 dX12_data_18 ?_
      refine lv_icmp_lt (tgt := 28) hx hb dX12_data_21 (by decide) (fun c_21 => ?_) (fun c_21 => ?_)
      · have hf := if_t hf c_21
        refine lv_aload_n hx hb dX12_data_28 rfl (lv_at hl 0 rfl) ?_
        refine r_getR C hw (k := 70) (r := 104) dq_63 ln_63 rfl vc_12 inX12 (by decide) rfl gw7_11 dX12_data_29 ?_
        refine lv_iload_n hx hb dX12_data_32 rfl (lv_at hl 1 rfl) ?_
        obtain ⟨z_33, hf⟩ := gd_some hf
        refine r_iald C hw (x := 104) dq_104 ln_104 z_33 dX12_data_33 ?_
        exact r_iret C hw hr hlocks hf dX12_data_34
      · have hf := if_f hf c_21
        exact J_24 _ _ _ _ hf (lv_sub hl [] rfl) hw
noncomputable def fX12_count (fu : Nat) (x1 : Int32) (S : St) : Option (St × Int32) :=
  sI 63 0 (0 : Int32) S fun S_2 =>
  if x1 = (0 : Int32) then
    some (S_2, (S_2.1 63 5))
  else
  if x1 = (1 : Int32) then
    some (S_2, (S_2.1 63 14))
  else
  if x1 = (2 : Int32) then
    some (S_2, (S_2.1 63 20))
  else
  if x1 = (3 : Int32) then
    some (S_2, (S_2.1 63 23))
  else
  if x1 = (4 : Int32) then
    some (S_2, (S_2.1 63 25))
  else
  if x1 = (5 : Int32) then
    some (S_2, (S_2.1 63 51))
  else
  if x1 = (6 : Int32) then
    some (S_2, (S_2.1 63 50))
  else
  if x1 = (7 : Int32) then
    some (S_2, (S_2.1 63 66))
  else
  if x1 = (8 : Int32) then
    some (S_2, (S_2.1 63 10))
  else
    some (S_2, (-1 : Int32))
theorem mvX12_count : MV yX12_count cX12_count 2 (some .int) RX12 1 := ⟨gw9_34, gw9_32, gw9_33, gw1_13, by decide +kernel⟩
def rmX12_count : Room := { frames := 0, cells := 0, slots := 0, locals := 0 }
set_option maxHeartbeats 4000000 in
set_option maxRecDepth 100000 in
theorem m_X12_count (l : Launch) (D : va_G) (cA : FieldType → ClassId) (ad : Nat → Nat) (base : Nat) (fu : Nat) {S S' : St} {x1 : Int32} {r : Int32} (hf : fX12_count fu x1 S = some (S', r)) : Met l yX12_count (GC yX12_count cX12_count 2 (some .int)) rmX12_count (va_Pc [.ref (ad 63), .int x1] (wd D cA ad base S)) (QI D cA ad base S' r) 0 0 (aB base) := by
  refine Met.ofW (cc := cX12_count) (maxL := 2) (ret := (some .int)) (by decide) rfl ?_
  intro p e s m args below meth c s₁ B hml hv
  obtain ⟨hargs, hwd⟩ := hv
  have hr := B.returns
  have hlocks := B.notSynchronized
  obtain ⟨C, hw⟩ := CX.of (own := RX12) rfl B hml hwd
  have hx := C.1
  have hb := C.2.1
  have hl := lv_entry ([.ref (ad 63), .int x1]) (n := 2) (Nat.le_of_ble_eq_true rfl)
  rw [show entryFrame m args 2 = entryFrame m ([.ref (ad 63), .int x1] : List Value).toArray 2 from by rw [hargs], lg_entry_eq]
  generalize (lg_sl ([.ref (ad 63), .int x1]) ++ List.replicate (2 - (lg_sl ([.ref (ad 63), .int x1])).length) Slot.unset).toArray = ls at hl ⊢
  have hl : lv_has ls 2 [(0, .ref (ad 63)), (1, .int x1)] := hl
  show W p l e rmX12_count s m args below meth c s.heap [] 0 0 _ _
  refine lv_aload_n hx hb dX12_count_0 rfl (lv_at hl 0 rfl) ?_
  refine lv_iconst (v := (0 : Int32)) hx hb dX12_count_1 (by decide) ?_
  obtain ⟨S_2, e_2, hf⟩ := sI_some hf
  refine r_putI C hw (k := 0) (ty0 := tyX12) dq_63 ln_63 rfl vc_12 inX12 tyX12_ok nmX12 (by decide) rfl rfl gw6_181 rfl rfl dX12_count_2 e_2 (fun H locs hw => ?_)
  refine lv_iload_n hx hb dX12_count_5 rfl (lv_at hl 1 rfl) ?_
  by_cases c_6_0 : x1 = (0 : Int32)
  · have hf := if_t hf c_6_0
    refine lv_tableIn (tgt := 56) hx hb dX12_count_6 (by rw [c_6_0]; decide) (by rw [c_6_0]; decide) (off := 50) (by rw [c_6_0]; rfl) (by decide) ?_
    refine lv_aload_n hx hb dX12_count_56 rfl (lv_at hl 0 rfl) ?_
    refine r_getI C hw (k := 5) dq_63 ln_63 rfl vc_12 inX12 (by decide) rfl gw6_186 dX12_count_57 ?_
    exact r_iret C hw hr hlocks hf dX12_count_60
  have hf := if_f hf c_6_0
  by_cases c_6_1 : x1 = (1 : Int32)
  · have hf := if_t hf c_6_1
    refine lv_tableIn (tgt := 61) hx hb dX12_count_6 (by rw [c_6_1]; decide) (by rw [c_6_1]; decide) (off := 55) (by rw [c_6_1]; rfl) (by decide) ?_
    refine lv_aload_n hx hb dX12_count_61 rfl (lv_at hl 0 rfl) ?_
    refine r_getI C hw (k := 14) dq_63 ln_63 rfl vc_12 inX12 (by decide) rfl gw6_195 dX12_count_62 ?_
    exact r_iret C hw hr hlocks hf dX12_count_65
  have hf := if_f hf c_6_1
  by_cases c_6_2 : x1 = (2 : Int32)
  · have hf := if_t hf c_6_2
    refine lv_tableIn (tgt := 66) hx hb dX12_count_6 (by rw [c_6_2]; decide) (by rw [c_6_2]; decide) (off := 60) (by rw [c_6_2]; rfl) (by decide) ?_
    refine lv_aload_n hx hb dX12_count_66 rfl (lv_at hl 0 rfl) ?_
    refine r_getI C hw (k := 20) dq_63 ln_63 rfl vc_12 inX12 (by decide) rfl gw6_201 dX12_count_67 ?_
    exact r_iret C hw hr hlocks hf dX12_count_70
  have hf := if_f hf c_6_2
  by_cases c_6_3 : x1 = (3 : Int32)
  · have hf := if_t hf c_6_3
    refine lv_tableIn (tgt := 71) hx hb dX12_count_6 (by rw [c_6_3]; decide) (by rw [c_6_3]; decide) (off := 65) (by rw [c_6_3]; rfl) (by decide) ?_
    refine lv_aload_n hx hb dX12_count_71 rfl (lv_at hl 0 rfl) ?_
    refine r_getI C hw (k := 23) dq_63 ln_63 rfl vc_12 inX12 (by decide) rfl gw6_204 dX12_count_72 ?_
    exact r_iret C hw hr hlocks hf dX12_count_75
  have hf := if_f hf c_6_3
  by_cases c_6_4 : x1 = (4 : Int32)
  · have hf := if_t hf c_6_4
    refine lv_tableIn (tgt := 76) hx hb dX12_count_6 (by rw [c_6_4]; decide) (by rw [c_6_4]; decide) (off := 70) (by rw [c_6_4]; rfl) (by decide) ?_
    refine lv_aload_n hx hb dX12_count_76 rfl (lv_at hl 0 rfl) ?_
    refine r_getI C hw (k := 25) dq_63 ln_63 rfl vc_12 inX12 (by decide) rfl gw6_206 dX12_count_77 ?_
    exact r_iret C hw hr hlocks hf dX12_count_80
  have hf := if_f hf c_6_4
  by_cases c_6_5 : x1 = (5 : Int32)
  · have hf := if_t hf c_6_5
    refine lv_tableIn (tgt := 81) hx hb dX12_count_6 (by rw [c_6_5]; decide) (by rw [c_6_5]; decide) (off := 75) (by rw [c_6_5]; rfl) (by decide) ?_
    refine lv_aload_n hx hb dX12_count_81 rfl (lv_at hl 0 rfl) ?_
    refine r_getI C hw (k := 51) dq_63 ln_63 rfl vc_12 inX12 (by decide) rfl gw6_232 dX12_count_82 ?_
    exact r_iret C hw hr hlocks hf dX12_count_85
  have hf := if_f hf c_6_5
  by_cases c_6_6 : x1 = (6 : Int32)
  · have hf := if_t hf c_6_6
    refine lv_tableIn (tgt := 86) hx hb dX12_count_6 (by rw [c_6_6]; decide) (by rw [c_6_6]; decide) (off := 80) (by rw [c_6_6]; rfl) (by decide) ?_
    refine lv_aload_n hx hb dX12_count_86 rfl (lv_at hl 0 rfl) ?_
    refine r_getI C hw (k := 50) dq_63 ln_63 rfl vc_12 inX12 (by decide) rfl gw6_231 dX12_count_87 ?_
    exact r_iret C hw hr hlocks hf dX12_count_90
  have hf := if_f hf c_6_6
  by_cases c_6_7 : x1 = (7 : Int32)
  · have hf := if_t hf c_6_7
    refine lv_tableIn (tgt := 91) hx hb dX12_count_6 (by rw [c_6_7]; decide) (by rw [c_6_7]; decide) (off := 85) (by rw [c_6_7]; rfl) (by decide) ?_
    refine lv_aload_n hx hb dX12_count_91 rfl (lv_at hl 0 rfl) ?_
    refine r_getI C hw (k := 66) dq_63 ln_63 rfl vc_12 inX12 (by decide) rfl gw7_7 dX12_count_92 ?_
    exact r_iret C hw hr hlocks hf dX12_count_95
  have hf := if_f hf c_6_7
  by_cases c_6_8 : x1 = (8 : Int32)
  · have hf := if_t hf c_6_8
    refine lv_tableIn (tgt := 96) hx hb dX12_count_6 (by rw [c_6_8]; decide) (by rw [c_6_8]; decide) (off := 90) (by rw [c_6_8]; rfl) (by decide) ?_
    refine lv_aload_n hx hb dX12_count_96 rfl (lv_at hl 0 rfl) ?_
    refine r_getI C hw (k := 10) dq_63 ln_63 rfl vc_12 inX12 (by decide) rfl gw6_191 dX12_count_97 ?_
    exact r_iret C hw hr hlocks hf dX12_count_100
  have hf := if_f hf c_6_8
  refine lv_tableOut (tgt := 101) hx hb dX12_count_6 (sw_out 9 (fun k hk => by rcases (show k = 0 ∨ k = 1 ∨ k = 2 ∨ k = 3 ∨ k = 4 ∨ k = 5 ∨ k = 6 ∨ k = 7 ∨ k = 8 by omega) with rfl | rfl | rfl | rfl | rfl | rfl | rfl | rfl | rfl <;> assumption)) (by decide) ?_
  refine lv_iconst (v := (-1 : Int32)) hx hb dX12_count_101 (by decide) ?_
  exact r_iret C hw hr hlocks hf dX12_count_102
