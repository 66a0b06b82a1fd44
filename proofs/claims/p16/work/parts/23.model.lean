noncomputable def fX12_drops_78 (fu : Nat) (k_12 : Int32 → St → Option (St × Int32)) (n : Nat) : Int32 → Int32 → St → Option (St × Int32) :=
  Nat.rec (motive := fun _ => Int32 → Int32 → St → Option (St × Int32)) (fun _ _ _ => none) (fun _ k_78 x2 x3 S =>
    if (10 : Int32) ≤ x3 then
      k_12 (x2 + (1 : Int32)) S
    else
      gd (ck (((10 : Int32) * (x2 + (1 : Int32))) + x3) 1000) <|
      gd (ck (((10 : Int32) * x2) + x3) 1000) <|
      sI 94 ((((10 : Int32) * x2) + x3)).toNatClampNeg (S.1 94 ((((10 : Int32) * (x2 + (1 : Int32))) + x3)).toNatClampNeg) S fun S_107 =>
      k_78 x2 (x3 + (1 : Int32)) S_107) n
theorem fX12_drops_78_s (fu : Nat) (k_12 : Int32 → St → Option (St × Int32)) (n : Nat) (x2 : Int32) (x3 : Int32) (S : St) : fX12_drops_78 fu k_12 (n + 1) x2 x3 S = (
    if (10 : Int32) ≤ x3 then
      k_12 (x2 + (1 : Int32)) S
    else
      gd (ck (((10 : Int32) * (x2 + (1 : Int32))) + x3) 1000) <|
      gd (ck (((10 : Int32) * x2) + x3) 1000) <|
      sI 94 ((((10 : Int32) * x2) + x3)).toNatClampNeg (S.1 94 ((((10 : Int32) * (x2 + (1 : Int32))) + x3)).toNatClampNeg) S fun S_107 =>
      (fX12_drops_78 fu k_12 n) x2 (x3 + (1 : Int32)) S_107) := rfl
noncomputable def fX12_drops_12 (fu : Nat) (n : Nat) : Int32 → St → Option (St × Int32) :=
  Nat.rec (motive := fun _ => Int32 → St → Option (St × Int32)) (fun _ _ => none) (fun _ k_12 x2 S =>
    if (S.1 63 50) ≤ x2 then
      some (S, (0 : Int32))
    else
      gd (ck (x2 + (1 : Int32)) 100) <|
      gd (ck x2 100) <|
      sI 91 (x2).toNatClampNeg (S.1 91 ((x2 + (1 : Int32))).toNatClampNeg) S fun S_33 =>
      gd (ck (x2 + (1 : Int32)) 100) <|
      gd (ck x2 100) <|
      sI 92 (x2).toNatClampNeg (S_33.1 92 ((x2 + (1 : Int32))).toNatClampNeg) S_33 fun S_47 =>
      gd (ck (x2 + (1 : Int32)) 100) <|
      gd (ck x2 100) <|
      sI 93 (x2).toNatClampNeg (S_47.1 93 ((x2 + (1 : Int32))).toNatClampNeg) S_47 fun S_61 =>
      gd (ck (x2 + (1 : Int32)) 100) <|
      gd (ck x2 100) <|
      sJ 95 (x2).toNatClampNeg (S_61.2 95 ((x2 + (1 : Int32))).toNatClampNeg) S_61 fun S_75 =>
      fX12_drops_78 fu k_12 fu x2 (0 : Int32) S_75) n
theorem fX12_drops_12_s (fu : Nat) (n : Nat) (x2 : Int32) (S : St) : fX12_drops_12 fu (n + 1) x2 S = (
    if (S.1 63 50) ≤ x2 then
      some (S, (0 : Int32))
    else
      gd (ck (x2 + (1 : Int32)) 100) <|
      gd (ck x2 100) <|
      sI 91 (x2).toNatClampNeg (S.1 91 ((x2 + (1 : Int32))).toNatClampNeg) S fun S_33 =>
      gd (ck (x2 + (1 : Int32)) 100) <|
      gd (ck x2 100) <|
      sI 92 (x2).toNatClampNeg (S_33.1 92 ((x2 + (1 : Int32))).toNatClampNeg) S_33 fun S_47 =>
      gd (ck (x2 + (1 : Int32)) 100) <|
      gd (ck x2 100) <|
      sI 93 (x2).toNatClampNeg (S_47.1 93 ((x2 + (1 : Int32))).toNatClampNeg) S_47 fun S_61 =>
      gd (ck (x2 + (1 : Int32)) 100) <|
      gd (ck x2 100) <|
      sJ 95 (x2).toNatClampNeg (S_61.2 95 ((x2 + (1 : Int32))).toNatClampNeg) S_61 fun S_75 =>
      fX12_drops_78 fu (fX12_drops_12 fu n) fu x2 (0 : Int32) S_75) := rfl
noncomputable def fX12_drops (fu : Nat) (x1 : Int32) (S : St) : Option (St × Int32) :=
  sI 63 50 ((S.1 63 50) - (1 : Int32)) S fun S_7 =>
  fX12_drops_12 fu fu x1 S_7
theorem mvX12_drops : MV yX12_drops cX12_drops 4 none RX12 1 := ⟨gw8_234, gw8_233, gs_94, gw1_13, by decide +kernel⟩
def rmX12_drops : Room := { frames := 0, cells := 0, slots := 0, locals := 0 }
set_option maxHeartbeats 4000000 in
set_option maxRecDepth 100000 in
theorem m_X12_drops (l : Launch) (D : va_G) (cA : FieldType → ClassId) (ad : Nat → Nat) (base : Nat) (fu : Nat) {S S' : St} {x1 : Int32} {r : Int32} (hf : fX12_drops fu x1 S = some (S', r)) : Met l yX12_drops (GC yX12_drops cX12_drops 4 none) rmX12_drops (va_Pc [.ref (ad 63), .int x1] (wd D cA ad base S)) (QV D cA ad base S') 0 0 (aB base) := by
  refine Met.ofW (cc := cX12_drops) (maxL := 4) (ret := none) (by decide) rfl ?_
  intro p e s m args below meth c s₁ B hml hv
  obtain ⟨hargs, hwd⟩ := hv
  have hr := B.returns
  have hlocks := B.notSynchronized
  obtain ⟨C, hw⟩ := CX.of (own := RX12) rfl B hml hwd
  have hx := C.1
  have hb := C.2.1
  have hl := lv_entry ([.ref (ad 63), .int x1]) (n := 4) (Nat.le_of_ble_eq_true rfl)
  rw [show entryFrame m args 4 = entryFrame m ([.ref (ad 63), .int x1] : List Value).toArray 4 from by rw [hargs], lg_entry_eq]
  generalize (lg_sl ([.ref (ad 63), .int x1]) ++ List.replicate (4 - (lg_sl ([.ref (ad 63), .int x1])).length) Slot.unset).toArray = ls at hl ⊢
  have hl : lv_has ls 4 [(0, .ref (ad 63)), (1, .int x1)] := hl
  have L_12 : ∀ (n_12 : Nat) (x2 : Int32) (S : St) (H : Heap) (locs : List Loc) (ls : Array Slot), fX12_drops_12 fu n_12 x2 S = some (S', r) → lv_has ls 4 [(0, .ref (ad 63)), (2, .int x2)] → WS D cA ad base s S H locs → W p l e rmX12_drops s m args below meth c H locs 0 0 (MQ below (QV D cA ad base S') args s 0 0 (aB base)) (F0 m 12 ls []) := by
    intro n_12
    induction n_12 with
    | zero =>
      intro x2 S H locs ls hf hl hw
      exact (no_none hf).elim
    | succ n_12 ih_12 =>
      have L_78 : ∀ (n_78 : Nat) (x2 : Int32) (x3 : Int32) (S : St) (H : Heap) (locs : List Loc) (ls : Array Slot), fX12_drops_78 fu (fX12_drops_12 fu n_12) n_78 x2 x3 S = some (S', r) → lv_has ls 4 [(0, .ref (ad 63)), (2, .int x2), (3, .int x3)] → WS D cA ad base s S H locs → W p l e rmX12_drops s m args below meth c H locs 0 0 (MQ below (QV D cA ad base S') args s 0 0 (aB base)) (F0 m 78 ls []) := by
        intro n_78
        induction n_78 with
        | zero =>
          intro x2 x3 S H locs ls hf hl hw
          exact (no_none hf).elim
        | succ n_78 ih_78 =>
          intro x2 x3 S H locs ls hf hl hw
          rw [fX12_drops_78_s] at hf
          refine lv_iload_n hx hb dX12_drops_78 rfl (lv_at hl 2 rfl) ?_
          refine lv_bipush (v := (10 : Int32)) hx hb dX12_drops_79 (by decide) ?_
          refine lv_icmp_ge (tgt := 114) hx hb dX12_drops_81 (by decide) (fun c_81 => ?_) (fun c_81 => ?_)
          · have hf := if_t hf c_81
            refine lv_iinc (v := (x2 + (1 : Int32))) (lv' := [(2, .int (x2 + (1 : Int32))), (0, .ref (ad 63)), (3, .int x3)]) hx hb dX12_drops_114 hl (k := 1) rfl rfl (by decide) rfl (fun ls hl => ?_)
            refine lv_goto (tgt := 12) hx hb dX12_drops_117 (by decide) ?_
            exact ih_12 _ _ _ _ _ hf (lv_sub hl [1, 0] rfl) hw
          · have hf := if_f hf c_81
            refine lv_aload_n hx hb dX12_drops_84 rfl (lv_at hl 0 rfl) ?_
            refine r_getR C hw (k := 48) (r := 94) dq_63 ln_63 rfl vc_12 inX12 (by decide) rfl gw6_229 dX12_drops_85 ?_
            refine lv_bipush (v := (10 : Int32)) hx hb dX12_drops_88 (by decide) ?_
            refine lv_iload_n hx hb dX12_drops_90 rfl (lv_at hl 1 rfl) ?_
            refine lv_imul hx hb dX12_drops_91 ?_
            refine lv_iload_n hx hb dX12_drops_92 rfl (lv_at hl 2 rfl) ?_
            refine lv_iadd hx hb dX12_drops_93 ?_
            refine lv_aload_n hx hb dX12_drops_94 rfl (lv_at hl 0 rfl) ?_
            refine r_getR C hw (k := 48) (r := 94) dq_63 ln_63 rfl vc_12 inX12 (by decide) rfl gw6_229 dX12_drops_95 ?_
            refine lv_bipush (v := (10 : Int32)) hx hb dX12_drops_98 (by decide) ?_
            refine lv_iload_n hx hb dX12_drops_100 rfl (lv_at hl 1 rfl) ?_
            refine lv_iconst (v := (1 : Int32)) hx hb dX12_drops_101 (by decide) ?_
            refine lv_iadd hx hb dX12_drops_102 ?_
            refine lv_imul hx hb dX12_drops_103 ?_
            refine lv_iload_n hx hb dX12_drops_104 rfl (lv_at hl 2 rfl) ?_
            refine lv_iadd hx hb dX12_drops_105 ?_
            obtain ⟨z_106, hf⟩ := gd_some hf
            refine r_iald C hw (x := 94) dq_94 ln_94 z_106 dX12_drops_106 ?_
            obtain ⟨z_107, hf⟩ := gd_some hf
            obtain ⟨S_107, e_107, hf⟩ := sI_some hf
            refine r_iast C hw (x := 94) dq_94 ln_94 z_107 dX12_drops_107 e_107 (fun H locs hw => ?_)
            refine lv_iinc (v := (x3 + (1 : Int32))) (lv' := [(3, .int (x3 + (1 : Int32))), (0, .ref (ad 63)), (2, .int x2)]) hx hb dX12_drops_108 hl (k := 2) rfl rfl (by decide) rfl (fun ls hl => ?_)
            refine lv_goto (tgt := 78) hx hb dX12_drops_111 (by decide) ?_
            exact ih_78 _ _ _ _ _ _ hf (lv_sub hl [1, 2, 0] rfl) hw
      intro x2 S H locs ls hf hl hw
      rw [fX12_drops_12_s] at hf
      refine lv_iload_n hx hb dX12_drops_12 rfl (lv_at hl 1 rfl) ?_
      refine lv_aload_n hx hb dX12_drops_13 rfl (lv_at hl 0 rfl) ?_
      refine r_getI C hw (k := 50) dq_63 ln_63 rfl vc_12 inX12 (by decide) rfl gw6_231 dX12_drops_14 ?_
      refine lv_icmp_ge (tgt := 120) hx hb dX12_drops_17 (by decide) (fun c_17 => ?_) (fun c_17 => ?_)
      · have hf := if_t hf c_17
        exact r_vret C hw hr hlocks hf dX12_drops_120
      · have hf := if_f hf c_17
        refine lv_aload_n hx hb dX12_drops_20 rfl (lv_at hl 0 rfl) ?_
        refine r_getR C hw (k := 45) (r := 91) dq_63 ln_63 rfl vc_12 inX12 (by decide) rfl gw6_226 dX12_drops_21 ?_
        refine lv_iload_n hx hb dX12_drops_24 rfl (lv_at hl 1 rfl) ?_
        refine lv_aload_n hx hb dX12_drops_25 rfl (lv_at hl 0 rfl) ?_
        refine r_getR C hw (k := 45) (r := 91) dq_63 ln_63 rfl vc_12 inX12 (by decide) rfl gw6_226 dX12_drops_26 ?_
        refine lv_iload_n hx hb dX12_drops_29 rfl (lv_at hl 1 rfl) ?_
        refine lv_iconst (v := (1 : Int32)) hx hb dX12_drops_30 (by decide) ?_
        refine lv_iadd hx hb dX12_drops_31 ?_
        obtain ⟨z_32, hf⟩ := gd_some hf
        refine r_iald C hw (x := 91) dq_91 ln_91 z_32 dX12_drops_32 ?_
        obtain ⟨z_33, hf⟩ := gd_some hf
        obtain ⟨S_33, e_33, hf⟩ := sI_some hf
        refine r_iast C hw (x := 91) dq_91 ln_91 z_33 dX12_drops_33 e_33 (fun H locs hw => ?_)
        refine lv_aload_n hx hb dX12_drops_34 rfl (lv_at hl 0 rfl) ?_
        refine r_getR C hw (k := 46) (r := 92) dq_63 ln_63 rfl vc_12 inX12 (by decide) rfl gw6_227 dX12_drops_35 ?_
        refine lv_iload_n hx hb dX12_drops_38 rfl (lv_at hl 1 rfl) ?_
        refine lv_aload_n hx hb dX12_drops_39 rfl (lv_at hl 0 rfl) ?_
        refine r_getR C hw (k := 46) (r := 92) dq_63 ln_63 rfl vc_12 inX12 (by decide) rfl gw6_227 dX12_drops_40 ?_
        refine lv_iload_n hx hb dX12_drops_43 rfl (lv_at hl 1 rfl) ?_
        refine lv_iconst (v := (1 : Int32)) hx hb dX12_drops_44 (by decide) ?_
        refine lv_iadd hx hb dX12_drops_45 ?_
        obtain ⟨z_46, hf⟩ := gd_some hf
        refine r_iald C hw (x := 92) dq_92 ln_92 z_46 dX12_drops_46 ?_
        obtain ⟨z_47, hf⟩ := gd_some hf
        obtain ⟨S_47, e_47, hf⟩ := sI_some hf
        refine r_iast C hw (x := 92) dq_92 ln_92 z_47 dX12_drops_47 e_47 (fun H locs hw => ?_)
        refine lv_aload_n hx hb dX12_drops_48 rfl (lv_at hl 0 rfl) ?_
        refine r_getR C hw (k := 47) (r := 93) dq_63 ln_63 rfl vc_12 inX12 (by decide) rfl gw6_228 dX12_drops_49 ?_
        refine lv_iload_n hx hb dX12_drops_52 rfl (lv_at hl 1 rfl) ?_
        refine lv_aload_n hx hb dX12_drops_53 rfl (lv_at hl 0 rfl) ?_
        refine r_getR C hw (k := 47) (r := 93) dq_63 ln_63 rfl vc_12 inX12 (by decide) rfl gw6_228 dX12_drops_54 ?_
        refine lv_iload_n hx hb dX12_drops_57 rfl (lv_at hl 1 rfl) ?_
        refine lv_iconst (v := (1 : Int32)) hx hb dX12_drops_58 (by decide) ?_
        refine lv_iadd hx hb dX12_drops_59 ?_
        obtain ⟨z_60, hf⟩ := gd_some hf
        refine r_iald C hw (x := 93) dq_93 ln_93 z_60 dX12_drops_60 ?_
        obtain ⟨z_61, hf⟩ := gd_some hf
        obtain ⟨S_61, e_61, hf⟩ := sI_some hf
        refine r_iast C hw (x := 93) dq_93 ln_93 z_61 dX12_drops_61 e_61 (fun H locs hw => ?_)
        refine lv_aload_n hx hb dX12_drops_62 rfl (lv_at hl 0 rfl) ?_
        refine r_getR C hw (k := 49) (r := 95) dq_63 ln_63 rfl vc_12 inX12 (by decide) rfl gw6_230 dX12_drops_63 ?_
        refine lv_iload_n hx hb dX12_drops_66 rfl (lv_at hl 1 rfl) ?_
        refine lv_aload_n hx hb dX12_drops_67 rfl (lv_at hl 0 rfl) ?_
        refine r_getR C hw (k := 49) (r := 95) dq_63 ln_63 rfl vc_12 inX12 (by decide) rfl gw6_230 dX12_drops_68 ?_
        refine lv_iload_n hx hb dX12_drops_71 rfl (lv_at hl 1 rfl) ?_
        refine lv_iconst (v := (1 : Int32)) hx hb dX12_drops_72 (by decide) ?_
        refine lv_iadd hx hb dX12_drops_73 ?_
        obtain ⟨z_74, hf⟩ := gd_some hf
        refine r_lald C hw (x := 95) dq_95 ln_95 z_74 dX12_drops_74 ?_
        obtain ⟨z_75, hf⟩ := gd_some hf
        obtain ⟨S_75, e_75, hf⟩ := sJ_some hf
        refine r_last C hw (x := 95) dq_95 ln_95 z_75 dX12_drops_75 e_75 (fun H locs hw => ?_)
        refine lv_iconst (v := (0 : Int32)) hx hb dX12_drops_76 (by decide) ?_
        refine lv_istore_n (lv' := [(3, .int (0 : Int32)), (0, .ref (ad 63)), (2, .int x2)]) hx hb dX12_drops_77 rfl hl (by decide) rfl (fun ls hl => ?_)
        exact L_78 fu _ _ _ _ _ _ hf (lv_sub hl [1, 2, 0] rfl) hw
  show W p l e rmX12_drops s m args below meth c s.heap [] 0 0 _ _
  refine lv_aload_n hx hb dX12_drops_0 rfl (lv_at hl 0 rfl) ?_
  refine lv_dup hx hb dX12_drops_1 rfl ?_
  refine r_getI C hw (k := 50) dq_63 ln_63 rfl vc_12 inX12 (by decide) rfl gw6_231 dX12_drops_2 ?_
  refine lv_iconst (v := (1 : Int32)) hx hb dX12_drops_5 (by decide) ?_
  refine lv_isub hx hb dX12_drops_6 ?_
  obtain ⟨S_7, e_7, hf⟩ := sI_some hf
  refine r_putI C hw (k := 50) (ty0 := tyX12) dq_63 ln_63 rfl vc_12 inX12 tyX12_ok nmX12 (by decide) rfl rfl gw6_231 rfl rfl dX12_drops_7 e_7 (fun H locs hw => ?_)
  refine lv_iload_n hx hb dX12_drops_10 rfl (lv_at hl 1 rfl) ?_
  refine lv_istore_n (lv' := [(2, .int x1), (0, .ref (ad 63)), (1, .int x1)]) hx hb dX12_drops_11 rfl hl (by decide) rfl (fun ls hl => ?_)
  exact L_12 fu _ _ _ _ _ hf (lv_sub hl [1, 0] rfl) hw
noncomputable def fX12_puts_152 (fu : Nat) (n : Nat) : Int32 → St → Option (St × Int32) :=
  Nat.rec (motive := fun _ => Int32 → St → Option (St × Int32)) (fun _ _ => none) (fun _ k_152 x5 S =>
    if (S.1 63 53) ≤ x5 then
      sI 63 50 ((S.1 63 50) + (1 : Int32)) S fun S_196 =>
      some (S_196, (0 : Int32))
    else
      gd (ck x5 10) <|
      gd (ck (((10 : Int32) * (S.1 63 50)) + x5) 1000) <|
      sI 94 ((((10 : Int32) * (S.1 63 50)) + x5)).toNatClampNeg (S.1 96 (x5).toNatClampNeg) S fun S_182 =>
      k_152 (x5 + (1 : Int32)) S_182) n
theorem fX12_puts_152_s (fu : Nat) (n : Nat) (x5 : Int32) (S : St) : fX12_puts_152 fu (n + 1) x5 S = (
    if (S.1 63 53) ≤ x5 then
      sI 63 50 ((S.1 63 50) + (1 : Int32)) S fun S_196 =>
      some (S_196, (0 : Int32))
    else
      gd (ck x5 10) <|
      gd (ck (((10 : Int32) * (S.1 63 50)) + x5) 1000) <|
      sI 94 ((((10 : Int32) * (S.1 63 50)) + x5)).toNatClampNeg (S.1 96 (x5).toNatClampNeg) S fun S_182 =>
      (fX12_puts_152 fu n) (x5 + (1 : Int32)) S_182) := rfl
noncomputable def fX12_puts_97 (fu : Nat) (x1 : Int32) (x2 : Int32) (S : St) : Option (St × Int32) :=
  gd (ck (S.1 63 50) 100) <|
  sI 91 ((S.1 63 50)).toNatClampNeg x1 S fun S_106 =>
  gd (ck (S_106.1 63 50) 100) <|
  sI 92 ((S_106.1 63 50)).toNatClampNeg x2 S_106 fun S_116 =>
  gd (ck (S_116.1 63 50) 100) <|
  sI 93 ((S_116.1 63 50)).toNatClampNeg (S_116.1 63 53) S_116 fun S_129 =>
  gd (ck (S_129.1 63 50) 100) <|
  sJ 95 ((S_129.1 63 50)).toNatClampNeg (((S_129.1 63 51)).toInt64 + (S_129.2 63 54)) S_129 fun S_148 =>
  fX12_puts_152 fu fu (0 : Int32) S_148
noncomputable def fX12_puts_64 (fu : Nat) (k_8 : Int32 → Int32 → Int32 → Int32 → Int32 → St → Option (St × Int32)) (x1 : Int32) (x2 : Int32) (x3 : Int32) (x4 : Int32) (x5 : Int32) (S : St) : Option (St × Int32) :=
  k_8 x1 x2 x3 x4 (x5 + (1 : Int32)) S
noncomputable def fX12_puts_42 (fu : Nat) (k_8 : Int32 → Int32 → Int32 → Int32 → Int32 → St → Option (St × Int32)) (x1 : Int32) (x2 : Int32) (x3 : Int32) (x4 : Int32) (x5 : Int32) (S : St) : Option (St × Int32) :=
  gd (ck x5 100) <|
  gd (ck x4 100) <|
  if 0 ≤ (lg_cmp (S.2 95 (x5).toNatClampNeg) (S.2 95 (x4).toNatClampNeg)) then
    fX12_puts_64 fu k_8 x1 x2 x3 x4 x5 S
  else
    fX12_puts_64 fu k_8 x1 x2 x3 x5 x5 S
noncomputable def fX12_puts_8 (fu : Nat) (n : Nat) : Int32 → Int32 → Int32 → Int32 → Int32 → St → Option (St × Int32) :=
  Nat.rec (motive := fun _ => Int32 → Int32 → Int32 → Int32 → Int32 → St → Option (St × Int32)) (fun _ _ _ _ _ _ => none) (fun _ k_8 x1 x2 x3 x4 x5 S =>
    if (S.1 63 50) ≤ x5 then
      if x3 < 0 then
        if (S.1 63 50) = (100 : Int32) then
          bd (fX12_drops fu x4 S) fun S_94 _ =>
          fX12_puts_97 fu x1 x2 S_94
        else
          fX12_puts_97 fu x1 x2 S
      else
        bd (fX12_drops fu x3 S) fun S_76 _ =>
        fX12_puts_97 fu x1 x2 S_76
    else
      gd (ck x5 100) <|
      if (S.1 91 (x5).toNatClampNeg) = x1 then
        gd (ck x5 100) <|
        if (S.1 92 (x5).toNatClampNeg) = x2 then
          fX12_puts_42 fu k_8 x1 x2 x5 x4 x5 S
        else
          fX12_puts_42 fu k_8 x1 x2 x3 x4 x5 S
      else
        fX12_puts_42 fu k_8 x1 x2 x3 x4 x5 S) n
theorem fX12_puts_8_s (fu : Nat) (n : Nat) (x1 : Int32) (x2 : Int32) (x3 : Int32) (x4 : Int32) (x5 : Int32) (S : St) : fX12_puts_8 fu (n + 1) x1 x2 x3 x4 x5 S = (
    if (S.1 63 50) ≤ x5 then
      if x3 < 0 then
        if (S.1 63 50) = (100 : Int32) then
          bd (fX12_drops fu x4 S) fun S_94 _ =>
          fX12_puts_97 fu x1 x2 S_94
        else
          fX12_puts_97 fu x1 x2 S
      else
        bd (fX12_drops fu x3 S) fun S_76 _ =>
        fX12_puts_97 fu x1 x2 S_76
    else
      gd (ck x5 100) <|
      if (S.1 91 (x5).toNatClampNeg) = x1 then
        gd (ck x5 100) <|
        if (S.1 92 (x5).toNatClampNeg) = x2 then
          fX12_puts_42 fu (fX12_puts_8 fu n) x1 x2 x5 x4 x5 S
        else
          fX12_puts_42 fu (fX12_puts_8 fu n) x1 x2 x3 x4 x5 S
      else
        fX12_puts_42 fu (fX12_puts_8 fu n) x1 x2 x3 x4 x5 S) := rfl
noncomputable def fX12_puts (fu : Nat) (x1 : Int32) (x2 : Int32) (S : St) : Option (St × Int32) :=
  fX12_puts_8 fu fu x1 x2 (-1 : Int32) (0 : Int32) (0 : Int32) S
theorem mvX12_puts : MV yX12_puts cX12_puts 6 none RX12 2 := ⟨gw8_230, gw8_229, gs_93, gw1_13, by decide +kernel⟩
def rmX12_puts : Room := { frames := 1, cells := 0, slots := 0, locals := 23 }
set_option maxHeartbeats 4000000 in
set_option maxRecDepth 100000 in
theorem m_X12_puts (l : Launch) (D : va_G) (cA : FieldType → ClassId) (ad : Nat → Nat) (base : Nat) (fu : Nat) {S S' : St} {x1 : Int32} {x2 : Int32} {r : Int32} (hf : fX12_puts fu x1 x2 S = some (S', r)) : Met l yX12_puts (GC yX12_puts cX12_puts 6 none) rmX12_puts (va_Pc [.ref (ad 63), .int x1, .int x2] (wd D cA ad base S)) (QV D cA ad base S') 0 0 (aB base) := by
  refine Met.ofW (cc := cX12_puts) (maxL := 6) (ret := none) (by decide) rfl ?_
  intro p e s m args below meth c s₁ B hml hv
  obtain ⟨hargs, hwd⟩ := hv
  have hr := B.returns
  have hlocks := B.notSynchronized
  obtain ⟨C, hw⟩ := CX.of (own := RX12) rfl B hml hwd
  have hx := C.1
  have hb := C.2.1
  have hl := lv_entry ([.ref (ad 63), .int x1, .int x2]) (n := 6) (Nat.le_of_ble_eq_true rfl)
  rw [show entryFrame m args 6 = entryFrame m ([.ref (ad 63), .int x1, .int x2] : List Value).toArray 6 from by rw [hargs], lg_entry_eq]
  generalize (lg_sl ([.ref (ad 63), .int x1, .int x2]) ++ List.replicate (6 - (lg_sl ([.ref (ad 63), .int x1, .int x2])).length) Slot.unset).toArray = ls at hl ⊢
  have hl : lv_has ls 6 [(0, .ref (ad 63)), (1, .int x1), (2, .int x2)] := hl
  have L_152 : ∀ (n_152 : Nat) (x5 : Int32) (S : St) (H : Heap) (locs : List Loc) (ls : Array Slot), fX12_puts_152 fu n_152 x5 S = some (S', r) → lv_has ls 6 [(0, .ref (ad 63)), (5, .int x5)] → WS D cA ad base s S H locs → W p l e rmX12_puts s m args below meth c H locs 0 0 (MQ below (QV D cA ad base S') args s 0 0 (aB base)) (F0 m 152 ls []) := by
    intro n_152
    induction n_152 with
    | zero =>
      intro x5 S H locs ls hf hl hw
      exact (no_none hf).elim
    | succ n_152 ih_152 =>
      intro x5 S H locs ls hf hl hw
      rw [fX12_puts_152_s] at hf
      refine lv_iload hx hb dX12_puts_152 (lv_at hl 1 rfl) ?_
      refine lv_aload_n hx hb dX12_puts_154 rfl (lv_at hl 0 rfl) ?_
      refine r_getI C hw (k := 53) dq_63 ln_63 rfl vc_12 inX12 (by decide) rfl gw6_234 dX12_puts_155 ?_
      refine lv_icmp_ge (tgt := 189) hx hb dX12_puts_158 (by decide) (fun c_158 => ?_) (fun c_158 => ?_)
      · have hf := if_t hf c_158
        refine lv_aload_n hx hb dX12_puts_189 rfl (lv_at hl 0 rfl) ?_
        refine lv_dup hx hb dX12_puts_190 rfl ?_
        refine r_getI C hw (k := 50) dq_63 ln_63 rfl vc_12 inX12 (by decide) rfl gw6_231 dX12_puts_191 ?_
        refine lv_iconst (v := (1 : Int32)) hx hb dX12_puts_194 (by decide) ?_
        refine lv_iadd hx hb dX12_puts_195 ?_
        obtain ⟨S_196, e_196, hf⟩ := sI_some hf
        refine r_putI C hw (k := 50) (ty0 := tyX12) dq_63 ln_63 rfl vc_12 inX12 tyX12_ok nmX12 (by decide) rfl rfl gw6_231 rfl rfl dX12_puts_196 e_196 (fun H locs hw => ?_)
        exact r_vret C hw hr hlocks hf dX12_puts_199
      · have hf := if_f hf c_158
        refine lv_aload_n hx hb dX12_puts_161 rfl (lv_at hl 0 rfl) ?_
        refine r_getR C hw (k := 48) (r := 94) dq_63 ln_63 rfl vc_12 inX12 (by decide) rfl gw6_229 dX12_puts_162 ?_
        refine lv_bipush (v := (10 : Int32)) hx hb dX12_puts_165 (by decide) ?_
        refine lv_aload_n hx hb dX12_puts_167 rfl (lv_at hl 0 rfl) ?_
        refine r_getI C hw (k := 50) dq_63 ln_63 rfl vc_12 inX12 (by decide) rfl gw6_231 dX12_puts_168 ?_
        refine lv_imul hx hb dX12_puts_171 ?_
        refine lv_iload hx hb dX12_puts_172 (lv_at hl 1 rfl) ?_
        refine lv_iadd hx hb dX12_puts_174 ?_
        refine lv_aload_n hx hb dX12_puts_175 rfl (lv_at hl 0 rfl) ?_
        refine r_getR C hw (k := 52) (r := 96) dq_63 ln_63 rfl vc_12 inX12 (by decide) rfl gw6_233 dX12_puts_176 ?_
        refine lv_iload hx hb dX12_puts_179 (lv_at hl 1 rfl) ?_
        obtain ⟨z_181, hf⟩ := gd_some hf
        refine r_iald C hw (x := 96) dq_96 ln_96 z_181 dX12_puts_181 ?_
        obtain ⟨z_182, hf⟩ := gd_some hf
        obtain ⟨S_182, e_182, hf⟩ := sI_some hf
        refine r_iast C hw (x := 94) dq_94 ln_94 z_182 dX12_puts_182 e_182 (fun H locs hw => ?_)
        refine lv_iinc (v := (x5 + (1 : Int32))) (lv' := [(5, .int (x5 + (1 : Int32))), (0, .ref (ad 63))]) hx hb dX12_puts_183 hl (k := 1) rfl rfl (by decide) rfl (fun ls hl => ?_)
        refine lv_goto (tgt := 152) hx hb dX12_puts_186 (by decide) ?_
        exact ih_152 _ _ _ _ _ hf (lv_sub hl [1, 0] rfl) hw
  have J_97 : ∀ (x1 : Int32) (x2 : Int32) (S : St) (H : Heap) (locs : List Loc) (ls : Array Slot), fX12_puts_97 fu x1 x2 S = some (S', r) → lv_has ls 6 [(0, .ref (ad 63)), (1, .int x1), (2, .int x2)] → WS D cA ad base s S H locs → W p l e rmX12_puts s m args below meth c H locs 0 0 (MQ below (QV D cA ad base S') args s 0 0 (aB base)) (F0 m 97 ls []) := by
    intro x1 x2 S H locs ls hf hl hw
    refine lv_aload_n hx hb dX12_puts_97 rfl (lv_at hl 0 rfl) ?_
    refine r_getR C hw (k := 45) (r := 91) dq_63 ln_63 rfl vc_12 inX12 (by decide) rfl gw6_226 dX12_puts_98 ?_
    refine lv_aload_n hx hb dX12_puts_101 rfl (lv_at hl 0 rfl) ?_
    refine r_getI C hw (k := 50) dq_63 ln_63 rfl vc_12 inX12 (by decide) rfl gw6_231 dX12_puts_102 ?_
    refine lv_iload_n hx hb dX12_puts_105 rfl (lv_at hl 1 rfl) ?_
    obtain ⟨z_106, hf⟩ := gd_some hf
    obtain ⟨S_106, e_106, hf⟩ := sI_some hf
    refine r_iast C hw (x := 91) dq_91 ln_91 z_106 dX12_puts_106 e_106 (fun H locs hw => ?_)
    refine lv_aload_n hx hb dX12_puts_107 rfl (lv_at hl 0 rfl) ?_
    refine r_getR C hw (k := 46) (r := 92) dq_63 ln_63 rfl vc_12 inX12 (by decide) rfl gw6_227 dX12_puts_108 ?_
    refine lv_aload_n hx hb dX12_puts_111 rfl (lv_at hl 0 rfl) ?_
    refine r_getI C hw (k := 50) dq_63 ln_63 rfl vc_12 inX12 (by decide) rfl gw6_231 dX12_puts_112 ?_
    refine lv_iload_n hx hb dX12_puts_115 rfl (lv_at hl 2 rfl) ?_
    obtain ⟨z_116, hf⟩ := gd_some hf
    obtain ⟨S_116, e_116, hf⟩ := sI_some hf
    refine r_iast C hw (x := 92) dq_92 ln_92 z_116 dX12_puts_116 e_116 (fun H locs hw => ?_)
    refine lv_aload_n hx hb dX12_puts_117 rfl (lv_at hl 0 rfl) ?_
    refine r_getR C hw (k := 47) (r := 93) dq_63 ln_63 rfl vc_12 inX12 (by decide) rfl gw6_228 dX12_puts_118 ?_
    refine lv_aload_n hx hb dX12_puts_121 rfl (lv_at hl 0 rfl) ?_
    refine r_getI C hw (k := 50) dq_63 ln_63 rfl vc_12 inX12 (by decide) rfl gw6_231 dX12_puts_122 ?_
    refine lv_aload_n hx hb dX12_puts_125 rfl (lv_at hl 0 rfl) ?_
    refine r_getI C hw (k := 53) dq_63 ln_63 rfl vc_12 inX12 (by decide) rfl gw6_234 dX12_puts_126 ?_
    obtain ⟨z_129, hf⟩ := gd_some hf
    obtain ⟨S_129, e_129, hf⟩ := sI_some hf
    refine r_iast C hw (x := 93) dq_93 ln_93 z_129 dX12_puts_129 e_129 (fun H locs hw => ?_)
    refine lv_aload_n hx hb dX12_puts_130 rfl (lv_at hl 0 rfl) ?_
    refine r_getR C hw (k := 49) (r := 95) dq_63 ln_63 rfl vc_12 inX12 (by decide) rfl gw6_230 dX12_puts_131 ?_
    refine lv_aload_n hx hb dX12_puts_134 rfl (lv_at hl 0 rfl) ?_
    refine r_getI C hw (k := 50) dq_63 ln_63 rfl vc_12 inX12 (by decide) rfl gw6_231 dX12_puts_135 ?_
    refine lv_aload_n hx hb dX12_puts_138 rfl (lv_at hl 0 rfl) ?_
    refine r_getI C hw (k := 51) dq_63 ln_63 rfl vc_12 inX12 (by decide) rfl gw6_232 dX12_puts_139 ?_
    refine lv_i2l hx hb dX12_puts_142 rfl ?_
    refine lv_aload_n hx hb dX12_puts_143 rfl (lv_at hl 0 rfl) ?_
    refine r_getJ C hw (k := 54) dq_63 ln_63 rfl vc_12 inX12 (by decide) rfl gw6_235 dX12_puts_144 ?_
    refine lv_ladd hx hb dX12_puts_147 ?_
    obtain ⟨z_148, hf⟩ := gd_some hf
    obtain ⟨S_148, e_148, hf⟩ := sJ_some hf
    refine r_last C hw (x := 95) dq_95 ln_95 z_148 dX12_puts_148 e_148 (fun H locs hw => ?_)
    refine lv_iconst (v := (0 : Int32)) hx hb dX12_puts_149 (by decide) ?_
    refine lv_istore (lv' := [(5, .int (0 : Int32)), (0, .ref (ad 63)), (1, .int x1), (2, .int x2)]) hx hb dX12_puts_150 hl (by decide) rfl (fun ls hl => ?_)
    exact L_152 fu _ _ _ _ _ hf (lv_sub hl [1, 0] rfl) hw
  have L_8 : ∀ (n_8 : Nat) (x1 : Int32) (x2 : Int32) (x3 : Int32) (x4 : Int32) (x5 : Int32) (S : St) (H : Heap) (locs : List Loc) (ls : Array Slot), fX12_puts_8 fu n_8 x1 x2 x3 x4 x5 S = some (S', r) → lv_has ls 6 [(0, .ref (ad 63)), (1, .int x1), (2, .int x2), (3, .int x3), (4, .int x4), (5, .int x5)] → WS D cA ad base s S H locs → W p l e rmX12_puts s m args below meth c H locs 0 0 (MQ below (QV D cA ad base S') args s 0 0 (aB base)) (F0 m 8 ls []) := by
    intro n_8
    induction n_8 with
    | zero =>
      intro x1 x2 x3 x4 x5 S H locs ls hf hl hw
      exact (no_none hf).elim
    | succ n_8 ih_8 =>
      have J_64 : ∀ (x1 : Int32) (x2 : Int32) (x3 : Int32) (x4 : Int32) (x5 : Int32) (S : St) (H : Heap) (locs : List Loc) (ls : Array Slot), fX12_puts_64 fu (fX12_puts_8 fu n_8) x1 x2 x3 x4 x5 S = some (S', r) → lv_has ls 6 [(0, .ref (ad 63)), (1, .int x1), (2, .int x2), (3, .int x3), (4, .int x4), (5, .int x5)] → WS D cA ad base s S H locs → W p l e rmX12_puts s m args below meth c H locs 0 0 (MQ below (QV D cA ad base S') args s 0 0 (aB base)) (F0 m 64 ls []) := by
        intro x1 x2 x3 x4 x5 S H locs ls hf hl hw
        refine lv_iinc (v := (x5 + (1 : Int32))) (lv' := [(5, .int (x5 + (1 : Int32))), (0, .ref (ad 63)), (1, .int x1), (2, .int x2), (3, .int x3), (4, .int x4)]) hx hb dX12_puts_64 hl (k := 5) rfl rfl (by decide) rfl (fun ls hl => ?_)
        refine lv_goto (tgt := 8) hx hb dX12_puts_67 (by decide) ?_
        exact ih_8 _ _ _ _ _ _ _ _ _ hf (lv_sub hl [1, 2, 3, 4, 5, 0] rfl) hw
      have J_42 : ∀ (x1 : Int32) (x2 : Int32) (x3 : Int32) (x4 : Int32) (x5 : Int32) (S : St) (H : Heap) (locs : List Loc) (ls : Array Slot), fX12_puts_42 fu (fX12_puts_8 fu n_8) x1 x2 x3 x4 x5 S = some (S', r) → lv_has ls 6 [(0, .ref (ad 63)), (1, .int x1), (2, .int x2), (3, .int x3), (4, .int x4), (5, .int x5)] → WS D cA ad base s S H locs → W p l e rmX12_puts s m args below meth c H locs 0 0 (MQ below (QV D cA ad base S') args s 0 0 (aB base)) (F0 m 42 ls []) := by
        intro x1 x2 x3 x4 x5 S H locs ls hf hl hw
        refine lv_aload_n hx hb dX12_puts_42 rfl (lv_at hl 0 rfl) ?_
        refine r_getR C hw (k := 49) (r := 95) dq_63 ln_63 rfl vc_12 inX12 (by decide) rfl gw6_230 dX12_puts_43 ?_
        refine lv_iload hx hb dX12_puts_46 (lv_at hl 5 rfl) ?_
        obtain ⟨z_48, hf⟩ := gd_some hf
        refine r_lald C hw (x := 95) dq_95 ln_95 z_48 dX12_puts_48 ?_
        refine lv_aload_n hx hb dX12_puts_49 rfl (lv_at hl 0 rfl) ?_
        refine r_getR C hw (k := 49) (r := 95) dq_63 ln_63 rfl vc_12 inX12 (by decide) rfl gw6_230 dX12_puts_50 ?_
        refine lv_iload hx hb dX12_puts_53 (lv_at hl 4 rfl) ?_
        obtain ⟨z_55, hf⟩ := gd_some hf
        refine r_lald C hw (x := 95) dq_95 ln_95 z_55 dX12_puts_55 ?_
        refine W.lcmp hx hb dX12_puts_56 ?_
        refine lv_if_ge (tgt := 64) hx hb dX12_puts_57 (by decide) (fun c_57 => ?_) (fun c_57 => ?_)
        · have hf := if_t hf c_57
          exact J_64 _ _ _ _ _ _ _ _ _ hf (lv_sub hl [0, 1, 2, 3, 4, 5] rfl) hw
        · have hf := if_f hf c_57
          refine lv_iload hx hb dX12_puts_60 (lv_at hl 5 rfl) ?_
          refine lv_istore (lv' := [(4, .int x5), (0, .ref (ad 63)), (1, .int x1), (2, .int x2), (3, .int x3), (5, .int x5)]) hx hb dX12_puts_62 hl (by decide) rfl (fun ls hl => ?_)
          exact J_64 _ _ _ _ _ _ _ _ _ hf (lv_sub hl [1, 2, 3, 4, 0, 5] rfl) hw
      intro x1 x2 x3 x4 x5 S H locs ls hf hl hw
      rw [fX12_puts_8_s] at hf
      refine lv_iload hx hb dX12_puts_8 (lv_at hl 5 rfl) ?_
      refine lv_aload_n hx hb dX12_puts_10 rfl (lv_at hl 0 rfl) ?_
      refine r_getI C hw (k := 50) dq_63 ln_63 rfl vc_12 inX12 (by decide) rfl gw6_231 dX12_puts_11 ?_
      refine lv_icmp_ge (tgt := 70) hx hb dX12_puts_14 (by decide) (fun c_14 => ?_) (fun c_14 => ?_)
      · have hf := if_t hf c_14
        refine lv_iload_n hx hb dX12_puts_70 rfl (lv_at hl 3 rfl) ?_
        refine lv_if_lt (tgt := 82) hx hb dX12_puts_71 (by decide) (fun c_71 => ?_) (fun c_71 => ?_)
        · have hf := if_t hf c_71
          refine lv_aload_n hx hb dX12_puts_82 rfl (lv_at hl 0 rfl) ?_
          refine r_getI C hw (k := 50) dq_63 ln_63 rfl vc_12 inX12 (by decide) rfl gw6_231 dX12_puts_83 ?_
          refine lv_bipush (v := (100 : Int32)) hx hb dX12_puts_86 (by decide) ?_
          refine lv_icmp_ne (tgt := 97) hx hb dX12_puts_88 (by decide) (fun c_88 => ?_) (fun c_88 => ?_)
          · have hf := if_f hf c_88
            exact J_97 _ _ _ _ _ _ hf (lv_sub hl [0, 1, 2] rfl) hw
          · have hf := if_t hf c_88
            refine lv_aload_n hx hb dX12_puts_91 rfl (lv_at hl 0 rfl) ?_
            refine lv_iload hx hb dX12_puts_92 (lv_at hl 4 rfl) ?_
            obtain ⟨S_94, r_94, h_94, hf⟩ := bd_some hf
            refine r_bv hw (r_runV (rest := []) C hw (m_X12_drops l D cA ad base fu h_94) mvX12_drops gw8_231 ⟨rfl, rfl, Nat.le_of_ble_eq_true rfl, Nat.le_of_ble_eq_true rfl⟩ dq_63 ln_63 vc_12 rfl hl.1 rfl (Nat.le_of_ble_eq_true rfl) dX12_puts_94 (Nat.zero_le _) (Nat.zero_le _)) (fun H locs hw => ?_)
            exact J_97 _ _ _ _ _ _ hf (lv_sub hl [0, 1, 2] rfl) hw
        · have hf := if_f hf c_71
          refine lv_aload_n hx hb dX12_puts_74 rfl (lv_at hl 0 rfl) ?_
          refine lv_iload_n hx hb dX12_puts_75 rfl (lv_at hl 3 rfl) ?_
          obtain ⟨S_76, r_76, h_76, hf⟩ := bd_some hf
          refine r_bv hw (r_runV (rest := []) C hw (m_X12_drops l D cA ad base fu h_76) mvX12_drops gw8_231 ⟨rfl, rfl, Nat.le_of_ble_eq_true rfl, Nat.le_of_ble_eq_true rfl⟩ dq_63 ln_63 vc_12 rfl hl.1 rfl (Nat.le_of_ble_eq_true rfl) dX12_puts_76 (Nat.zero_le _) (Nat.zero_le _)) (fun H locs hw => ?_)
          refine lv_goto (tgt := 97) hx hb dX12_puts_79 (by decide) ?_
          exact J_97 _ _ _ _ _ _ hf (lv_sub hl [0, 1, 2] rfl) hw
      · have hf := if_f hf c_14
        refine lv_aload_n hx hb dX12_puts_17 rfl (lv_at hl 0 rfl) ?_
        refine r_getR C hw (k := 45) (r := 91) dq_63 ln_63 rfl vc_12 inX12 (by decide) rfl gw6_226 dX12_puts_18 ?_
        refine lv_iload hx hb dX12_puts_21 (lv_at hl 5 rfl) ?_
        obtain ⟨z_23, hf⟩ := gd_some hf
        refine r_iald C hw (x := 91) dq_91 ln_91 z_23 dX12_puts_23 ?_
        refine lv_iload_n hx hb dX12_puts_24 rfl (lv_at hl 1 rfl) ?_
        refine lv_icmp_ne (tgt := 42) hx hb dX12_puts_25 (by decide) (fun c_25 => ?_) (fun c_25 => ?_)
        · have hf := if_f hf c_25
          exact J_42 _ _ _ _ _ _ _ _ _ hf (lv_sub hl [0, 1, 2, 3, 4, 5] rfl) hw
        · have hf := if_t hf c_25
          refine lv_aload_n hx hb dX12_puts_28 rfl (lv_at hl 0 rfl) ?_
          refine r_getR C hw (k := 46) (r := 92) dq_63 ln_63 rfl vc_12 inX12 (by decide) rfl gw6_227 dX12_puts_29 ?_
          refine lv_iload hx hb dX12_puts_32 (lv_at hl 5 rfl) ?_
          obtain ⟨z_34, hf⟩ := gd_some hf
          refine r_iald C hw (x := 92) dq_92 ln_92 z_34 dX12_puts_34 ?_
          refine lv_iload_n hx hb dX12_puts_35 rfl (lv_at hl 2 rfl) ?_
          refine lv_icmp_ne (tgt := 42) hx hb dX12_puts_36 (by decide) (fun c_36 => ?_) (fun c_36 => ?_)
          · have hf := if_f hf c_36
            exact J_42 _ _ _ _ _ _ _ _ _ hf (lv_sub hl [0, 1, 2, 3, 4, 5] rfl) hw
          · have hf := if_t hf c_36
            refine lv_iload hx hb dX12_puts_39 (lv_at hl 5 rfl) ?_
            refine lv_istore_n (lv' := [(3, .int x5), (0, .ref (ad 63)), (1, .int x1), (2, .int x2), (4, .int x4), (5, .int x5)]) hx hb dX12_puts_41 rfl hl (by decide) rfl (fun ls hl => ?_)
            exact J_42 _ _ _ _ _ _ _ _ _ hf (lv_sub hl [1, 2, 3, 0, 4, 5] rfl) hw
  show W p l e rmX12_puts s m args below meth c s.heap [] 0 0 _ _
  refine lv_iconst (v := (-1 : Int32)) hx hb dX12_puts_0 (by decide) ?_
  refine lv_istore_n (lv' := [(3, .int (-1 : Int32)), (0, .ref (ad 63)), (1, .int x1), (2, .int x2)]) hx hb dX12_puts_1 rfl hl (by decide) rfl (fun ls hl => ?_)
  refine lv_iconst (v := (0 : Int32)) hx hb dX12_puts_2 (by decide) ?_
  refine lv_istore (lv' := [(4, .int (0 : Int32)), (3, .int (-1 : Int32)), (0, .ref (ad 63)), (1, .int x1), (2, .int x2)]) hx hb dX12_puts_3 hl (by decide) rfl (fun ls hl => ?_)
  refine lv_iconst (v := (0 : Int32)) hx hb dX12_puts_5 (by decide) ?_
  refine lv_istore (lv' := [(5, .int (0 : Int32)), (4, .int (0 : Int32)), (3, .int (-1 : Int32)), (0, .ref (ad 63)), (1, .int x1), (2, .int x2)]) hx hb dX12_puts_6 hl (by decide) rfl (fun ls hl => ?_)
  exact L_8 fu _ _ _ _ _ _ _ _ _ hf (lv_sub hl [3, 4, 5, 2, 1, 0] rfl) hw
noncomputable def fX12_find_55 (fu : Nat) (k_5 : Int32 → Int32 → Int32 → Int32 → St → Option (St × Int32)) (x1 : Int32) (x2 : Int32) (x3 : Int32) (x4 : Int32) (S : St) : Option (St × Int32) :=
  k_5 x1 x2 x3 (x4 + (1 : Int32)) S
noncomputable def fX12_find_5 (fu : Nat) (n : Nat) : Int32 → Int32 → Int32 → Int32 → St → Option (St × Int32) :=
  Nat.rec (motive := fun _ => Int32 → Int32 → Int32 → Int32 → St → Option (St × Int32)) (fun _ _ _ _ _ => none) (fun _ k_5 x1 x2 x3 x4 S =>
    if (S.1 63 50) ≤ x4 then
      some (S, x3)
    else
      gd (ck x4 100) <|
      if (S.1 91 (x4).toNatClampNeg) = x1 then
        gd (ck x4 100) <|
        if (S.1 92 (x4).toNatClampNeg) = x2 then
          gd (ck x4 100) <|
          if 0 ≤ (lg_cmp ((S.1 63 51)).toInt64 (S.2 95 (x4).toNatClampNeg)) then
            fX12_find_55 fu k_5 x1 x2 x3 x4 S
          else
            fX12_find_55 fu k_5 x1 x2 x4 x4 S
        else
          fX12_find_55 fu k_5 x1 x2 x3 x4 S
      else
        fX12_find_55 fu k_5 x1 x2 x3 x4 S) n
theorem fX12_find_5_s (fu : Nat) (n : Nat) (x1 : Int32) (x2 : Int32) (x3 : Int32) (x4 : Int32) (S : St) : fX12_find_5 fu (n + 1) x1 x2 x3 x4 S = (
    if (S.1 63 50) ≤ x4 then
      some (S, x3)
    else
      gd (ck x4 100) <|
      if (S.1 91 (x4).toNatClampNeg) = x1 then
        gd (ck x4 100) <|
        if (S.1 92 (x4).toNatClampNeg) = x2 then
          gd (ck x4 100) <|
          if 0 ≤ (lg_cmp ((S.1 63 51)).toInt64 (S.2 95 (x4).toNatClampNeg)) then
            fX12_find_55 fu (fX12_find_5 fu n) x1 x2 x3 x4 S
          else
            fX12_find_55 fu (fX12_find_5 fu n) x1 x2 x4 x4 S
        else
          fX12_find_55 fu (fX12_find_5 fu n) x1 x2 x3 x4 S
      else
        fX12_find_55 fu (fX12_find_5 fu n) x1 x2 x3 x4 S) := rfl
noncomputable def fX12_find (fu : Nat) (x1 : Int32) (x2 : Int32) (S : St) : Option (St × Int32) :=
  fX12_find_5 fu fu x1 x2 (-1 : Int32) (0 : Int32) S
theorem mvX12_find : MV yX12_find cX12_find 5 (some .int) RX12 2 := ⟨gw8_155, gw8_154, gs_78, gw1_13, by decide +kernel⟩
def rmX12_find : Room := { frames := 0, cells := 0, slots := 0, locals := 0 }
set_option maxHeartbeats 4000000 in
set_option maxRecDepth 100000 in
theorem m_X12_find (l : Launch) (D : va_G) (cA : FieldType → ClassId) (ad : Nat → Nat) (base : Nat) (fu : Nat) {S S' : St} {x1 : Int32} {x2 : Int32} {r : Int32} (hf : fX12_find fu x1 x2 S = some (S', r)) : Met l yX12_find (GC yX12_find cX12_find 5 (some .int)) rmX12_find (va_Pc [.ref (ad 63), .int x1, .int x2] (wd D cA ad base S)) (QI D cA ad base S' r) 0 0 (aB base) := by
  refine Met.ofW (cc := cX12_find) (maxL := 5) (ret := (some .int)) (by decide) rfl ?_
  intro p e s m args below meth c s₁ B hml hv
  obtain ⟨hargs, hwd⟩ := hv
  have hr := B.returns
  have hlocks := B.notSynchronized
  obtain ⟨C, hw⟩ := CX.of (own := RX12) rfl B hml hwd
  have hx := C.1
  have hb := C.2.1
  have hl := lv_entry ([.ref (ad 63), .int x1, .int x2]) (n := 5) (Nat.le_of_ble_eq_true rfl)
  rw [show entryFrame m args 5 = entryFrame m ([.ref (ad 63), .int x1, .int x2] : List Value).toArray 5 from by rw [hargs], lg_entry_eq]
  generalize (lg_sl ([.ref (ad 63), .int x1, .int x2]) ++ List.replicate (5 - (lg_sl ([.ref (ad 63), .int x1, .int x2])).length) Slot.unset).toArray = ls at hl ⊢
  have hl : lv_has ls 5 [(0, .ref (ad 63)), (1, .int x1), (2, .int x2)] := hl
  have L_5 : ∀ (n_5 : Nat) (x1 : Int32) (x2 : Int32) (x3 : Int32) (x4 : Int32) (S : St) (H : Heap) (locs : List Loc) (ls : Array Slot), fX12_find_5 fu n_5 x1 x2 x3 x4 S = some (S', r) → lv_has ls 5 [(0, .ref (ad 63)), (1, .int x1), (2, .int x2), (3, .int x3), (4, .int x4)] → WS D cA ad base s S H locs → W p l e rmX12_find s m args below meth c H locs 0 0 (MQ below (QI D cA ad base S' r) args s 0 0 (aB base)) (F0 m 5 ls []) := by
    intro n_5
    induction n_5 with
    | zero =>
      intro x1 x2 x3 x4 S H locs ls hf hl hw
      exact (no_none hf).elim
    | succ n_5 ih_5 =>
      have J_55 : ∀ (x1 : Int32) (x2 : Int32) (x3 : Int32) (x4 : Int32) (S : St) (H : Heap) (locs : List Loc) (ls : Array Slot), fX12_find_55 fu (fX12_find_5 fu n_5) x1 x2 x3 x4 S = some (S', r) → lv_has ls 5 [(0, .ref (ad 63)), (1, .int x1), (2, .int x2), (3, .int x3), (4, .int x4)] → WS D cA ad base s S H locs → W p l e rmX12_find s m args below meth c H locs 0 0 (MQ below (QI D cA ad base S' r) args s 0 0 (aB base)) (F0 m 55 ls []) := by
        intro x1 x2 x3 x4 S H locs ls hf hl hw
        refine lv_iinc (v := (x4 + (1 : Int32))) (lv' := [(4, .int (x4 + (1 : Int32))), (0, .ref (ad 63)), (1, .int x1), (2, .int x2), (3, .int x3)]) hx hb dX12_find_55 hl (k := 4) rfl rfl (by decide) rfl (fun ls hl => ?_)
        refine lv_goto (tgt := 5) hx hb dX12_find_58 (by decide) ?_
        exact ih_5 _ _ _ _ _ _ _ _ hf (lv_sub hl [1, 2, 3, 4, 0] rfl) hw
      intro x1 x2 x3 x4 S H locs ls hf hl hw
      rw [fX12_find_5_s] at hf
      refine lv_iload hx hb dX12_find_5 (lv_at hl 4 rfl) ?_
      refine lv_aload_n hx hb dX12_find_7 rfl (lv_at hl 0 rfl) ?_
      refine r_getI C hw (k := 50) dq_63 ln_63 rfl vc_12 inX12 (by decide) rfl gw6_231 dX12_find_8 ?_
      refine lv_icmp_ge (tgt := 61) hx hb dX12_find_11 (by decide) (fun c_11 => ?_) (fun c_11 => ?_)
      · have hf := if_t hf c_11
        refine lv_iload_n hx hb dX12_find_61 rfl (lv_at hl 3 rfl) ?_
        exact r_iret C hw hr hlocks hf dX12_find_62
      · have hf := if_f hf c_11
        refine lv_aload_n hx hb dX12_find_14 rfl (lv_at hl 0 rfl) ?_
        refine r_getR C hw (k := 45) (r := 91) dq_63 ln_63 rfl vc_12 inX12 (by decide) rfl gw6_226 dX12_find_15 ?_
        refine lv_iload hx hb dX12_find_18 (lv_at hl 4 rfl) ?_
        obtain ⟨z_20, hf⟩ := gd_some hf
        refine r_iald C hw (x := 91) dq_91 ln_91 z_20 dX12_find_20 ?_
        refine lv_iload_n hx hb dX12_find_21 rfl (lv_at hl 1 rfl) ?_
        refine lv_icmp_ne (tgt := 55) hx hb dX12_find_22 (by decide) (fun c_22 => ?_) (fun c_22 => ?_)
        · have hf := if_f hf c_22
          exact J_55 _ _ _ _ _ _ _ _ hf (lv_sub hl [0, 1, 2, 3, 4] rfl) hw
        · have hf := if_t hf c_22
          refine lv_aload_n hx hb dX12_find_25 rfl (lv_at hl 0 rfl) ?_
          refine r_getR C hw (k := 46) (r := 92) dq_63 ln_63 rfl vc_12 inX12 (by decide) rfl gw6_227 dX12_find_26 ?_
          refine lv_iload hx hb dX12_find_29 (lv_at hl 4 rfl) ?_
          obtain ⟨z_31, hf⟩ := gd_some hf
          refine r_iald C hw (x := 92) dq_92 ln_92 z_31 dX12_find_31 ?_
          refine lv_iload_n hx hb dX12_find_32 rfl (lv_at hl 2 rfl) ?_
          refine lv_icmp_ne (tgt := 55) hx hb dX12_find_33 (by decide) (fun c_33 => ?_) (fun c_33 => ?_)
          · have hf := if_f hf c_33
            exact J_55 _ _ _ _ _ _ _ _ hf (lv_sub hl [0, 1, 2, 3, 4] rfl) hw
          · have hf := if_t hf c_33
            refine lv_aload_n hx hb dX12_find_36 rfl (lv_at hl 0 rfl) ?_
            refine r_getI C hw (k := 51) dq_63 ln_63 rfl vc_12 inX12 (by decide) rfl gw6_232 dX12_find_37 ?_
            refine lv_i2l hx hb dX12_find_40 rfl ?_
            refine lv_aload_n hx hb dX12_find_41 rfl (lv_at hl 0 rfl) ?_
            refine r_getR C hw (k := 49) (r := 95) dq_63 ln_63 rfl vc_12 inX12 (by decide) rfl gw6_230 dX12_find_42 ?_
            refine lv_iload hx hb dX12_find_45 (lv_at hl 4 rfl) ?_
            obtain ⟨z_47, hf⟩ := gd_some hf
            refine r_lald C hw (x := 95) dq_95 ln_95 z_47 dX12_find_47 ?_
            refine W.lcmp hx hb dX12_find_48 ?_
            refine lv_if_ge (tgt := 55) hx hb dX12_find_49 (by decide) (fun c_49 => ?_) (fun c_49 => ?_)
            · have hf := if_t hf c_49
              exact J_55 _ _ _ _ _ _ _ _ hf (lv_sub hl [0, 1, 2, 3, 4] rfl) hw
            · have hf := if_f hf c_49
              refine lv_iload hx hb dX12_find_52 (lv_at hl 4 rfl) ?_
              refine lv_istore_n (lv' := [(3, .int x4), (0, .ref (ad 63)), (1, .int x1), (2, .int x2), (4, .int x4)]) hx hb dX12_find_54 rfl hl (by decide) rfl (fun ls hl => ?_)
              exact J_55 _ _ _ _ _ _ _ _ hf (lv_sub hl [1, 2, 3, 0, 4] rfl) hw
  show W p l e rmX12_find s m args below meth c s.heap [] 0 0 _ _
  refine lv_iconst (v := (-1 : Int32)) hx hb dX12_find_0 (by decide) ?_
  refine lv_istore_n (lv' := [(3, .int (-1 : Int32)), (0, .ref (ad 63)), (1, .int x1), (2, .int x2)]) hx hb dX12_find_1 rfl hl (by decide) rfl (fun ls hl => ?_)
  refine lv_iconst (v := (0 : Int32)) hx hb dX12_find_2 (by decide) ?_
  refine lv_istore (lv' := [(4, .int (0 : Int32)), (3, .int (-1 : Int32)), (0, .ref (ad 63)), (1, .int x1), (2, .int x2)]) hx hb dX12_find_3 hl (by decide) rfl (fun ls hl => ?_)
  exact L_5 fu _ _ _ _ _ _ _ _ hf (lv_sub hl [2, 3, 4, 1, 0] rfl) hw
noncomputable def fX12_set (fu : Nat) (x1 : Int32) (x2 : Int32) (S : St) : Option (St × Int32) :=
  bd (fX12_find fu x1 x2 S) fun S_3 r_3 =>
  if r_3 < 0 then
    some (S_3, (-1 : Int32))
  else
    gd (ck r_3 100) <|
    if (S_3.1 93 (r_3).toNatClampNeg) ≤ 0 then
      some (S_3, (-1 : Int32))
    else
      some (S_3, r_3)
theorem mvX12_set : MV yX12_set cX12_set 4 (some .int) RX12 2 := ⟨gw8_183, gw8_182, gs_83, gw1_13, by decide +kernel⟩
def rmX12_set : Room := { frames := 1, cells := 0, slots := 0, locals := 24 }
set_option maxHeartbeats 4000000 in
set_option maxRecDepth 100000 in
theorem m_X12_set (l : Launch) (D : va_G) (cA : FieldType → ClassId) (ad : Nat → Nat) (base : Nat) (fu : Nat) {S S' : St} {x1 : Int32} {x2 : Int32} {r : Int32} (hf : fX12_set fu x1 x2 S = some (S', r)) : Met l yX12_set (GC yX12_set cX12_set 4 (some .int)) rmX12_set (va_Pc [.ref (ad 63), .int x1, .int x2] (wd D cA ad base S)) (QI D cA ad base S' r) 0 0 (aB base) := by
  refine Met.ofW (cc := cX12_set) (maxL := 4) (ret := (some .int)) (by decide) rfl ?_
  intro p e s m args below meth c s₁ B hml hv
  obtain ⟨hargs, hwd⟩ := hv
  have hr := B.returns
  have hlocks := B.notSynchronized
  obtain ⟨C, hw⟩ := CX.of (own := RX12) rfl B hml hwd
  have hx := C.1
  have hb := C.2.1
  have hl := lv_entry ([.ref (ad 63), .int x1, .int x2]) (n := 4) (Nat.le_of_ble_eq_true rfl)
  rw [show entryFrame m args 4 = entryFrame m ([.ref (ad 63), .int x1, .int x2] : List Value).toArray 4 from by rw [hargs], lg_entry_eq]
  generalize (lg_sl ([.ref (ad 63), .int x1, .int x2]) ++ List.replicate (4 - (lg_sl ([.ref (ad 63), .int x1, .int x2])).length) Slot.unset).toArray = ls at hl ⊢
  have hl : lv_has ls 4 [(0, .ref (ad 63)), (1, .int x1), (2, .int x2)] := hl
  show W p l e rmX12_set s m args below meth c s.heap [] 0 0 _ _
  refine lv_aload_n hx hb dX12_set_0 rfl (lv_at hl 0 rfl) ?_
  refine lv_iload_n hx hb dX12_set_1 rfl (lv_at hl 1 rfl) ?_
  refine lv_iload_n hx hb dX12_set_2 rfl (lv_at hl 2 rfl) ?_
  obtain ⟨S_3, r_3, h_3, hf⟩ := bd_some hf
  refine r_bi hw (r_runV (rest := []) C hw (m_X12_find l D cA ad base fu h_3) mvX12_find gw8_152 ⟨rfl, rfl, Nat.le_of_ble_eq_true rfl, Nat.le_of_ble_eq_true rfl⟩ dq_63 ln_63 vc_12 rfl hl.1 rfl (Nat.le_of_ble_eq_true rfl) dX12_set_3 (Nat.zero_le _) (Nat.zero_le _)) (fun H locs hw => ?_)
  refine lv_istore_n (lv' := [(3, .int r_3), (0, .ref (ad 63)), (1, .int x1), (2, .int x2)]) hx hb dX12_set_6 rfl hl (by decide) rfl (fun ls hl => ?_)
  refine lv_iload_n hx hb dX12_set_7 rfl (lv_at hl 0 rfl) ?_
  refine lv_if_lt (tgt := 24) hx hb dX12_set_8 (by decide) (fun c_8 => ?_) (fun c_8 => ?_)
  · have hf := if_t hf c_8
    refine lv_iconst (v := (-1 : Int32)) hx hb dX12_set_24 (by decide) ?_
    exact r_iret C hw hr hlocks hf dX12_set_25
  · have hf := if_f hf c_8
    refine lv_aload_n hx hb dX12_set_11 rfl (lv_at hl 1 rfl) ?_
    refine r_getR C hw (k := 47) (r := 93) dq_63 ln_63 rfl vc_12 inX12 (by decide) rfl gw6_228 dX12_set_12 ?_
    refine lv_iload_n hx hb dX12_set_15 rfl (lv_at hl 0 rfl) ?_
    obtain ⟨z_16, hf⟩ := gd_some hf
    refine r_iald C hw (x := 93) dq_93 ln_93 z_16 dX12_set_16 ?_
    refine lv_if_le (tgt := 24) hx hb dX12_set_17 (by decide) (fun c_17 => ?_) (fun c_17 => ?_)
    · have hf := if_t hf c_17
      refine lv_iconst (v := (-1 : Int32)) hx hb dX12_set_24 (by decide) ?_
      exact r_iret C hw hr hlocks hf dX12_set_25
    · have hf := if_f hf c_17
      refine lv_iload_n hx hb dX12_set_20 rfl (lv_at hl 0 rfl) ?_
      refine lv_goto (tgt := 25) hx hb dX12_set_21 (by decide) ?_
      exact r_iret C hw hr hlocks hf dX12_set_25
noncomputable def fX12_hasNothing (fu : Nat) (x1 : Int32) (x2 : Int32) (S : St) : Option (St × Int32) :=
  bd (fX12_find fu x1 x2 S) fun S_3 r_3 =>
  if r_3 < 0 then
    some (S_3, (0 : Int32))
  else
    gd (ck r_3 100) <|
    if (S_3.1 93 (r_3).toNatClampNeg) = 0 then
      some (S_3, (1 : Int32))
    else
      some (S_3, (0 : Int32))
theorem mvX12_hasNothing : MV yX12_hasNothing cX12_hasNothing 4 (some .boolean) RX12 2 := ⟨gw8_191, gw8_190, gs_85, gw1_13, by decide +kernel⟩
def rmX12_hasNothing : Room := { frames := 1, cells := 0, slots := 0, locals := 24 }
set_option maxHeartbeats 4000000 in
set_option maxRecDepth 100000 in
theorem m_X12_hasNothing (l : Launch) (D : va_G) (cA : FieldType → ClassId) (ad : Nat → Nat) (base : Nat) (fu : Nat) {S S' : St} {x1 : Int32} {x2 : Int32} {r : Int32} (hf : fX12_hasNothing fu x1 x2 S = some (S', r)) : Met l yX12_hasNothing (GC yX12_hasNothing cX12_hasNothing 4 (some .boolean)) rmX12_hasNothing (va_Pc [.ref (ad 63), .int x1, .int x2] (wd D cA ad base S)) (QI D cA ad base S' r) 0 0 (aB base) := by
  refine Met.ofW (cc := cX12_hasNothing) (maxL := 4) (ret := (some .boolean)) (by decide) rfl ?_
  intro p e s m args below meth c s₁ B hml hv
  obtain ⟨hargs, hwd⟩ := hv
  have hr := B.returns
  have hlocks := B.notSynchronized
  obtain ⟨C, hw⟩ := CX.of (own := RX12) rfl B hml hwd
  have hx := C.1
  have hb := C.2.1
  have hl := lv_entry ([.ref (ad 63), .int x1, .int x2]) (n := 4) (Nat.le_of_ble_eq_true rfl)
  rw [show entryFrame m args 4 = entryFrame m ([.ref (ad 63), .int x1, .int x2] : List Value).toArray 4 from by rw [hargs], lg_entry_eq]
  generalize (lg_sl ([.ref (ad 63), .int x1, .int x2]) ++ List.replicate (4 - (lg_sl ([.ref (ad 63), .int x1, .int x2])).length) Slot.unset).toArray = ls at hl ⊢
  have hl : lv_has ls 4 [(0, .ref (ad 63)), (1, .int x1), (2, .int x2)] := hl
  show W p l e rmX12_hasNothing s m args below meth c s.heap [] 0 0 _ _
  refine lv_aload_n hx hb dX12_hasNothing_0 rfl (lv_at hl 0 rfl) ?_
  refine lv_iload_n hx hb dX12_hasNothing_1 rfl (lv_at hl 1 rfl) ?_
  refine lv_iload_n hx hb dX12_hasNothing_2 rfl (lv_at hl 2 rfl) ?_
  obtain ⟨S_3, r_3, h_3, hf⟩ := bd_some hf
  refine r_bi hw (r_runV (rest := []) C hw (m_X12_find l D cA ad base fu h_3) mvX12_find gw8_152 ⟨rfl, rfl, Nat.le_of_ble_eq_true rfl, Nat.le_of_ble_eq_true rfl⟩ dq_63 ln_63 vc_12 rfl hl.1 rfl (Nat.le_of_ble_eq_true rfl) dX12_hasNothing_3 (Nat.zero_le _) (Nat.zero_le _)) (fun H locs hw => ?_)
  refine lv_istore_n (lv' := [(3, .int r_3), (0, .ref (ad 63)), (1, .int x1), (2, .int x2)]) hx hb dX12_hasNothing_6 rfl hl (by decide) rfl (fun ls hl => ?_)
  refine lv_iload_n hx hb dX12_hasNothing_7 rfl (lv_at hl 0 rfl) ?_
  refine lv_if_lt (tgt := 24) hx hb dX12_hasNothing_8 (by decide) (fun c_8 => ?_) (fun c_8 => ?_)
  · have hf := if_t hf c_8
    refine lv_iconst (v := (0 : Int32)) hx hb dX12_hasNothing_24 (by decide) ?_
    exact r_zret C hw hr hlocks rfl hf dX12_hasNothing_25
  · have hf := if_f hf c_8
    refine lv_aload_n hx hb dX12_hasNothing_11 rfl (lv_at hl 1 rfl) ?_
    refine r_getR C hw (k := 47) (r := 93) dq_63 ln_63 rfl vc_12 inX12 (by decide) rfl gw6_228 dX12_hasNothing_12 ?_
    refine lv_iload_n hx hb dX12_hasNothing_15 rfl (lv_at hl 0 rfl) ?_
    obtain ⟨z_16, hf⟩ := gd_some hf
    refine r_iald C hw (x := 93) dq_93 ln_93 z_16 dX12_hasNothing_16 ?_
    refine lv_if_ne (tgt := 24) hx hb dX12_hasNothing_17 (by decide) (fun c_17 => ?_) (fun c_17 => ?_)
    · have hf := if_f hf c_17
      refine lv_iconst (v := (0 : Int32)) hx hb dX12_hasNothing_24 (by decide) ?_
      exact r_zret C hw hr hlocks rfl hf dX12_hasNothing_25
    · have hf := if_t hf c_17
      refine lv_iconst (v := (1 : Int32)) hx hb dX12_hasNothing_20 (by decide) ?_
      refine lv_goto (tgt := 25) hx hb dX12_hasNothing_21 (by decide) ?_
      exact r_zret C hw hr hlocks rfl hf dX12_hasNothing_25
noncomputable def fX12_cached (fu : Nat) (x1 : Int32) (x2 : Int32) (S : St) : Option (St × Int32) :=
  sI 63 0 (0 : Int32) S fun S_2 =>
  bd (fX12_noName fu x1 S_2) fun S_8 r_8 =>
  bd (fX12_throwsIf fu r_8 (1 : Int32) S_8) fun S_12 r_12 =>
  if r_12 = 0 then
    bd (fX12_find fu x1 x2 S_12) fun S_23 r_23 =>
    if 0 ≤ r_23 then
      gd (ck r_23 100) <|
      some (S_23, (S_23.1 93 (r_23).toNatClampNeg))
    else
      some (S_23, (-1 : Int32))
  else
    some (S_12, (0 : Int32))
theorem mvX12_cached : MV yX12_cached cX12_cached 4 (some .int) RX12 2 := ⟨gw8_151, gw8_149, gw8_150, gw1_13, by decide +kernel⟩
def rmX12_cached : Room := { frames := 1, cells := 0, slots := 0, locals := 24 }
set_option maxHeartbeats 4000000 in
set_option maxRecDepth 100000 in
theorem m_X12_cached (l : Launch) (D : va_G) (cA : FieldType → ClassId) (ad : Nat → Nat) (base : Nat) (fu : Nat) {S S' : St} {x1 : Int32} {x2 : Int32} {r : Int32} (hf : fX12_cached fu x1 x2 S = some (S', r)) : Met l yX12_cached (GC yX12_cached cX12_cached 4 (some .int)) rmX12_cached (va_Pc [.ref (ad 63), .int x1, .int x2] (wd D cA ad base S)) (QI D cA ad base S' r) 0 0 (aB base) := by
  refine Met.ofW (cc := cX12_cached) (maxL := 4) (ret := (some .int)) (by decide) rfl ?_
  intro p e s m args below meth c s₁ B hml hv
  obtain ⟨hargs, hwd⟩ := hv
  have hr := B.returns
  have hlocks := B.notSynchronized
  obtain ⟨C, hw⟩ := CX.of (own := RX12) rfl B hml hwd
  have hx := C.1
  have hb := C.2.1
  have hl := lv_entry ([.ref (ad 63), .int x1, .int x2]) (n := 4) (Nat.le_of_ble_eq_true rfl)
  rw [show entryFrame m args 4 = entryFrame m ([.ref (ad 63), .int x1, .int x2] : List Value).toArray 4 from by rw [hargs], lg_entry_eq]
  generalize (lg_sl ([.ref (ad 63), .int x1, .int x2]) ++ List.replicate (4 - (lg_sl ([.ref (ad 63), .int x1, .int x2])).length) Slot.unset).toArray = ls at hl ⊢
  have hl : lv_has ls 4 [(0, .ref (ad 63)), (1, .int x1), (2, .int x2)] := hl
  show W p l e rmX12_cached s m args below meth c s.heap [] 0 0 _ _
  refine lv_aload_n hx hb dX12_cached_0 rfl (lv_at hl 0 rfl) ?_
  refine lv_iconst (v := (0 : Int32)) hx hb dX12_cached_1 (by decide) ?_
  obtain ⟨S_2, e_2, hf⟩ := sI_some hf
  refine r_putI C hw (k := 0) (ty0 := tyX12) dq_63 ln_63 rfl vc_12 inX12 tyX12_ok nmX12 (by decide) rfl rfl gw6_181 rfl rfl dX12_cached_2 e_2 (fun H locs hw => ?_)
  refine lv_aload_n hx hb dX12_cached_5 rfl (lv_at hl 0 rfl) ?_
  refine lv_aload_n hx hb dX12_cached_6 rfl (lv_at hl 0 rfl) ?_
  refine lv_iload_n hx hb dX12_cached_7 rfl (lv_at hl 1 rfl) ?_
  obtain ⟨S_8, r_8, h_8, hf⟩ := bd_some hf
  refine r_bi hw (r_runV (rest := [.ref (ad 63)]) C hw (m_X12_noName l D cA ad base fu h_8) mvX12_noName gw7_213 ⟨rfl, rfl, Nat.le_of_ble_eq_true rfl, Nat.le_of_ble_eq_true rfl⟩ dq_63 ln_63 vc_12 rfl hl.1 rfl (Nat.le_of_ble_eq_true rfl) dX12_cached_8 (Nat.zero_le _) (Nat.zero_le _)) (fun H locs hw => ?_)
  refine lv_iconst (v := (1 : Int32)) hx hb dX12_cached_11 (by decide) ?_
  obtain ⟨S_12, r_12, h_12, hf⟩ := bd_some hf
  refine r_bi hw (r_runV (rest := []) C hw (m_X12_throwsIf l D cA ad base fu h_12) mvX12_throwsIf gw7_189 ⟨rfl, rfl, Nat.le_of_ble_eq_true rfl, Nat.le_of_ble_eq_true rfl⟩ dq_63 ln_63 vc_12 rfl hl.1 rfl (Nat.le_of_ble_eq_true rfl) dX12_cached_12 (Nat.zero_le _) (Nat.zero_le _)) (fun H locs hw => ?_)
  refine lv_if_eq (tgt := 20) hx hb dX12_cached_15 (by decide) (fun c_15 => ?_) (fun c_15 => ?_)
  · have hf := if_t hf c_15
    refine lv_aload_n hx hb dX12_cached_20 rfl (lv_at hl 0 rfl) ?_
    refine lv_iload_n hx hb dX12_cached_21 rfl (lv_at hl 1 rfl) ?_
    refine lv_iload_n hx hb dX12_cached_22 rfl (lv_at hl 2 rfl) ?_
    obtain ⟨S_23, r_23, h_23, hf⟩ := bd_some hf
    refine r_bi hw (r_runV (rest := []) C hw (m_X12_find l D cA ad base fu h_23) mvX12_find gw8_152 ⟨rfl, rfl, Nat.le_of_ble_eq_true rfl, Nat.le_of_ble_eq_true rfl⟩ dq_63 ln_63 vc_12 rfl hl.1 rfl (Nat.le_of_ble_eq_true rfl) dX12_cached_23 (Nat.zero_le _) (Nat.zero_le _)) (fun H locs hw => ?_)
    refine lv_istore_n (lv' := [(3, .int r_23), (0, .ref (ad 63)), (1, .int x1), (2, .int x2)]) hx hb dX12_cached_26 rfl hl (by decide) rfl (fun ls hl => ?_)
    refine lv_iload_n hx hb dX12_cached_27 rfl (lv_at hl 0 rfl) ?_
    refine lv_if_ge (tgt := 35) hx hb dX12_cached_28 (by decide) (fun c_28 => ?_) (fun c_28 => ?_)
    · have hf := if_t hf c_28
      refine lv_aload_n hx hb dX12_cached_35 rfl (lv_at hl 1 rfl) ?_
      refine r_getR C hw (k := 47) (r := 93) dq_63 ln_63 rfl vc_12 inX12 (by decide) rfl gw6_228 dX12_cached_36 ?_
      refine lv_iload_n hx hb dX12_cached_39 rfl (lv_at hl 0 rfl) ?_
      obtain ⟨z_40, hf⟩ := gd_some hf
      refine r_iald C hw (x := 93) dq_93 ln_93 z_40 dX12_cached_40 ?_
      exact r_iret C hw hr hlocks hf dX12_cached_41
    · have hf := if_f hf c_28
      refine lv_iconst (v := (-1 : Int32)) hx hb dX12_cached_31 (by decide) ?_
      refine lv_goto (tgt := 41) hx hb dX12_cached_32 (by decide) ?_
      exact r_iret C hw hr hlocks hf dX12_cached_41
  · have hf := if_f hf c_15
    refine lv_iconst (v := (0 : Int32)) hx hb dX12_cached_18 (by decide) ?_
    exact r_iret C hw hr hlocks hf dX12_cached_19
noncomputable def fX12_tick_21 (fu : Nat) (x1 : Int32) (t0 : Int32) (S : St) : Option (St × Int32) :=
  bd (fX12_throwsIf fu t0 (1 : Int32) S) fun S_22 r_22 =>
  if r_22 = 0 then
    sI 63 51 ((S_22.1 63 51) + x1) S_22 fun S_37 =>
    some (S_37, (S_37.1 63 51))
  else
    some (S_22, (0 : Int32))
noncomputable def fX12_tick_16 (fu : Nat) (x1 : Int32) (S : St) : Option (St × Int32) :=
  fX12_tick_21 fu x1 (1 : Int32) S
noncomputable def fX12_tick (fu : Nat) (x1 : Int32) (S : St) : Option (St × Int32) :=
  sI 63 0 (0 : Int32) S fun S_2 =>
  if x1 < 0 then
    fX12_tick_16 fu x1 S_2
  else
    if x1 ≤ (100000 : Int32) then
      fX12_tick_21 fu x1 (0 : Int32) S_2
    else
      fX12_tick_16 fu x1 S_2
theorem mvX12_tick : MV yX12_tick cX12_tick 2 (some .int) RX12 1 := ⟨gw8_159, gw8_157, gw8_158, gw1_13, by decide +kernel⟩
def rmX12_tick : Room := { frames := 1, cells := 0, slots := 0, locals := 22 }
set_option maxHeartbeats 4000000 in
set_option maxRecDepth 100000 in
theorem m_X12_tick (l : Launch) (D : va_G) (cA : FieldType → ClassId) (ad : Nat → Nat) (base : Nat) (fu : Nat) {S S' : St} {x1 : Int32} {r : Int32} (hf : fX12_tick fu x1 S = some (S', r)) : Met l yX12_tick (GC yX12_tick cX12_tick 2 (some .int)) rmX12_tick (va_Pc [.ref (ad 63), .int x1] (wd D cA ad base S)) (QI D cA ad base S' r) 0 0 (aB base) := by
  refine Met.ofW (cc := cX12_tick) (maxL := 2) (ret := (some .int)) (by decide) rfl ?_
  intro p e s m args below meth c s₁ B hml hv
  obtain ⟨hargs, hwd⟩ := hv
  have hr := B.returns
  have hlocks := B.notSynchronized
  obtain ⟨C, hw⟩ := CX.of (own := RX12) rfl B hml hwd
  have hx := C.1
  have hb := C.2.1
  have hl := lv_entry ([.ref (ad 63), .int x1]) (n := 2) (Nat.le_of_ble_eq_true rfl)
  rw [show entryFrame m args 2 = entryFrame m ([.ref (ad 63), .int x1] : List Value).toArray 2 from by rw [hargs], lg_entry_eq]
  generalize (lg_sl ([.ref (ad 63), .int x1]) ++ List.replicate (2 - (lg_sl ([.ref (ad 63), .int x1])).length) Slot.unset).toArray = ls at hl ⊢
  have hl : lv_has ls 2 [(0, .ref (ad 63)), (1, .int x1)] := hl
  have J_21 : ∀ (x1 : Int32) (t0 : Int32) (S : St) (H : Heap) (locs : List Loc) (ls : Array Slot), fX12_tick_21 fu x1 t0 S = some (S', r) → lv_has ls 2 [(0, .ref (ad 63)), (1, .int x1)] → WS D cA ad base s S H locs → W p l e rmX12_tick s m args below meth c H locs 0 0 (MQ below (QI D cA ad base S' r) args s 0 0 (aB base)) (F0 m 21 ls [.int t0, .ref (ad 63)]) := by
    intro x1 t0 S H locs ls hf hl hw
    refine lv_iconst (v := (1 : Int32)) hx hb dX12_tick_21 (by decide) ?_
    obtain ⟨S_22, r_22, h_22, hf⟩ := bd_some hf
    refine r_bi hw (r_runV (rest := []) C hw (m_X12_throwsIf l D cA ad base fu h_22) mvX12_throwsIf gw7_189 ⟨rfl, rfl, Nat.le_of_ble_eq_true rfl, Nat.le_of_ble_eq_true rfl⟩ dq_63 ln_63 vc_12 rfl hl.1 rfl (Nat.le_of_ble_eq_true rfl) dX12_tick_22 (Nat.zero_le _) (Nat.zero_le _)) (fun H locs hw => ?_)
    refine lv_if_eq (tgt := 30) hx hb dX12_tick_25 (by decide) (fun c_25 => ?_) (fun c_25 => ?_)
    · have hf := if_t hf c_25
      refine lv_aload_n hx hb dX12_tick_30 rfl (lv_at hl 0 rfl) ?_
      refine lv_dup hx hb dX12_tick_31 rfl ?_
      refine r_getI C hw (k := 51) dq_63 ln_63 rfl vc_12 inX12 (by decide) rfl gw6_232 dX12_tick_32 ?_
      refine lv_iload_n hx hb dX12_tick_35 rfl (lv_at hl 1 rfl) ?_
      refine lv_iadd hx hb dX12_tick_36 ?_
      obtain ⟨S_37, e_37, hf⟩ := sI_some hf
      refine r_putI C hw (k := 51) (ty0 := tyX12) dq_63 ln_63 rfl vc_12 inX12 tyX12_ok nmX12 (by decide) rfl rfl gw6_232 rfl rfl dX12_tick_37 e_37 (fun H locs hw => ?_)
      refine lv_aload_n hx hb dX12_tick_40 rfl (lv_at hl 0 rfl) ?_
      refine r_getI C hw (k := 51) dq_63 ln_63 rfl vc_12 inX12 (by decide) rfl gw6_232 dX12_tick_41 ?_
      exact r_iret C hw hr hlocks hf dX12_tick_44
    · have hf := if_f hf c_25
      refine lv_iconst (v := (0 : Int32)) hx hb dX12_tick_28 (by decide) ?_
      exact r_iret C hw hr hlocks hf dX12_tick_29
  have J_16 : ∀ (x1 : Int32) (S : St) (H : Heap) (locs : List Loc) (ls : Array Slot), fX12_tick_16 fu x1 S = some (S', r) → lv_has ls 2 [(0, .ref (ad 63)), (1, .int x1)] → WS D cA ad base s S H locs → W p l e rmX12_tick s m args below meth c H locs 0 0 (MQ below (QI D cA ad base S' r) args s 0 0 (aB base)) (F0 m 16 ls [.ref (ad 63)]) := by
    intro x1 S H locs ls hf hl hw
    refine lv_iconst (v := (1 : Int32)) hx hb dX12_tick_16 (by decide) ?_
    refine lv_goto (tgt := 21) hx hb dX12_tick_17 (by decide) ?_
    exact J_21 _ _ _ _ _ _ hf (lv_sub hl [0, 1] rfl) hw
  show W p l e rmX12_tick s m args below meth c s.heap [] 0 0 _ _
  refine lv_aload_n hx hb dX12_tick_0 rfl (lv_at hl 0 rfl) ?_
  refine lv_iconst (v := (0 : Int32)) hx hb dX12_tick_1 (by decide) ?_
  obtain ⟨S_2, e_2, hf⟩ := sI_some hf
  refine r_putI C hw (k := 0) (ty0 := tyX12) dq_63 ln_63 rfl vc_12 inX12 tyX12_ok nmX12 (by decide) rfl rfl gw6_181 rfl rfl dX12_tick_2 e_2 (fun H locs hw => ?_)
  refine lv_aload_n hx hb dX12_tick_5 rfl (lv_at hl 0 rfl) ?_
  refine lv_iload_n hx hb dX12_tick_6 rfl (lv_at hl 1 rfl) ?_
  refine lv_if_lt (tgt := 16) hx hb dX12_tick_7 (by decide) (fun c_7 => ?_) (fun c_7 => ?_)
  · have hf := if_t hf c_7
    exact J_16 _ _ _ _ _ hf (lv_sub hl [0, 1] rfl) hw
  · have hf := if_f hf c_7
    refine lv_iload_n hx hb dX12_tick_10 rfl (lv_at hl 1 rfl) ?_
    refine lv_ldc hx hb C.2.2.2.1 (C.2.2.2.2.1 _ (gw_of gw7_232 rfl)) dX12_tick_11 ?_
    refine lv_icmp_le (tgt := 20) hx hb dX12_tick_13 (by decide) (fun c_13 => ?_) (fun c_13 => ?_)
    · have hf := if_t hf c_13
      refine lv_iconst (v := (0 : Int32)) hx hb dX12_tick_20 (by decide) ?_
      exact J_21 _ _ _ _ _ _ hf (lv_sub hl [0, 1] rfl) hw
    · have hf := if_f hf c_13
      exact J_16 _ _ _ _ _ hf (lv_sub hl [0, 1] rfl) hw
noncomputable def fX12_anew_9 (fu : Nat) (n : Nat) : Int32 → Int32 → St → Option (St × Int32) :=
  Nat.rec (motive := fun _ => Int32 → Int32 → St → Option (St × Int32)) (fun _ _ _ => none) (fun _ k_9 x1 x2 S =>
    if (300 : Int32) ≤ x2 then
      some (S, (0 : Int32))
    else
      gd (ck (((300 : Int32) * x1) + x2) 1200) <|
      sI 103 ((((300 : Int32) * x1) + x2)).toNatClampNeg (vp_nar .boolean (0 : Int32)) S fun S_28 =>
      k_9 x1 (x2 + (1 : Int32)) S_28) n
theorem fX12_anew_9_s (fu : Nat) (n : Nat) (x1 : Int32) (x2 : Int32) (S : St) : fX12_anew_9 fu (n + 1) x1 x2 S = (
    if (300 : Int32) ≤ x2 then
      some (S, (0 : Int32))
    else
      gd (ck (((300 : Int32) * x1) + x2) 1200) <|
      sI 103 ((((300 : Int32) * x1) + x2)).toNatClampNeg (vp_nar .boolean (0 : Int32)) S fun S_28 =>
      (fX12_anew_9 fu n) x1 (x2 + (1 : Int32)) S_28) := rfl
noncomputable def fX12_anew (fu : Nat) (x1 : Int32) (S : St) : Option (St × Int32) :=
  gd (ck x1 4) <|
  sI 102 (x1).toNatClampNeg (0 : Int32) S fun S_6 =>
  fX12_anew_9 fu fu x1 (0 : Int32) S_6
theorem mvX12_anew : MV yX12_anew cX12_anew 3 none RX12 1 := ⟨gw8_171, gw8_170, gs_80, gw1_13, by decide +kernel⟩
def rmX12_anew : Room := { frames := 0, cells := 0, slots := 0, locals := 0 }
set_option maxHeartbeats 4000000 in
set_option maxRecDepth 100000 in
theorem m_X12_anew (l : Launch) (D : va_G) (cA : FieldType → ClassId) (ad : Nat → Nat) (base : Nat) (fu : Nat) {S S' : St} {x1 : Int32} {r : Int32} (hf : fX12_anew fu x1 S = some (S', r)) : Met l yX12_anew (GC yX12_anew cX12_anew 3 none) rmX12_anew (va_Pc [.ref (ad 63), .int x1] (wd D cA ad base S)) (QV D cA ad base S') 0 0 (aB base) := by
  refine Met.ofW (cc := cX12_anew) (maxL := 3) (ret := none) (by decide) rfl ?_
  intro p e s m args below meth c s₁ B hml hv
  obtain ⟨hargs, hwd⟩ := hv
  have hr := B.returns
  have hlocks := B.notSynchronized
  obtain ⟨C, hw⟩ := CX.of (own := RX12) rfl B hml hwd
  have hx := C.1
  have hb := C.2.1
  have hl := lv_entry ([.ref (ad 63), .int x1]) (n := 3) (Nat.le_of_ble_eq_true rfl)
  rw [show entryFrame m args 3 = entryFrame m ([.ref (ad 63), .int x1] : List Value).toArray 3 from by rw [hargs], lg_entry_eq]
  generalize (lg_sl ([.ref (ad 63), .int x1]) ++ List.replicate (3 - (lg_sl ([.ref (ad 63), .int x1])).length) Slot.unset).toArray = ls at hl ⊢
  have hl : lv_has ls 3 [(0, .ref (ad 63)), (1, .int x1)] := hl
  have L_9 : ∀ (n_9 : Nat) (x1 : Int32) (x2 : Int32) (S : St) (H : Heap) (locs : List Loc) (ls : Array Slot), fX12_anew_9 fu n_9 x1 x2 S = some (S', r) → lv_has ls 3 [(0, .ref (ad 63)), (1, .int x1), (2, .int x2)] → WS D cA ad base s S H locs → W p l e rmX12_anew s m args below meth c H locs 0 0 (MQ below (QV D cA ad base S') args s 0 0 (aB base)) (F0 m 9 ls []) := by
    intro n_9
    induction n_9 with
    | zero =>
      intro x1 x2 S H locs ls hf hl hw
      exact (no_none hf).elim
    | succ n_9 ih_9 =>
      intro x1 x2 S H locs ls hf hl hw
      rw [fX12_anew_9_s] at hf
      refine lv_iload_n hx hb dX12_anew_9 rfl (lv_at hl 2 rfl) ?_
      refine lv_sipush (v := (300 : Int32)) hx hb dX12_anew_10 (by decide) ?_
      refine lv_icmp_ge (tgt := 35) hx hb dX12_anew_13 (by decide) (fun c_13 => ?_) (fun c_13 => ?_)
      · have hf := if_t hf c_13
        exact r_vret C hw hr hlocks hf dX12_anew_35
      · have hf := if_f hf c_13
        refine lv_aload_n hx hb dX12_anew_16 rfl (lv_at hl 0 rfl) ?_
        refine r_getR C hw (k := 61) (r := 103) dq_63 ln_63 rfl vc_12 inX12 (by decide) rfl gw7_2 dX12_anew_17 ?_
        refine lv_sipush (v := (300 : Int32)) hx hb dX12_anew_20 (by decide) ?_
        refine lv_iload_n hx hb dX12_anew_23 rfl (lv_at hl 1 rfl) ?_
        refine lv_imul hx hb dX12_anew_24 ?_
        refine lv_iload_n hx hb dX12_anew_25 rfl (lv_at hl 2 rfl) ?_
        refine lv_iadd hx hb dX12_anew_26 ?_
        refine lv_iconst (v := (0 : Int32)) hx hb dX12_anew_27 (by decide) ?_
        obtain ⟨z_28, hf⟩ := gd_some hf
        obtain ⟨S_28, e_28, hf⟩ := sI_some hf
        refine r_zast C hw (x := 103) dq_103 ln_103 z_28 dX12_anew_28 e_28 (fun H locs hw => ?_)
        refine lv_iinc (v := (x2 + (1 : Int32))) (lv' := [(2, .int (x2 + (1 : Int32))), (0, .ref (ad 63)), (1, .int x1)]) hx hb dX12_anew_29 hl (k := 2) rfl rfl (by decide) rfl (fun ls hl => ?_)
        refine lv_goto (tgt := 9) hx hb dX12_anew_32 (by decide) ?_
        exact ih_9 _ _ _ _ _ _ hf (lv_sub hl [1, 2, 0] rfl) hw
  show W p l e rmX12_anew s m args below meth c s.heap [] 0 0 _ _
  refine lv_aload_n hx hb dX12_anew_0 rfl (lv_at hl 0 rfl) ?_
  refine r_getR C hw (k := 60) (r := 102) dq_63 ln_63 rfl vc_12 inX12 (by decide) rfl gw7_1 dX12_anew_1 ?_
  refine lv_iload_n hx hb dX12_anew_4 rfl (lv_at hl 1 rfl) ?_
  refine lv_iconst (v := (0 : Int32)) hx hb dX12_anew_5 (by decide) ?_
  obtain ⟨z_6, hf⟩ := gd_some hf
  obtain ⟨S_6, e_6, hf⟩ := sI_some hf
  refine r_iast C hw (x := 102) dq_102 ln_102 z_6 dX12_anew_6 e_6 (fun H locs hw => ?_)
  refine lv_iconst (v := (0 : Int32)) hx hb dX12_anew_7 (by decide) ?_
  refine lv_istore_n (lv' := [(2, .int (0 : Int32)), (0, .ref (ad 63)), (1, .int x1)]) hx hb dX12_anew_8 rfl hl (by decide) rfl (fun ls hl => ?_)
  exact L_9 fu _ _ _ _ _ _ hf (lv_sub hl [1, 2, 0] rfl) hw
noncomputable def fX12_opens (fu : Nat) (x1 : Int32) (x2 : Int32) (S : St) : Option (St × Int32) :=
  gd (ck (S.1 63 62) 4) <|
  sI 97 ((S.1 63 62)).toNatClampNeg x1 S fun S_9 =>
  gd (ck (S_9.1 63 62) 4) <|
  sI 98 ((S_9.1 63 62)).toNatClampNeg x2 S_9 fun S_19 =>
  gd (ck (S_19.1 63 62) 4) <|
  sI 99 ((S_19.1 63 62)).toNatClampNeg (0 : Int32) S_19 fun S_29 =>
  gd (ck (S_29.1 63 62) 4) <|
  sI 100 ((S_29.1 63 62)).toNatClampNeg (-1 : Int32) S_29 fun S_39 =>
  bd (fX12_anew fu (S_39.1 63 62) S_39) fun S_45 _ =>
  sI 63 62 ((S_45.1 63 62) + (1 : Int32)) S_45 fun S_55 =>
  some (S_55, (0 : Int32))
theorem mvX12_opens : MV yX12_opens cX12_opens 3 none RX12 2 := ⟨gw8_167, gw8_166, gs_79, gw1_13, by decide +kernel⟩
def rmX12_opens : Room := { frames := 1, cells := 0, slots := 0, locals := 22 }
set_option maxHeartbeats 4000000 in
set_option maxRecDepth 100000 in
theorem m_X12_opens (l : Launch) (D : va_G) (cA : FieldType → ClassId) (ad : Nat → Nat) (base : Nat) (fu : Nat) {S S' : St} {x1 : Int32} {x2 : Int32} {r : Int32} (hf : fX12_opens fu x1 x2 S = some (S', r)) : Met l yX12_opens (GC yX12_opens cX12_opens 3 none) rmX12_opens (va_Pc [.ref (ad 63), .int x1, .int x2] (wd D cA ad base S)) (QV D cA ad base S') 0 0 (aB base) := by
  refine Met.ofW (cc := cX12_opens) (maxL := 3) (ret := none) (by decide) rfl ?_
  intro p e s m args below meth c s₁ B hml hv
  obtain ⟨hargs, hwd⟩ := hv
  have hr := B.returns
  have hlocks := B.notSynchronized
  obtain ⟨C, hw⟩ := CX.of (own := RX12) rfl B hml hwd
  have hx := C.1
  have hb := C.2.1
  have hl := lv_entry ([.ref (ad 63), .int x1, .int x2]) (n := 3) (Nat.le_of_ble_eq_true rfl)
  rw [show entryFrame m args 3 = entryFrame m ([.ref (ad 63), .int x1, .int x2] : List Value).toArray 3 from by rw [hargs], lg_entry_eq]
  generalize (lg_sl ([.ref (ad 63), .int x1, .int x2]) ++ List.replicate (3 - (lg_sl ([.ref (ad 63), .int x1, .int x2])).length) Slot.unset).toArray = ls at hl ⊢
  have hl : lv_has ls 3 [(0, .ref (ad 63)), (1, .int x1), (2, .int x2)] := hl
  show W p l e rmX12_opens s m args below meth c s.heap [] 0 0 _ _
  refine lv_aload_n hx hb dX12_opens_0 rfl (lv_at hl 0 rfl) ?_
  refine r_getR C hw (k := 55) (r := 97) dq_63 ln_63 rfl vc_12 inX12 (by decide) rfl gw6_236 dX12_opens_1 ?_
  refine lv_aload_n hx hb dX12_opens_4 rfl (lv_at hl 0 rfl) ?_
  refine r_getI C hw (k := 62) dq_63 ln_63 rfl vc_12 inX12 (by decide) rfl gw7_3 dX12_opens_5 ?_
  refine lv_iload_n hx hb dX12_opens_8 rfl (lv_at hl 1 rfl) ?_
  obtain ⟨z_9, hf⟩ := gd_some hf
  obtain ⟨S_9, e_9, hf⟩ := sI_some hf
  refine r_iast C hw (x := 97) dq_97 ln_97 z_9 dX12_opens_9 e_9 (fun H locs hw => ?_)
  refine lv_aload_n hx hb dX12_opens_10 rfl (lv_at hl 0 rfl) ?_
  refine r_getR C hw (k := 56) (r := 98) dq_63 ln_63 rfl vc_12 inX12 (by decide) rfl gw6_237 dX12_opens_11 ?_
  refine lv_aload_n hx hb dX12_opens_14 rfl (lv_at hl 0 rfl) ?_
  refine r_getI C hw (k := 62) dq_63 ln_63 rfl vc_12 inX12 (by decide) rfl gw7_3 dX12_opens_15 ?_
  refine lv_iload_n hx hb dX12_opens_18 rfl (lv_at hl 2 rfl) ?_
  obtain ⟨z_19, hf⟩ := gd_some hf
  obtain ⟨S_19, e_19, hf⟩ := sI_some hf
  refine r_iast C hw (x := 98) dq_98 ln_98 z_19 dX12_opens_19 e_19 (fun H locs hw => ?_)
  refine lv_aload_n hx hb dX12_opens_20 rfl (lv_at hl 0 rfl) ?_
  refine r_getR C hw (k := 57) (r := 99) dq_63 ln_63 rfl vc_12 inX12 (by decide) rfl gw6_238 dX12_opens_21 ?_
  refine lv_aload_n hx hb dX12_opens_24 rfl (lv_at hl 0 rfl) ?_
  refine r_getI C hw (k := 62) dq_63 ln_63 rfl vc_12 inX12 (by decide) rfl gw7_3 dX12_opens_25 ?_
  refine lv_iconst (v := (0 : Int32)) hx hb dX12_opens_28 (by decide) ?_
  obtain ⟨z_29, hf⟩ := gd_some hf
  obtain ⟨S_29, e_29, hf⟩ := sI_some hf
  refine r_iast C hw (x := 99) dq_99 ln_99 z_29 dX12_opens_29 e_29 (fun H locs hw => ?_)
  refine lv_aload_n hx hb dX12_opens_30 rfl (lv_at hl 0 rfl) ?_
  refine r_getR C hw (k := 58) (r := 100) dq_63 ln_63 rfl vc_12 inX12 (by decide) rfl gw6_239 dX12_opens_31 ?_
  refine lv_aload_n hx hb dX12_opens_34 rfl (lv_at hl 0 rfl) ?_
  refine r_getI C hw (k := 62) dq_63 ln_63 rfl vc_12 inX12 (by decide) rfl gw7_3 dX12_opens_35 ?_
  refine lv_iconst (v := (-1 : Int32)) hx hb dX12_opens_38 (by decide) ?_
  obtain ⟨z_39, hf⟩ := gd_some hf
  obtain ⟨S_39, e_39, hf⟩ := sI_some hf
  refine r_iast C hw (x := 100) dq_100 ln_100 z_39 dX12_opens_39 e_39 (fun H locs hw => ?_)
  refine lv_aload_n hx hb dX12_opens_40 rfl (lv_at hl 0 rfl) ?_
  refine lv_aload_n hx hb dX12_opens_41 rfl (lv_at hl 0 rfl) ?_
  refine r_getI C hw (k := 62) dq_63 ln_63 rfl vc_12 inX12 (by decide) rfl gw7_3 dX12_opens_42 ?_
  obtain ⟨S_45, r_45, h_45, hf⟩ := bd_some hf
  refine r_bv hw (r_runV (rest := []) C hw (m_X12_anew l D cA ad base fu h_45) mvX12_anew gw8_168 ⟨rfl, rfl, Nat.le_of_ble_eq_true rfl, Nat.le_of_ble_eq_true rfl⟩ dq_63 ln_63 vc_12 rfl hl.1 rfl (Nat.le_of_ble_eq_true rfl) dX12_opens_45 (Nat.zero_le _) (Nat.zero_le _)) (fun H locs hw => ?_)
  refine lv_aload_n hx hb dX12_opens_48 rfl (lv_at hl 0 rfl) ?_
  refine lv_dup hx hb dX12_opens_49 rfl ?_
  refine r_getI C hw (k := 62) dq_63 ln_63 rfl vc_12 inX12 (by decide) rfl gw7_3 dX12_opens_50 ?_
  refine lv_iconst (v := (1 : Int32)) hx hb dX12_opens_53 (by decide) ?_
  refine lv_iadd hx hb dX12_opens_54 ?_
  obtain ⟨S_55, e_55, hf⟩ := sI_some hf
  refine r_putI C hw (k := 62) (ty0 := tyX12) dq_63 ln_63 rfl vc_12 inX12 tyX12_ok nmX12 (by decide) rfl rfl gw7_3 rfl rfl dX12_opens_55 e_55 (fun H locs hw => ?_)
  exact r_vret C hw hr hlocks hf dX12_opens_58
noncomputable def fX12_ends_58 (fu : Nat) (n : Nat) : Int32 → Int32 → St → Option (St × Int32) :=
  Nat.rec (motive := fun _ => Int32 → Int32 → St → Option (St × Int32)) (fun _ _ _ => none) (fun _ k_58 x2 x3 S =>
    if (S.1 63 71) ≤ x3 then
      some (S, (0 : Int32))
    else
      gd (ck (((10 : Int32) * x2) + x3) 1000) <|
      gd (ck x3 10) <|
      sI 104 (x3).toNatClampNeg (S.1 94 ((((10 : Int32) * x2) + x3)).toNatClampNeg) S fun S_82 =>
      k_58 x2 (x3 + (1 : Int32)) S_82) n
theorem fX12_ends_58_s (fu : Nat) (n : Nat) (x2 : Int32) (x3 : Int32) (S : St) : fX12_ends_58 fu (n + 1) x2 x3 S = (
    if (S.1 63 71) ≤ x3 then
      some (S, (0 : Int32))
    else
      gd (ck (((10 : Int32) * x2) + x3) 1000) <|
      gd (ck x3 10) <|
      sI 104 (x3).toNatClampNeg (S.1 94 ((((10 : Int32) * x2) + x3)).toNatClampNeg) S fun S_82 =>
      (fX12_ends_58 fu n) x2 (x3 + (1 : Int32)) S_82) := rfl
noncomputable def fX12_ends (fu : Nat) (x1 : Int32) (S : St) : Option (St × Int32) :=
  if (S.1 63 62) ≤ (1 : Int32) then
    sI 63 63 x1 S fun S_21 =>
    if x1 = 0 then
      gd (ck (0 : Int32) 4) <|
      gd (ck (0 : Int32) 4) <|
      bd (fX12_set fu (S_21.1 97 ((0 : Int32)).toNatClampNeg) (S_21.1 98 ((0 : Int32)).toNatClampNeg) S_21) fun S_42 r_42 =>
      gd (ck r_42 100) <|
      sI 63 71 (S_42.1 93 (r_42).toNatClampNeg) S_42 fun S_53 =>
      fX12_ends_58 fu fu r_42 (0 : Int32) S_53
    else
      some (S_21, (0 : Int32))
  else
    sI 63 62 ((S.1 63 62) - (1 : Int32)) S fun S_15 =>
    some (S_15, (0 : Int32))
theorem mvX12_ends : MV yX12_ends cX12_ends 4 none RX12 1 := ⟨gw8_187, gw8_186, gs_84, gw1_13, by decide +kernel⟩
def rmX12_ends : Room := { frames := 2, cells := 0, slots := 0, locals := 47 }
set_option maxHeartbeats 4000000 in
set_option maxRecDepth 100000 in
theorem m_X12_ends (l : Launch) (D : va_G) (cA : FieldType → ClassId) (ad : Nat → Nat) (base : Nat) (fu : Nat) {S S' : St} {x1 : Int32} {r : Int32} (hf : fX12_ends fu x1 S = some (S', r)) : Met l yX12_ends (GC yX12_ends cX12_ends 4 none) rmX12_ends (va_Pc [.ref (ad 63), .int x1] (wd D cA ad base S)) (QV D cA ad base S') 0 0 (aB base) := by
  refine Met.ofW (cc := cX12_ends) (maxL := 4) (ret := none) (by decide) rfl ?_
  intro p e s m args below meth c s₁ B hml hv
  obtain ⟨hargs, hwd⟩ := hv
  have hr := B.returns
  have hlocks := B.notSynchronized
  obtain ⟨C, hw⟩ := CX.of (own := RX12) rfl B hml hwd
  have hx := C.1
  have hb := C.2.1
  have hl := lv_entry ([.ref (ad 63), .int x1]) (n := 4) (Nat.le_of_ble_eq_true rfl)
  rw [show entryFrame m args 4 = entryFrame m ([.ref (ad 63), .int x1] : List Value).toArray 4 from by rw [hargs], lg_entry_eq]
  generalize (lg_sl ([.ref (ad 63), .int x1]) ++ List.replicate (4 - (lg_sl ([.ref (ad 63), .int x1])).length) Slot.unset).toArray = ls at hl ⊢
  have hl : lv_has ls 4 [(0, .ref (ad 63)), (1, .int x1)] := hl
  have L_58 : ∀ (n_58 : Nat) (x2 : Int32) (x3 : Int32) (S : St) (H : Heap) (locs : List Loc) (ls : Array Slot), fX12_ends_58 fu n_58 x2 x3 S = some (S', r) → lv_has ls 4 [(0, .ref (ad 63)), (2, .int x2), (3, .int x3)] → WS D cA ad base s S H locs → W p l e rmX12_ends s m args below meth c H locs 0 0 (MQ below (QV D cA ad base S') args s 0 0 (aB base)) (F0 m 58 ls []) := by
    intro n_58
    induction n_58 with
    | zero =>
      intro x2 x3 S H locs ls hf hl hw
      exact (no_none hf).elim
    | succ n_58 ih_58 =>
      intro x2 x3 S H locs ls hf hl hw
      rw [fX12_ends_58_s] at hf
      refine lv_iload_n hx hb dX12_ends_58 rfl (lv_at hl 2 rfl) ?_
      refine lv_aload_n hx hb dX12_ends_59 rfl (lv_at hl 0 rfl) ?_
      refine r_getI C hw (k := 71) dq_63 ln_63 rfl vc_12 inX12 (by decide) rfl gw7_12 dX12_ends_60 ?_
      refine lv_icmp_ge (tgt := 89) hx hb dX12_ends_63 (by decide) (fun c_63 => ?_) (fun c_63 => ?_)
      · have hf := if_t hf c_63
        exact r_vret C hw hr hlocks hf dX12_ends_89
      · have hf := if_f hf c_63
        refine lv_aload_n hx hb dX12_ends_66 rfl (lv_at hl 0 rfl) ?_
        refine r_getR C hw (k := 70) (r := 104) dq_63 ln_63 rfl vc_12 inX12 (by decide) rfl gw7_11 dX12_ends_67 ?_
        refine lv_iload_n hx hb dX12_ends_70 rfl (lv_at hl 2 rfl) ?_
        refine lv_aload_n hx hb dX12_ends_71 rfl (lv_at hl 0 rfl) ?_
        refine r_getR C hw (k := 48) (r := 94) dq_63 ln_63 rfl vc_12 inX12 (by decide) rfl gw6_229 dX12_ends_72 ?_
        refine lv_bipush (v := (10 : Int32)) hx hb dX12_ends_75 (by decide) ?_
        refine lv_iload_n hx hb dX12_ends_77 rfl (lv_at hl 1 rfl) ?_
        refine lv_imul hx hb dX12_ends_78 ?_
        refine lv_iload_n hx hb dX12_ends_79 rfl (lv_at hl 2 rfl) ?_
        refine lv_iadd hx hb dX12_ends_80 ?_
        obtain ⟨z_81, hf⟩ := gd_some hf
        refine r_iald C hw (x := 94) dq_94 ln_94 z_81 dX12_ends_81 ?_
        obtain ⟨z_82, hf⟩ := gd_some hf
        obtain ⟨S_82, e_82, hf⟩ := sI_some hf
        refine r_iast C hw (x := 104) dq_104 ln_104 z_82 dX12_ends_82 e_82 (fun H locs hw => ?_)
        refine lv_iinc (v := (x3 + (1 : Int32))) (lv' := [(3, .int (x3 + (1 : Int32))), (0, .ref (ad 63)), (2, .int x2)]) hx hb dX12_ends_83 hl (k := 2) rfl rfl (by decide) rfl (fun ls hl => ?_)
        refine lv_goto (tgt := 58) hx hb dX12_ends_86 (by decide) ?_
        exact ih_58 _ _ _ _ _ _ hf (lv_sub hl [1, 2, 0] rfl) hw
  show W p l e rmX12_ends s m args below meth c s.heap [] 0 0 _ _
  refine lv_aload_n hx hb dX12_ends_0 rfl (lv_at hl 0 rfl) ?_
  refine r_getI C hw (k := 62) dq_63 ln_63 rfl vc_12 inX12 (by decide) rfl gw7_3 dX12_ends_1 ?_
  refine lv_iconst (v := (1 : Int32)) hx hb dX12_ends_4 (by decide) ?_
  refine lv_icmp_le (tgt := 19) hx hb dX12_ends_5 (by decide) (fun c_5 => ?_) (fun c_5 => ?_)
  · have hf := if_t hf c_5
    refine lv_aload_n hx hb dX12_ends_19 rfl (lv_at hl 0 rfl) ?_
    refine lv_iload_n hx hb dX12_ends_20 rfl (lv_at hl 1 rfl) ?_
    obtain ⟨S_21, e_21, hf⟩ := sI_some hf
    refine r_putI C hw (k := 63) (ty0 := tyX12) dq_63 ln_63 rfl vc_12 inX12 tyX12_ok nmX12 (by decide) rfl rfl gw7_4 rfl rfl dX12_ends_21 e_21 (fun H locs hw => ?_)
    refine lv_iload_n hx hb dX12_ends_24 rfl (lv_at hl 1 rfl) ?_
    refine lv_if_eq (tgt := 29) hx hb dX12_ends_25 (by decide) (fun c_25 => ?_) (fun c_25 => ?_)
    · have hf := if_t hf c_25
      refine lv_aload_n hx hb dX12_ends_29 rfl (lv_at hl 0 rfl) ?_
      refine lv_aload_n hx hb dX12_ends_30 rfl (lv_at hl 0 rfl) ?_
      refine r_getR C hw (k := 55) (r := 97) dq_63 ln_63 rfl vc_12 inX12 (by decide) rfl gw6_236 dX12_ends_31 ?_
      refine lv_iconst (v := (0 : Int32)) hx hb dX12_ends_34 (by decide) ?_
      obtain ⟨z_35, hf⟩ := gd_some hf
      refine r_iald C hw (x := 97) dq_97 ln_97 z_35 dX12_ends_35 ?_
      refine lv_aload_n hx hb dX12_ends_36 rfl (lv_at hl 0 rfl) ?_
      refine r_getR C hw (k := 56) (r := 98) dq_63 ln_63 rfl vc_12 inX12 (by decide) rfl gw6_237 dX12_ends_37 ?_
      refine lv_iconst (v := (0 : Int32)) hx hb dX12_ends_40 (by decide) ?_
      obtain ⟨z_41, hf⟩ := gd_some hf
      refine r_iald C hw (x := 98) dq_98 ln_98 z_41 dX12_ends_41 ?_
      obtain ⟨S_42, r_42, h_42, hf⟩ := bd_some hf
      refine r_bi hw (r_runV (rest := []) C hw (m_X12_set l D cA ad base fu h_42) mvX12_set gw8_180 ⟨rfl, rfl, Nat.le_of_ble_eq_true rfl, Nat.le_of_ble_eq_true rfl⟩ dq_63 ln_63 vc_12 rfl hl.1 rfl (Nat.le_of_ble_eq_true rfl) dX12_ends_42 (Nat.zero_le _) (Nat.zero_le _)) (fun H locs hw => ?_)
      refine lv_istore_n (lv' := [(2, .int r_42), (0, .ref (ad 63)), (1, .int x1)]) hx hb dX12_ends_45 rfl hl (by decide) rfl (fun ls hl => ?_)
      refine lv_aload_n hx hb dX12_ends_46 rfl (lv_at hl 1 rfl) ?_
      refine lv_aload_n hx hb dX12_ends_47 rfl (lv_at hl 1 rfl) ?_
      refine r_getR C hw (k := 47) (r := 93) dq_63 ln_63 rfl vc_12 inX12 (by decide) rfl gw6_228 dX12_ends_48 ?_
      refine lv_iload_n hx hb dX12_ends_51 rfl (lv_at hl 0 rfl) ?_
      obtain ⟨z_52, hf⟩ := gd_some hf
      refine r_iald C hw (x := 93) dq_93 ln_93 z_52 dX12_ends_52 ?_
      obtain ⟨S_53, e_53, hf⟩ := sI_some hf
      refine r_putI C hw (k := 71) (ty0 := tyX12) dq_63 ln_63 rfl vc_12 inX12 tyX12_ok nmX12 (by decide) rfl rfl gw7_12 rfl rfl dX12_ends_53 e_53 (fun H locs hw => ?_)
      refine lv_iconst (v := (0 : Int32)) hx hb dX12_ends_56 (by decide) ?_
      refine lv_istore_n (lv' := [(3, .int (0 : Int32)), (2, .int r_42), (0, .ref (ad 63)), (1, .int x1)]) hx hb dX12_ends_57 rfl hl (by decide) rfl (fun ls hl => ?_)
      exact L_58 fu _ _ _ _ _ _ hf (lv_sub hl [2, 1, 0] rfl) hw
    · have hf := if_f hf c_25
      exact r_vret C hw hr hlocks hf dX12_ends_28
  · have hf := if_f hf c_5
    refine lv_aload_n hx hb dX12_ends_8 rfl (lv_at hl 0 rfl) ?_
    refine lv_dup hx hb dX12_ends_9 rfl ?_
    refine r_getI C hw (k := 62) dq_63 ln_63 rfl vc_12 inX12 (by decide) rfl gw7_3 dX12_ends_10 ?_
    refine lv_iconst (v := (1 : Int32)) hx hb dX12_ends_13 (by decide) ?_
    refine lv_isub hx hb dX12_ends_14 ?_
    obtain ⟨S_15, e_15, hf⟩ := sI_some hf
    refine r_putI C hw (k := 62) (ty0 := tyX12) dq_63 ln_63 rfl vc_12 inX12 tyX12_ok nmX12 (by decide) rfl rfl gw7_3 rfl rfl dX12_ends_15 e_15 (fun H locs hw => ?_)
    exact r_vret C hw hr hlocks hf dX12_ends_18
noncomputable def fX12_isTried_41 (fu : Nat) (k_5 : Int32 → Int32 → Int32 → Int32 → St → Option (St × Int32)) (x1 : Int32) (x2 : Int32) (x4 : Int32) (t0 : Int32) (S : St) : Option (St × Int32) :=
  k_5 x1 x2 t0 (x4 + (1 : Int32)) S
noncomputable def fX12_isTried_36 (fu : Nat) (k_5 : Int32 → Int32 → Int32 → Int32 → St → Option (St × Int32)) (x1 : Int32) (x2 : Int32) (x4 : Int32) (S : St) : Option (St × Int32) :=
  fX12_isTried_41 fu k_5 x1 x2 x4 (1 : Int32) S
noncomputable def fX12_isTried_5 (fu : Nat) (n : Nat) : Int32 → Int32 → Int32 → Int32 → St → Option (St × Int32) :=
  Nat.rec (motive := fun _ => Int32 → Int32 → Int32 → Int32 → St → Option (St × Int32)) (fun _ _ _ _ _ => none) (fun _ k_5 x1 x2 x3 x4 S =>
    gd (ck x1 4) <|
    if (S.1 102 (x1).toNatClampNeg) ≤ x4 then
      gd (isB x3) <|
      some (S, x3)
    else
      if x3 = 0 then
        gd (ck (((64 : Int32) * x1) + x4) 256) <|
        if (S.1 101 ((((64 : Int32) * x1) + x4)).toNatClampNeg) = x2 then
          fX12_isTried_36 fu k_5 x1 x2 x4 S
        else
          fX12_isTried_41 fu k_5 x1 x2 x4 (0 : Int32) S
      else
        fX12_isTried_36 fu k_5 x1 x2 x4 S) n
theorem fX12_isTried_5_s (fu : Nat) (n : Nat) (x1 : Int32) (x2 : Int32) (x3 : Int32) (x4 : Int32) (S : St) : fX12_isTried_5 fu (n + 1) x1 x2 x3 x4 S = (
    gd (ck x1 4) <|
    if (S.1 102 (x1).toNatClampNeg) ≤ x4 then
      gd (isB x3) <|
      some (S, x3)
    else
      if x3 = 0 then
        gd (ck (((64 : Int32) * x1) + x4) 256) <|
        if (S.1 101 ((((64 : Int32) * x1) + x4)).toNatClampNeg) = x2 then
          fX12_isTried_36 fu (fX12_isTried_5 fu n) x1 x2 x4 S
        else
          fX12_isTried_41 fu (fX12_isTried_5 fu n) x1 x2 x4 (0 : Int32) S
      else
        fX12_isTried_36 fu (fX12_isTried_5 fu n) x1 x2 x4 S) := rfl
noncomputable def fX12_isTried (fu : Nat) (x1 : Int32) (x2 : Int32) (S : St) : Option (St × Int32) :=
  fX12_isTried_5 fu fu x1 x2 (0 : Int32) (0 : Int32) S
theorem mvX12_isTried : MV yX12_isTried cX12_isTried 5 (some .boolean) RX12 2 := ⟨gw8_199, gw8_198, gs_87, gw1_13, by decide +kernel⟩
def rmX12_isTried : Room := { frames := 0, cells := 0, slots := 0, locals := 0 }
set_option maxHeartbeats 4000000 in
set_option maxRecDepth 100000 in
theorem m_X12_isTried (l : Launch) (D : va_G) (cA : FieldType → ClassId) (ad : Nat → Nat) (base : Nat) (fu : Nat) {S S' : St} {x1 : Int32} {x2 : Int32} {r : Int32} (hf : fX12_isTried fu x1 x2 S = some (S', r)) : Met l yX12_isTried (GC yX12_isTried cX12_isTried 5 (some .boolean)) rmX12_isTried (va_Pc [.ref (ad 63), .int x1, .int x2] (wd D cA ad base S)) (QI D cA ad base S' r) 0 0 (aB base) := by
  refine Met.ofW (cc := cX12_isTried) (maxL := 5) (ret := (some .boolean)) (by decide) rfl ?_
  intro p e s m args below meth c s₁ B hml hv
  obtain ⟨hargs, hwd⟩ := hv
  have hr := B.returns
  have hlocks := B.notSynchronized
  obtain ⟨C, hw⟩ := CX.of (own := RX12) rfl B hml hwd
  have hx := C.1
  have hb := C.2.1
  have hl := lv_entry ([.ref (ad 63), .int x1, .int x2]) (n := 5) (Nat.le_of_ble_eq_true rfl)
  rw [show entryFrame m args 5 = entryFrame m ([.ref (ad 63), .int x1, .int x2] : List Value).toArray 5 from by rw [hargs], lg_entry_eq]
  generalize (lg_sl ([.ref (ad 63), .int x1, .int x2]) ++ List.replicate (5 - (lg_sl ([.ref (ad 63), .int x1, .int x2])).length) Slot.unset).toArray = ls at hl ⊢
  have hl : lv_has ls 5 [(0, .ref (ad 63)), (1, .int x1), (2, .int x2)] := hl
  have L_5 : ∀ (n_5 : Nat) (x1 : Int32) (x2 : Int32) (x3 : Int32) (x4 : Int32) (S : St) (H : Heap) (locs : List Loc) (ls : Array Slot), fX12_isTried_5 fu n_5 x1 x2 x3 x4 S = some (S', r) → lv_has ls 5 [(0, .ref (ad 63)), (1, .int x1), (2, .int x2), (3, .int x3), (4, .int x4)] → WS D cA ad base s S H locs → W p l e rmX12_isTried s m args below meth c H locs 0 0 (MQ below (QI D cA ad base S' r) args s 0 0 (aB base)) (F0 m 5 ls []) := by
    intro n_5
    induction n_5 with
    | zero =>
      intro x1 x2 x3 x4 S H locs ls hf hl hw
      exact (no_none hf).elim
    | succ n_5 ih_5 =>
      have J_41 : ∀ (x1 : Int32) (x2 : Int32) (x4 : Int32) (t0 : Int32) (S : St) (H : Heap) (locs : List Loc) (ls : Array Slot), fX12_isTried_41 fu (fX12_isTried_5 fu n_5) x1 x2 x4 t0 S = some (S', r) → lv_has ls 5 [(0, .ref (ad 63)), (1, .int x1), (2, .int x2), (4, .int x4)] → WS D cA ad base s S H locs → W p l e rmX12_isTried s m args below meth c H locs 0 0 (MQ below (QI D cA ad base S' r) args s 0 0 (aB base)) (F0 m 41 ls [.int t0]) := by
        intro x1 x2 x4 t0 S H locs ls hf hl hw
        refine lv_istore_n (lv' := [(3, .int t0), (0, .ref (ad 63)), (1, .int x1), (2, .int x2), (4, .int x4)]) hx hb dX12_isTried_41 rfl hl (by decide) rfl (fun ls hl => ?_)
        refine lv_iinc (v := (x4 + (1 : Int32))) (lv' := [(4, .int (x4 + (1 : Int32))), (3, .int t0), (0, .ref (ad 63)), (1, .int x1), (2, .int x2)]) hx hb dX12_isTried_42 hl (k := 4) rfl rfl (by decide) rfl (fun ls hl => ?_)
        refine lv_goto (tgt := 5) hx hb dX12_isTried_45 (by decide) ?_
        exact ih_5 _ _ _ _ _ _ _ _ hf (lv_sub hl [2, 3, 4, 1, 0] rfl) hw
      have J_36 : ∀ (x1 : Int32) (x2 : Int32) (x4 : Int32) (S : St) (H : Heap) (locs : List Loc) (ls : Array Slot), fX12_isTried_36 fu (fX12_isTried_5 fu n_5) x1 x2 x4 S = some (S', r) → lv_has ls 5 [(0, .ref (ad 63)), (1, .int x1), (2, .int x2), (4, .int x4)] → WS D cA ad base s S H locs → W p l e rmX12_isTried s m args below meth c H locs 0 0 (MQ below (QI D cA ad base S' r) args s 0 0 (aB base)) (F0 m 36 ls []) := by
        intro x1 x2 x4 S H locs ls hf hl hw
        refine lv_iconst (v := (1 : Int32)) hx hb dX12_isTried_36 (by decide) ?_
        refine lv_goto (tgt := 41) hx hb dX12_isTried_37 (by decide) ?_
        exact J_41 _ _ _ _ _ _ _ _ hf (lv_sub hl [0, 1, 2, 3] rfl) hw
      intro x1 x2 x3 x4 S H locs ls hf hl hw
      rw [fX12_isTried_5_s] at hf
      refine lv_iload hx hb dX12_isTried_5 (lv_at hl 4 rfl) ?_
      refine lv_aload_n hx hb dX12_isTried_7 rfl (lv_at hl 0 rfl) ?_
      refine r_getR C hw (k := 60) (r := 102) dq_63 ln_63 rfl vc_12 inX12 (by decide) rfl gw7_1 dX12_isTried_8 ?_
      refine lv_iload_n hx hb dX12_isTried_11 rfl (lv_at hl 1 rfl) ?_
      obtain ⟨z_12, hf⟩ := gd_some hf
      refine r_iald C hw (x := 102) dq_102 ln_102 z_12 dX12_isTried_12 ?_
      refine lv_icmp_ge (tgt := 48) hx hb dX12_isTried_13 (by decide) (fun c_13 => ?_) (fun c_13 => ?_)
      · have hf := if_t hf c_13
        refine lv_iload_n hx hb dX12_isTried_48 rfl (lv_at hl 3 rfl) ?_
        obtain ⟨z_49, hf⟩ := gd_some hf
        exact r_zret C hw hr hlocks z_49 hf dX12_isTried_49
      · have hf := if_f hf c_13
        refine lv_iload_n hx hb dX12_isTried_16 rfl (lv_at hl 3 rfl) ?_
        refine lv_if_ne (tgt := 36) hx hb dX12_isTried_17 (by decide) (fun c_17 => ?_) (fun c_17 => ?_)
        · have hf := if_f hf c_17
          exact J_36 _ _ _ _ _ _ _ hf (lv_sub hl [0, 1, 2, 4] rfl) hw
        · have hf := if_t hf c_17
          refine lv_aload_n hx hb dX12_isTried_20 rfl (lv_at hl 0 rfl) ?_
          refine r_getR C hw (k := 59) (r := 101) dq_63 ln_63 rfl vc_12 inX12 (by decide) rfl gw7_0 dX12_isTried_21 ?_
          refine lv_bipush (v := (64 : Int32)) hx hb dX12_isTried_24 (by decide) ?_
          refine lv_iload_n hx hb dX12_isTried_26 rfl (lv_at hl 1 rfl) ?_
          refine lv_imul hx hb dX12_isTried_27 ?_
          refine lv_iload hx hb dX12_isTried_28 (lv_at hl 4 rfl) ?_
          refine lv_iadd hx hb dX12_isTried_30 ?_
          obtain ⟨z_31, hf⟩ := gd_some hf
          refine r_iald C hw (x := 101) dq_101 ln_101 z_31 dX12_isTried_31 ?_
          refine lv_iload_n hx hb dX12_isTried_32 rfl (lv_at hl 2 rfl) ?_
          refine lv_icmp_ne (tgt := 40) hx hb dX12_isTried_33 (by decide) (fun c_33 => ?_) (fun c_33 => ?_)
          · have hf := if_f hf c_33
            refine lv_iconst (v := (0 : Int32)) hx hb dX12_isTried_40 (by decide) ?_
            exact J_41 _ _ _ _ _ _ _ _ hf (lv_sub hl [0, 1, 2, 4] rfl) hw
          · have hf := if_t hf c_33
            exact J_36 _ _ _ _ _ _ _ hf (lv_sub hl [0, 1, 2, 4] rfl) hw
  show W p l e rmX12_isTried s m args below meth c s.heap [] 0 0 _ _
  refine lv_iconst (v := (0 : Int32)) hx hb dX12_isTried_0 (by decide) ?_
  refine lv_istore_n (lv' := [(3, .int (0 : Int32)), (0, .ref (ad 63)), (1, .int x1), (2, .int x2)]) hx hb dX12_isTried_1 rfl hl (by decide) rfl (fun ls hl => ?_)
  refine lv_iconst (v := (0 : Int32)) hx hb dX12_isTried_2 (by decide) ?_
  refine lv_istore (lv' := [(4, .int (0 : Int32)), (3, .int (0 : Int32)), (0, .ref (ad 63)), (1, .int x1), (2, .int x2)]) hx hb dX12_isTried_3 hl (by decide) rfl (fun ls hl => ?_)
  exact L_5 fu _ _ _ _ _ _ _ _ hf (lv_sub hl [2, 3, 4, 1, 0] rfl) hw
noncomputable def fX12_sends (fu : Nat) (x1 : Int32) (x2 : Int32) (S : St) : Option (St × Int32) :=
  if (S.1 63 65) = (40 : Int32) then
    sI 63 63 (3 : Int32) S fun S_11 =>
    some (S_11, (0 : Int32))
  else
    gd (ck x1 4) <|
    gd (ck (((64 : Int32) * x1) + (S.1 102 (x1).toNatClampNeg)) 256) <|
    sI 101 ((((64 : Int32) * x1) + (S.1 102 (x1).toNatClampNeg))).toNatClampNeg x2 S fun S_31 =>
    gd (ck x1 4) <|
    gd (ck x1 4) <|
    sI 102 (x1).toNatClampNeg ((S_31.1 102 (x1).toNatClampNeg) + (1 : Int32)) S_31 fun S_41 =>
    sI 63 67 (1 : Int32) S_41 fun S_44 =>
    sI 63 68 x2 S_44 fun S_49 =>
    sI 63 69 (S_49.1 63 64) S_49 fun S_57 =>
    sI 63 64 (((S_57.1 63 64) + (1 : Int32)) &&& (65535 : Int32)) S_57 fun S_71 =>
    sI 63 65 ((S_71.1 63 65) + (1 : Int32)) S_71 fun S_81 =>
    sI 63 66 ((S_81.1 63 66) + (1 : Int32)) S_81 fun S_91 =>
    some (S_91, (0 : Int32))
theorem mvX12_sends : MV yX12_sends cX12_sends 3 none RX12 2 := ⟨gw8_203, gw8_202, gs_88, gw1_13, by decide +kernel⟩
def rmX12_sends : Room := { frames := 0, cells := 0, slots := 0, locals := 0 }
set_option maxHeartbeats 4000000 in
set_option maxRecDepth 100000 in
theorem m_X12_sends (l : Launch) (D : va_G) (cA : FieldType → ClassId) (ad : Nat → Nat) (base : Nat) (fu : Nat) {S S' : St} {x1 : Int32} {x2 : Int32} {r : Int32} (hf : fX12_sends fu x1 x2 S = some (S', r)) : Met l yX12_sends (GC yX12_sends cX12_sends 3 none) rmX12_sends (va_Pc [.ref (ad 63), .int x1, .int x2] (wd D cA ad base S)) (QV D cA ad base S') 0 0 (aB base) := by
  refine Met.ofW (cc := cX12_sends) (maxL := 3) (ret := none) (by decide) rfl ?_
  intro p e s m args below meth c s₁ B hml hv
  obtain ⟨hargs, hwd⟩ := hv
  have hr := B.returns
  have hlocks := B.notSynchronized
  obtain ⟨C, hw⟩ := CX.of (own := RX12) rfl B hml hwd
  have hx := C.1
  have hb := C.2.1
  have hl := lv_entry ([.ref (ad 63), .int x1, .int x2]) (n := 3) (Nat.le_of_ble_eq_true rfl)
  rw [show entryFrame m args 3 = entryFrame m ([.ref (ad 63), .int x1, .int x2] : List Value).toArray 3 from by rw [hargs], lg_entry_eq]
  generalize (lg_sl ([.ref (ad 63), .int x1, .int x2]) ++ List.replicate (3 - (lg_sl ([.ref (ad 63), .int x1, .int x2])).length) Slot.unset).toArray = ls at hl ⊢
  have hl : lv_has ls 3 [(0, .ref (ad 63)), (1, .int x1), (2, .int x2)] := hl
  show W p l e rmX12_sends s m args below meth c s.heap [] 0 0 _ _
  refine lv_aload_n hx hb dX12_sends_0 rfl (lv_at hl 0 rfl) ?_
  refine r_getI C hw (k := 65) dq_63 ln_63 rfl vc_12 inX12 (by decide) rfl gw7_6 dX12_sends_1 ?_
  refine lv_bipush (v := (40 : Int32)) hx hb dX12_sends_4 (by decide) ?_
  refine lv_icmp_ne (tgt := 15) hx hb dX12_sends_6 (by decide) (fun c_6 => ?_) (fun c_6 => ?_)
  · have hf := if_f hf c_6
    refine lv_aload_n hx hb dX12_sends_15 rfl (lv_at hl 0 rfl) ?_
    refine r_getR C hw (k := 59) (r := 101) dq_63 ln_63 rfl vc_12 inX12 (by decide) rfl gw7_0 dX12_sends_16 ?_
    refine lv_bipush (v := (64 : Int32)) hx hb dX12_sends_19 (by decide) ?_
    refine lv_iload_n hx hb dX12_sends_21 rfl (lv_at hl 1 rfl) ?_
    refine lv_imul hx hb dX12_sends_22 ?_
    refine lv_aload_n hx hb dX12_sends_23 rfl (lv_at hl 0 rfl) ?_
    refine r_getR C hw (k := 60) (r := 102) dq_63 ln_63 rfl vc_12 inX12 (by decide) rfl gw7_1 dX12_sends_24 ?_
    refine lv_iload_n hx hb dX12_sends_27 rfl (lv_at hl 1 rfl) ?_
    obtain ⟨z_28, hf⟩ := gd_some hf
    refine r_iald C hw (x := 102) dq_102 ln_102 z_28 dX12_sends_28 ?_
    refine lv_iadd hx hb dX12_sends_29 ?_
    refine lv_iload_n hx hb dX12_sends_30 rfl (lv_at hl 2 rfl) ?_
    obtain ⟨z_31, hf⟩ := gd_some hf
    obtain ⟨S_31, e_31, hf⟩ := sI_some hf
    refine r_iast C hw (x := 101) dq_101 ln_101 z_31 dX12_sends_31 e_31 (fun H locs hw => ?_)
    refine lv_aload_n hx hb dX12_sends_32 rfl (lv_at hl 0 rfl) ?_
    refine r_getR C hw (k := 60) (r := 102) dq_63 ln_63 rfl vc_12 inX12 (by decide) rfl gw7_1 dX12_sends_33 ?_
    refine lv_iload_n hx hb dX12_sends_36 rfl (lv_at hl 1 rfl) ?_
    refine lv_dup2_11 hx hb dX12_sends_37 rfl rfl ?_
    obtain ⟨z_38, hf⟩ := gd_some hf
    refine r_iald C hw (x := 102) dq_102 ln_102 z_38 dX12_sends_38 ?_
    refine lv_iconst (v := (1 : Int32)) hx hb dX12_sends_39 (by decide) ?_
    refine lv_iadd hx hb dX12_sends_40 ?_
    obtain ⟨z_41, hf⟩ := gd_some hf
    obtain ⟨S_41, e_41, hf⟩ := sI_some hf
    refine r_iast C hw (x := 102) dq_102 ln_102 z_41 dX12_sends_41 e_41 (fun H locs hw => ?_)
    refine lv_aload_n hx hb dX12_sends_42 rfl (lv_at hl 0 rfl) ?_
    refine lv_iconst (v := (1 : Int32)) hx hb dX12_sends_43 (by decide) ?_
    obtain ⟨S_44, e_44, hf⟩ := sI_some hf
    refine r_putI C hw (k := 67) (ty0 := tyX12) dq_63 ln_63 rfl vc_12 inX12 tyX12_ok nmX12 (by decide) rfl rfl gw7_8 rfl rfl dX12_sends_44 e_44 (fun H locs hw => ?_)
    refine lv_aload_n hx hb dX12_sends_47 rfl (lv_at hl 0 rfl) ?_
    refine lv_iload_n hx hb dX12_sends_48 rfl (lv_at hl 2 rfl) ?_
    obtain ⟨S_49, e_49, hf⟩ := sI_some hf
    refine r_putI C hw (k := 68) (ty0 := tyX12) dq_63 ln_63 rfl vc_12 inX12 tyX12_ok nmX12 (by decide) rfl rfl gw7_9 rfl rfl dX12_sends_49 e_49 (fun H locs hw => ?_)
    refine lv_aload_n hx hb dX12_sends_52 rfl (lv_at hl 0 rfl) ?_
    refine lv_aload_n hx hb dX12_sends_53 rfl (lv_at hl 0 rfl) ?_
    refine r_getI C hw (k := 64) dq_63 ln_63 rfl vc_12 inX12 (by decide) rfl gw7_5 dX12_sends_54 ?_
    obtain ⟨S_57, e_57, hf⟩ := sI_some hf
    refine r_putI C hw (k := 69) (ty0 := tyX12) dq_63 ln_63 rfl vc_12 inX12 tyX12_ok nmX12 (by decide) rfl rfl gw7_10 rfl rfl dX12_sends_57 e_57 (fun H locs hw => ?_)
    refine lv_aload_n hx hb dX12_sends_60 rfl (lv_at hl 0 rfl) ?_
    refine lv_aload_n hx hb dX12_sends_61 rfl (lv_at hl 0 rfl) ?_
    refine r_getI C hw (k := 64) dq_63 ln_63 rfl vc_12 inX12 (by decide) rfl gw7_5 dX12_sends_62 ?_
    refine lv_iconst (v := (1 : Int32)) hx hb dX12_sends_65 (by decide) ?_
    refine lv_iadd hx hb dX12_sends_66 ?_
    refine lv_ldcw hx hb C.2.2.2.1 (C.2.2.2.2.1 _ (gw_of gw8_204 rfl)) dX12_sends_67 ?_
    refine lv_iand hx hb dX12_sends_70 ?_
    obtain ⟨S_71, e_71, hf⟩ := sI_some hf
    refine r_putI C hw (k := 64) (ty0 := tyX12) dq_63 ln_63 rfl vc_12 inX12 tyX12_ok nmX12 (by decide) rfl rfl gw7_5 rfl rfl dX12_sends_71 e_71 (fun H locs hw => ?_)
    refine lv_aload_n hx hb dX12_sends_74 rfl (lv_at hl 0 rfl) ?_
    refine lv_dup hx hb dX12_sends_75 rfl ?_
    refine r_getI C hw (k := 65) dq_63 ln_63 rfl vc_12 inX12 (by decide) rfl gw7_6 dX12_sends_76 ?_
    refine lv_iconst (v := (1 : Int32)) hx hb dX12_sends_79 (by decide) ?_
    refine lv_iadd hx hb dX12_sends_80 ?_
    obtain ⟨S_81, e_81, hf⟩ := sI_some hf
    refine r_putI C hw (k := 65) (ty0 := tyX12) dq_63 ln_63 rfl vc_12 inX12 tyX12_ok nmX12 (by decide) rfl rfl gw7_6 rfl rfl dX12_sends_81 e_81 (fun H locs hw => ?_)
    refine lv_aload_n hx hb dX12_sends_84 rfl (lv_at hl 0 rfl) ?_
    refine lv_dup hx hb dX12_sends_85 rfl ?_
    refine r_getI C hw (k := 66) dq_63 ln_63 rfl vc_12 inX12 (by decide) rfl gw7_7 dX12_sends_86 ?_
    refine lv_iconst (v := (1 : Int32)) hx hb dX12_sends_89 (by decide) ?_
    refine lv_iadd hx hb dX12_sends_90 ?_
    obtain ⟨S_91, e_91, hf⟩ := sI_some hf
    refine r_putI C hw (k := 66) (ty0 := tyX12) dq_63 ln_63 rfl vc_12 inX12 tyX12_ok nmX12 (by decide) rfl rfl gw7_7 rfl rfl dX12_sends_91 e_91 (fun H locs hw => ?_)
    exact r_vret C hw hr hlocks hf dX12_sends_94
  · have hf := if_t hf c_6
    refine lv_aload_n hx hb dX12_sends_9 rfl (lv_at hl 0 rfl) ?_
    refine lv_iconst (v := (3 : Int32)) hx hb dX12_sends_10 (by decide) ?_
    obtain ⟨S_11, e_11, hf⟩ := sI_some hf
    refine r_putI C hw (k := 63) (ty0 := tyX12) dq_63 ln_63 rfl vc_12 inX12 tyX12_ok nmX12 (by decide) rfl rfl gw7_4 rfl rfl dX12_sends_11 e_11 (fun H locs hw => ?_)
    exact r_vret C hw hr hlocks hf dX12_sends_14
noncomputable def fX12_tries_152 (fu : Nat) (k_54 : Int32 → Int32 → Int32 → St → Option (St × Int32)) (x1 : Int32) (x2 : Int32) (x3 : Int32) (S : St) : Option (St × Int32) :=
  k_54 x1 x2 (x3 + (1 : Int32)) S
noncomputable def fX12_tries_85 (fu : Nat) (k_54 : Int32 → Int32 → Int32 → St → Option (St × Int32)) (n : Nat) : Int32 → Int32 → Int32 → Int32 → Int32 → St → Option (St × Int32) :=
  Nat.rec (motive := fun _ => Int32 → Int32 → Int32 → Int32 → Int32 → St → Option (St × Int32)) (fun _ _ _ _ _ _ => none) (fun _ k_85 x1 x2 x3 x4 x5 S =>
    if x4 < 0 then
      fX12_tries_152 fu k_54 x1 x2 x3 S
    else
      gd (ck x4 100) <|
      if (S.1 93 (x4).toNatClampNeg) ≤ x5 then
        fX12_tries_152 fu k_54 x1 x2 x3 S
      else
        gd (ck (((10 : Int32) * x4) + x5) 1000) <|
        bd (fX12_isTried fu x1 (S.1 94 ((((10 : Int32) * x4) + x5)).toNatClampNeg) S) fun S_117 r_117 =>
        if r_117 = 0 then
          gd (ck (((10 : Int32) * x4) + x5) 1000) <|
          bd (fX12_sends fu x1 (S_117.1 94 ((((10 : Int32) * x4) + x5)).toNatClampNeg) S_117) fun S_141 _ =>
          some (S_141, (1 : Int32))
        else
          k_85 x1 x2 x3 x4 (x5 + (1 : Int32)) S_117) n
theorem fX12_tries_85_s (fu : Nat) (k_54 : Int32 → Int32 → Int32 → St → Option (St × Int32)) (n : Nat) (x1 : Int32) (x2 : Int32) (x3 : Int32) (x4 : Int32) (x5 : Int32) (S : St) : fX12_tries_85 fu k_54 (n + 1) x1 x2 x3 x4 x5 S = (
    if x4 < 0 then
      fX12_tries_152 fu k_54 x1 x2 x3 S
    else
      gd (ck x4 100) <|
      if (S.1 93 (x4).toNatClampNeg) ≤ x5 then
        fX12_tries_152 fu k_54 x1 x2 x3 S
      else
        gd (ck (((10 : Int32) * x4) + x5) 1000) <|
        bd (fX12_isTried fu x1 (S.1 94 ((((10 : Int32) * x4) + x5)).toNatClampNeg) S) fun S_117 r_117 =>
        if r_117 = 0 then
          gd (ck (((10 : Int32) * x4) + x5) 1000) <|
          bd (fX12_sends fu x1 (S_117.1 94 ((((10 : Int32) * x4) + x5)).toNatClampNeg) S_117) fun S_141 _ =>
          some (S_141, (1 : Int32))
        else
          (fX12_tries_85 fu k_54 n) x1 x2 x3 x4 (x5 + (1 : Int32)) S_117) := rfl
noncomputable def fX12_tries_54 (fu : Nat) (n : Nat) : Int32 → Int32 → Int32 → St → Option (St × Int32) :=
  Nat.rec (motive := fun _ => Int32 → Int32 → Int32 → St → Option (St × Int32)) (fun _ _ _ _ => none) (fun _ k_54 x1 x2 x3 S =>
    gd (ck x2 100) <|
    if (S.1 93 (x2).toNatClampNeg) ≤ x3 then
      some (S, (0 : Int32))
    else
      gd (ck (((10 : Int32) * x2) + x3) 1000) <|
      bd (fX12_set fu (S.1 94 ((((10 : Int32) * x2) + x3)).toNatClampNeg) (1 : Int32) S) fun S_77 r_77 =>
      fX12_tries_85 fu k_54 fu x1 x2 x3 r_77 (0 : Int32) S_77) n
theorem fX12_tries_54_s (fu : Nat) (n : Nat) (x1 : Int32) (x2 : Int32) (x3 : Int32) (S : St) : fX12_tries_54 fu (n + 1) x1 x2 x3 S = (
    gd (ck x2 100) <|
    if (S.1 93 (x2).toNatClampNeg) ≤ x3 then
      some (S, (0 : Int32))
    else
      gd (ck (((10 : Int32) * x2) + x3) 1000) <|
      bd (fX12_set fu (S.1 94 ((((10 : Int32) * x2) + x3)).toNatClampNeg) (1 : Int32) S) fun S_77 r_77 =>
      fX12_tries_85 fu (fX12_tries_54 fu n) fu x1 x2 x3 r_77 (0 : Int32) S_77) := rfl
noncomputable def fX12_tries_6 (fu : Nat) (n : Nat) : Int32 → Int32 → St → Option (St × Int32) :=
  Nat.rec (motive := fun _ => Int32 → Int32 → St → Option (St × Int32)) (fun _ _ _ => none) (fun _ k_6 x1 x3 S =>
    if (S.1 63 25) ≤ x3 then
      some (S, (0 : Int32))
    else
      gd (ck x3 4) <|
      bd (fX12_isTried fu x1 (S.1 81 (x3).toNatClampNeg) S) fun S_22 r_22 =>
      if r_22 = 0 then
        gd (ck x3 4) <|
        bd (fX12_sends fu x1 (S_22.1 81 (x3).toNatClampNeg) S_22) fun S_39 _ =>
        some (S_39, (1 : Int32))
      else
        k_6 x1 (x3 + (1 : Int32)) S_22) n
theorem fX12_tries_6_s (fu : Nat) (n : Nat) (x1 : Int32) (x3 : Int32) (S : St) : fX12_tries_6 fu (n + 1) x1 x3 S = (
    if (S.1 63 25) ≤ x3 then
      some (S, (0 : Int32))
    else
      gd (ck x3 4) <|
      bd (fX12_isTried fu x1 (S.1 81 (x3).toNatClampNeg) S) fun S_22 r_22 =>
      if r_22 = 0 then
        gd (ck x3 4) <|
        bd (fX12_sends fu x1 (S_22.1 81 (x3).toNatClampNeg) S_22) fun S_39 _ =>
        some (S_39, (1 : Int32))
      else
        (fX12_tries_6 fu n) x1 (x3 + (1 : Int32)) S_22) := rfl
noncomputable def fX12_tries (fu : Nat) (x1 : Int32) (x2 : Int32) (S : St) : Option (St × Int32) :=
  if 0 ≤ x2 then
    fX12_tries_54 fu fu x1 x2 (0 : Int32) S
  else
    fX12_tries_6 fu fu x1 (0 : Int32) S
theorem mvX12_tries : MV yX12_tries cX12_tries 6 (some .boolean) RX12 2 := ⟨gw8_195, gw8_194, gs_86, gw1_13, by decide +kernel⟩
def rmX12_tries : Room := { frames := 2, cells := 0, slots := 0, locals := 47 }
set_option maxHeartbeats 4000000 in
set_option maxRecDepth 100000 in
theorem m_X12_tries (l : Launch) (D : va_G) (cA : FieldType → ClassId) (ad : Nat → Nat) (base : Nat) (fu : Nat) {S S' : St} {x1 : Int32} {x2 : Int32} {r : Int32} (hf : fX12_tries fu x1 x2 S = some (S', r)) : Met l yX12_tries (GC yX12_tries cX12_tries 6 (some .boolean)) rmX12_tries (va_Pc [.ref (ad 63), .int x1, .int x2] (wd D cA ad base S)) (QI D cA ad base S' r) 0 0 (aB base) := by
  refine Met.ofW (cc := cX12_tries) (maxL := 6) (ret := (some .boolean)) (by decide) rfl ?_
  intro p e s m args below meth c s₁ B hml hv
  obtain ⟨hargs, hwd⟩ := hv
  have hr := B.returns
  have hlocks := B.notSynchronized
  obtain ⟨C, hw⟩ := CX.of (own := RX12) rfl B hml hwd
  have hx := C.1
  have hb := C.2.1
  have hl := lv_entry ([.ref (ad 63), .int x1, .int x2]) (n := 6) (Nat.le_of_ble_eq_true rfl)
  rw [show entryFrame m args 6 = entryFrame m ([.ref (ad 63), .int x1, .int x2] : List Value).toArray 6 from by rw [hargs], lg_entry_eq]
  generalize (lg_sl ([.ref (ad 63), .int x1, .int x2]) ++ List.replicate (6 - (lg_sl ([.ref (ad 63), .int x1, .int x2])).length) Slot.unset).toArray = ls at hl ⊢
  have hl : lv_has ls 6 [(0, .ref (ad 63)), (1, .int x1), (2, .int x2)] := hl
  have L_54 : ∀ (n_54 : Nat) (x1 : Int32) (x2 : Int32) (x3 : Int32) (S : St) (H : Heap) (locs : List Loc) (ls : Array Slot), fX12_tries_54 fu n_54 x1 x2 x3 S = some (S', r) → lv_has ls 6 [(0, .ref (ad 63)), (1, .int x1), (2, .int x2), (3, .int x3)] → WS D cA ad base s S H locs → W p l e rmX12_tries s m args below meth c H locs 0 0 (MQ below (QI D cA ad base S' r) args s 0 0 (aB base)) (F0 m 54 ls []) := by
    intro n_54
    induction n_54 with
    | zero =>
      intro x1 x2 x3 S H locs ls hf hl hw
      exact (no_none hf).elim
    | succ n_54 ih_54 =>
      have J_152 : ∀ (x1 : Int32) (x2 : Int32) (x3 : Int32) (S : St) (H : Heap) (locs : List Loc) (ls : Array Slot), fX12_tries_152 fu (fX12_tries_54 fu n_54) x1 x2 x3 S = some (S', r) → lv_has ls 6 [(0, .ref (ad 63)), (1, .int x1), (2, .int x2), (3, .int x3)] → WS D cA ad base s S H locs → W p l e rmX12_tries s m args below meth c H locs 0 0 (MQ below (QI D cA ad base S' r) args s 0 0 (aB base)) (F0 m 152 ls []) := by
        intro x1 x2 x3 S H locs ls hf hl hw
        refine lv_iinc (v := (x3 + (1 : Int32))) (lv' := [(3, .int (x3 + (1 : Int32))), (0, .ref (ad 63)), (1, .int x1), (2, .int x2)]) hx hb dX12_tries_152 hl (k := 3) rfl rfl (by decide) rfl (fun ls hl => ?_)
        refine lv_goto (tgt := 54) hx hb dX12_tries_155 (by decide) ?_
        exact ih_54 _ _ _ _ _ _ _ hf (lv_sub hl [1, 2, 3, 0] rfl) hw
      have L_85 : ∀ (n_85 : Nat) (x1 : Int32) (x2 : Int32) (x3 : Int32) (x4 : Int32) (x5 : Int32) (S : St) (H : Heap) (locs : List Loc) (ls : Array Slot), fX12_tries_85 fu (fX12_tries_54 fu n_54) n_85 x1 x2 x3 x4 x5 S = some (S', r) → lv_has ls 6 [(0, .ref (ad 63)), (1, .int x1), (2, .int x2), (3, .int x3), (4, .int x4), (5, .int x5)] → WS D cA ad base s S H locs → W p l e rmX12_tries s m args below meth c H locs 0 0 (MQ below (QI D cA ad base S' r) args s 0 0 (aB base)) (F0 m 85 ls []) := by
        intro n_85
        induction n_85 with
        | zero =>
          intro x1 x2 x3 x4 x5 S H locs ls hf hl hw
          exact (no_none hf).elim
        | succ n_85 ih_85 =>
          intro x1 x2 x3 x4 x5 S H locs ls hf hl hw
          rw [fX12_tries_85_s] at hf
          refine lv_iload hx hb dX12_tries_85 (lv_at hl 4 rfl) ?_
          refine lv_if_lt (tgt := 152) hx hb dX12_tries_87 (by decide) (fun c_87 => ?_) (fun c_87 => ?_)
          · have hf := if_t hf c_87
            exact J_152 _ _ _ _ _ _ _ hf (lv_sub hl [0, 1, 2, 3] rfl) hw
          · have hf := if_f hf c_87
            refine lv_iload hx hb dX12_tries_90 (lv_at hl 5 rfl) ?_
            refine lv_aload_n hx hb dX12_tries_92 rfl (lv_at hl 0 rfl) ?_
            refine r_getR C hw (k := 47) (r := 93) dq_63 ln_63 rfl vc_12 inX12 (by decide) rfl gw6_228 dX12_tries_93 ?_
            refine lv_iload hx hb dX12_tries_96 (lv_at hl 4 rfl) ?_
            obtain ⟨z_98, hf⟩ := gd_some hf
            refine r_iald C hw (x := 93) dq_93 ln_93 z_98 dX12_tries_98 ?_
            refine lv_icmp_ge (tgt := 152) hx hb dX12_tries_99 (by decide) (fun c_99 => ?_) (fun c_99 => ?_)
            · have hf := if_t hf c_99
              exact J_152 _ _ _ _ _ _ _ hf (lv_sub hl [0, 1, 2, 3] rfl) hw
            · have hf := if_f hf c_99
              refine lv_aload_n hx hb dX12_tries_102 rfl (lv_at hl 0 rfl) ?_
              refine lv_iload_n hx hb dX12_tries_103 rfl (lv_at hl 1 rfl) ?_
              refine lv_aload_n hx hb dX12_tries_104 rfl (lv_at hl 0 rfl) ?_
              refine r_getR C hw (k := 48) (r := 94) dq_63 ln_63 rfl vc_12 inX12 (by decide) rfl gw6_229 dX12_tries_105 ?_
              refine lv_bipush (v := (10 : Int32)) hx hb dX12_tries_108 (by decide) ?_
              refine lv_iload hx hb dX12_tries_110 (lv_at hl 4 rfl) ?_
              refine lv_imul hx hb dX12_tries_112 ?_
              refine lv_iload hx hb dX12_tries_113 (lv_at hl 5 rfl) ?_
              refine lv_iadd hx hb dX12_tries_115 ?_
              obtain ⟨z_116, hf⟩ := gd_some hf
              refine r_iald C hw (x := 94) dq_94 ln_94 z_116 dX12_tries_116 ?_
              obtain ⟨S_117, r_117, h_117, hf⟩ := bd_some hf
              refine r_bi hw (r_runV (rest := []) C hw (m_X12_isTried l D cA ad base fu h_117) mvX12_isTried gw8_196 ⟨rfl, rfl, Nat.le_of_ble_eq_true rfl, Nat.le_of_ble_eq_true rfl⟩ dq_63 ln_63 vc_12 rfl hl.1 rfl (Nat.le_of_ble_eq_true rfl) dX12_tries_117 (Nat.zero_le _) (Nat.zero_le _)) (fun H locs hw => ?_)
              refine lv_if_eq (tgt := 126) hx hb dX12_tries_120 (by decide) (fun c_120 => ?_) (fun c_120 => ?_)
              · have hf := if_t hf c_120
                refine lv_aload_n hx hb dX12_tries_126 rfl (lv_at hl 0 rfl) ?_
                refine lv_iload_n hx hb dX12_tries_127 rfl (lv_at hl 1 rfl) ?_
                refine lv_aload_n hx hb dX12_tries_128 rfl (lv_at hl 0 rfl) ?_
                refine r_getR C hw (k := 48) (r := 94) dq_63 ln_63 rfl vc_12 inX12 (by decide) rfl gw6_229 dX12_tries_129 ?_
                refine lv_bipush (v := (10 : Int32)) hx hb dX12_tries_132 (by decide) ?_
                refine lv_iload hx hb dX12_tries_134 (lv_at hl 4 rfl) ?_
                refine lv_imul hx hb dX12_tries_136 ?_
                refine lv_iload hx hb dX12_tries_137 (lv_at hl 5 rfl) ?_
                refine lv_iadd hx hb dX12_tries_139 ?_
                obtain ⟨z_140, hf⟩ := gd_some hf
                refine r_iald C hw (x := 94) dq_94 ln_94 z_140 dX12_tries_140 ?_
                obtain ⟨S_141, r_141, h_141, hf⟩ := bd_some hf
                refine r_bv hw (r_runV (rest := []) C hw (m_X12_sends l D cA ad base fu h_141) mvX12_sends gw8_200 ⟨rfl, rfl, Nat.le_of_ble_eq_true rfl, Nat.le_of_ble_eq_true rfl⟩ dq_63 ln_63 vc_12 rfl hl.1 rfl (Nat.le_of_ble_eq_true rfl) dX12_tries_141 (Nat.zero_le _) (Nat.zero_le _)) (fun H locs hw => ?_)
                refine lv_iconst (v := (1 : Int32)) hx hb dX12_tries_144 (by decide) ?_
                exact r_zret C hw hr hlocks rfl hf dX12_tries_145
              · have hf := if_f hf c_120
                refine lv_goto (tgt := 146) hx hb dX12_tries_123 (by decide) ?_
                refine lv_iinc (v := (x5 + (1 : Int32))) (lv' := [(5, .int (x5 + (1 : Int32))), (0, .ref (ad 63)), (1, .int x1), (2, .int x2), (3, .int x3), (4, .int x4)]) hx hb dX12_tries_146 hl (k := 5) rfl rfl (by decide) rfl (fun ls hl => ?_)
                refine lv_goto (tgt := 85) hx hb dX12_tries_149 (by decide) ?_
                exact ih_85 _ _ _ _ _ _ _ _ _ hf (lv_sub hl [1, 2, 3, 4, 5, 0] rfl) hw
      intro x1 x2 x3 S H locs ls hf hl hw
      rw [fX12_tries_54_s] at hf
      refine lv_iload_n hx hb dX12_tries_54 rfl (lv_at hl 3 rfl) ?_
      refine lv_aload_n hx hb dX12_tries_55 rfl (lv_at hl 0 rfl) ?_
      refine r_getR C hw (k := 47) (r := 93) dq_63 ln_63 rfl vc_12 inX12 (by decide) rfl gw6_228 dX12_tries_56 ?_
      refine lv_iload_n hx hb dX12_tries_59 rfl (lv_at hl 2 rfl) ?_
      obtain ⟨z_60, hf⟩ := gd_some hf
      refine r_iald C hw (x := 93) dq_93 ln_93 z_60 dX12_tries_60 ?_
      refine lv_icmp_ge (tgt := 158) hx hb dX12_tries_61 (by decide) (fun c_61 => ?_) (fun c_61 => ?_)
      · have hf := if_t hf c_61
        refine lv_iconst (v := (0 : Int32)) hx hb dX12_tries_158 (by decide) ?_
        exact r_zret C hw hr hlocks rfl hf dX12_tries_159
      · have hf := if_f hf c_61
        refine lv_aload_n hx hb dX12_tries_64 rfl (lv_at hl 0 rfl) ?_
        refine lv_aload_n hx hb dX12_tries_65 rfl (lv_at hl 0 rfl) ?_
        refine r_getR C hw (k := 48) (r := 94) dq_63 ln_63 rfl vc_12 inX12 (by decide) rfl gw6_229 dX12_tries_66 ?_
        refine lv_bipush (v := (10 : Int32)) hx hb dX12_tries_69 (by decide) ?_
        refine lv_iload_n hx hb dX12_tries_71 rfl (lv_at hl 2 rfl) ?_
        refine lv_imul hx hb dX12_tries_72 ?_
        refine lv_iload_n hx hb dX12_tries_73 rfl (lv_at hl 3 rfl) ?_
        refine lv_iadd hx hb dX12_tries_74 ?_
        obtain ⟨z_75, hf⟩ := gd_some hf
        refine r_iald C hw (x := 94) dq_94 ln_94 z_75 dX12_tries_75 ?_
        refine lv_iconst (v := (1 : Int32)) hx hb dX12_tries_76 (by decide) ?_
        obtain ⟨S_77, r_77, h_77, hf⟩ := bd_some hf
        refine r_bi hw (r_runV (rest := []) C hw (m_X12_set l D cA ad base fu h_77) mvX12_set gw8_180 ⟨rfl, rfl, Nat.le_of_ble_eq_true rfl, Nat.le_of_ble_eq_true rfl⟩ dq_63 ln_63 vc_12 rfl hl.1 rfl (Nat.le_of_ble_eq_true rfl) dX12_tries_77 (Nat.zero_le _) (Nat.zero_le _)) (fun H locs hw => ?_)
        refine lv_istore (lv' := [(4, .int r_77), (0, .ref (ad 63)), (1, .int x1), (2, .int x2), (3, .int x3)]) hx hb dX12_tries_80 hl (by decide) rfl (fun ls hl => ?_)
        refine lv_iconst (v := (0 : Int32)) hx hb dX12_tries_82 (by decide) ?_
        refine lv_istore (lv' := [(5, .int (0 : Int32)), (4, .int r_77), (0, .ref (ad 63)), (1, .int x1), (2, .int x2), (3, .int x3)]) hx hb dX12_tries_83 hl (by decide) rfl (fun ls hl => ?_)
        exact L_85 fu _ _ _ _ _ _ _ _ _ hf (lv_sub hl [2, 3, 4, 5, 1, 0] rfl) hw
  have L_6 : ∀ (n_6 : Nat) (x1 : Int32) (x3 : Int32) (S : St) (H : Heap) (locs : List Loc) (ls : Array Slot), fX12_tries_6 fu n_6 x1 x3 S = some (S', r) → lv_has ls 6 [(0, .ref (ad 63)), (1, .int x1), (3, .int x3)] → WS D cA ad base s S H locs → W p l e rmX12_tries s m args below meth c H locs 0 0 (MQ below (QI D cA ad base S' r) args s 0 0 (aB base)) (F0 m 6 ls []) := by
    intro n_6
    induction n_6 with
    | zero =>
      intro x1 x3 S H locs ls hf hl hw
      exact (no_none hf).elim
    | succ n_6 ih_6 =>
      intro x1 x3 S H locs ls hf hl hw
      rw [fX12_tries_6_s] at hf
      refine lv_iload_n hx hb dX12_tries_6 rfl (lv_at hl 2 rfl) ?_
      refine lv_aload_n hx hb dX12_tries_7 rfl (lv_at hl 0 rfl) ?_
      refine r_getI C hw (k := 25) dq_63 ln_63 rfl vc_12 inX12 (by decide) rfl gw6_206 dX12_tries_8 ?_
      refine lv_icmp_ge (tgt := 50) hx hb dX12_tries_11 (by decide) (fun c_11 => ?_) (fun c_11 => ?_)
      · have hf := if_t hf c_11
        refine lv_iconst (v := (0 : Int32)) hx hb dX12_tries_50 (by decide) ?_
        exact r_zret C hw hr hlocks rfl hf dX12_tries_51
      · have hf := if_f hf c_11
        refine lv_aload_n hx hb dX12_tries_14 rfl (lv_at hl 0 rfl) ?_
        refine lv_iload_n hx hb dX12_tries_15 rfl (lv_at hl 1 rfl) ?_
        refine lv_aload_n hx hb dX12_tries_16 rfl (lv_at hl 0 rfl) ?_
        refine r_getR C hw (k := 24) (r := 81) dq_63 ln_63 rfl vc_12 inX12 (by decide) rfl gw6_205 dX12_tries_17 ?_
        refine lv_iload_n hx hb dX12_tries_20 rfl (lv_at hl 2 rfl) ?_
        obtain ⟨z_21, hf⟩ := gd_some hf
        refine r_iald C hw (x := 81) dq_81 ln_81 z_21 dX12_tries_21 ?_
        obtain ⟨S_22, r_22, h_22, hf⟩ := bd_some hf
        refine r_bi hw (r_runV (rest := []) C hw (m_X12_isTried l D cA ad base fu h_22) mvX12_isTried gw8_196 ⟨rfl, rfl, Nat.le_of_ble_eq_true rfl, Nat.le_of_ble_eq_true rfl⟩ dq_63 ln_63 vc_12 rfl hl.1 rfl (Nat.le_of_ble_eq_true rfl) dX12_tries_22 (Nat.zero_le _) (Nat.zero_le _)) (fun H locs hw => ?_)
        refine lv_if_eq (tgt := 31) hx hb dX12_tries_25 (by decide) (fun c_25 => ?_) (fun c_25 => ?_)
        · have hf := if_t hf c_25
          refine lv_aload_n hx hb dX12_tries_31 rfl (lv_at hl 0 rfl) ?_
          refine lv_iload_n hx hb dX12_tries_32 rfl (lv_at hl 1 rfl) ?_
          refine lv_aload_n hx hb dX12_tries_33 rfl (lv_at hl 0 rfl) ?_
          refine r_getR C hw (k := 24) (r := 81) dq_63 ln_63 rfl vc_12 inX12 (by decide) rfl gw6_205 dX12_tries_34 ?_
          refine lv_iload_n hx hb dX12_tries_37 rfl (lv_at hl 2 rfl) ?_
          obtain ⟨z_38, hf⟩ := gd_some hf
          refine r_iald C hw (x := 81) dq_81 ln_81 z_38 dX12_tries_38 ?_
          obtain ⟨S_39, r_39, h_39, hf⟩ := bd_some hf
          refine r_bv hw (r_runV (rest := []) C hw (m_X12_sends l D cA ad base fu h_39) mvX12_sends gw8_200 ⟨rfl, rfl, Nat.le_of_ble_eq_true rfl, Nat.le_of_ble_eq_true rfl⟩ dq_63 ln_63 vc_12 rfl hl.1 rfl (Nat.le_of_ble_eq_true rfl) dX12_tries_39 (Nat.zero_le _) (Nat.zero_le _)) (fun H locs hw => ?_)
          refine lv_iconst (v := (1 : Int32)) hx hb dX12_tries_42 (by decide) ?_
          exact r_zret C hw hr hlocks rfl hf dX12_tries_43
        · have hf := if_f hf c_25
          refine lv_goto (tgt := 44) hx hb dX12_tries_28 (by decide) ?_
          refine lv_iinc (v := (x3 + (1 : Int32))) (lv' := [(3, .int (x3 + (1 : Int32))), (0, .ref (ad 63)), (1, .int x1)]) hx hb dX12_tries_44 hl (k := 2) rfl rfl (by decide) rfl (fun ls hl => ?_)
          refine lv_goto (tgt := 6) hx hb dX12_tries_47 (by decide) ?_
          exact ih_6 _ _ _ _ _ _ hf (lv_sub hl [1, 2, 0] rfl) hw
  show W p l e rmX12_tries s m args below meth c s.heap [] 0 0 _ _
  refine lv_iload_n hx hb dX12_tries_0 rfl (lv_at hl 2 rfl) ?_
  refine lv_if_ge (tgt := 52) hx hb dX12_tries_1 (by decide) (fun c_1 => ?_) (fun c_1 => ?_)
  · have hf := if_t hf c_1
    refine lv_iconst (v := (0 : Int32)) hx hb dX12_tries_52 (by decide) ?_
    refine lv_istore_n (lv' := [(3, .int (0 : Int32)), (0, .ref (ad 63)), (1, .int x1), (2, .int x2)]) hx hb dX12_tries_53 rfl hl (by decide) rfl (fun ls hl => ?_)
    exact L_54 fu _ _ _ _ _ _ _ hf (lv_sub hl [1, 2, 3, 0] rfl) hw
  · have hf := if_f hf c_1
    refine lv_iconst (v := (0 : Int32)) hx hb dX12_tries_4 (by decide) ?_
    refine lv_istore_n (lv' := [(3, .int (0 : Int32)), (0, .ref (ad 63)), (1, .int x1), (2, .int x2)]) hx hb dX12_tries_5 rfl hl (by decide) rfl (fun ls hl => ?_)
    exact L_6 fu _ _ _ _ _ _ hf (lv_sub hl [1, 2, 0] rfl) hw
noncomputable def fX12_sendsFor_96 (fu : Nat) (k_2 : Int32 → Int32 → Int32 → St → Option (St × Int32)) (x1 : Int32) (x2 : Int32) (x3 : Int32) (S : St) : Option (St × Int32) :=
  k_2 x1 x2 (x3 + (1 : Int32)) S
noncomputable def fX12_sendsFor_2 (fu : Nat) (n : Nat) : Int32 → Int32 → Int32 → St → Option (St × Int32) :=
  Nat.rec (motive := fun _ => Int32 → Int32 → Int32 → St → Option (St × Int32)) (fun _ _ _ _ => none) (fun _ k_2 x1 x2 x3 S =>
    if x2 < 0 then
      some (S, (0 : Int32))
    else
      gd (ck x2 100) <|
      if (S.1 93 (x2).toNatClampNeg) ≤ x3 then
        some (S, (0 : Int32))
      else
        gd (ck (((10 : Int32) * x2) + x3) 1000) <|
        bd (fX12_set fu (S.1 94 ((((10 : Int32) * x2) + x3)).toNatClampNeg) (1 : Int32) S) fun S_33 r_33 =>
        if 0 ≤ r_33 then
          fX12_sendsFor_96 fu k_2 x1 x2 x3 S_33
        else
          gd (ck (((300 : Int32) * x1) + (S.1 94 ((((10 : Int32) * x2) + x3)).toNatClampNeg)) 1200) <|
          if (S_33.1 103 ((((300 : Int32) * x1) + (S.1 94 ((((10 : Int32) * x2) + x3)).toNatClampNeg))).toNatClampNeg) = 0 then
            if (S_33.1 63 62) = (4 : Int32) then
              bd (fX12_ends fu (3 : Int32) S_33) fun S_68 _ =>
              some (S_68, (1 : Int32))
            else
              gd (ck (((300 : Int32) * x1) + (S.1 94 ((((10 : Int32) * x2) + x3)).toNatClampNeg)) 1200) <|
              sI 103 ((((300 : Int32) * x1) + (S.1 94 ((((10 : Int32) * x2) + x3)).toNatClampNeg))).toNatClampNeg (vp_nar .boolean (1 : Int32)) S_33 fun S_86 =>
              bd (fX12_opens fu (S.1 94 ((((10 : Int32) * x2) + x3)).toNatClampNeg) (1 : Int32) S_86) fun S_91 _ =>
              some (S_91, (1 : Int32))
          else
            fX12_sendsFor_96 fu k_2 x1 x2 x3 S_33) n
theorem fX12_sendsFor_2_s (fu : Nat) (n : Nat) (x1 : Int32) (x2 : Int32) (x3 : Int32) (S : St) : fX12_sendsFor_2 fu (n + 1) x1 x2 x3 S = (
    if x2 < 0 then
      some (S, (0 : Int32))
    else
      gd (ck x2 100) <|
      if (S.1 93 (x2).toNatClampNeg) ≤ x3 then
        some (S, (0 : Int32))
      else
        gd (ck (((10 : Int32) * x2) + x3) 1000) <|
        bd (fX12_set fu (S.1 94 ((((10 : Int32) * x2) + x3)).toNatClampNeg) (1 : Int32) S) fun S_33 r_33 =>
        if 0 ≤ r_33 then
          fX12_sendsFor_96 fu (fX12_sendsFor_2 fu n) x1 x2 x3 S_33
        else
          gd (ck (((300 : Int32) * x1) + (S.1 94 ((((10 : Int32) * x2) + x3)).toNatClampNeg)) 1200) <|
          if (S_33.1 103 ((((300 : Int32) * x1) + (S.1 94 ((((10 : Int32) * x2) + x3)).toNatClampNeg))).toNatClampNeg) = 0 then
            if (S_33.1 63 62) = (4 : Int32) then
              bd (fX12_ends fu (3 : Int32) S_33) fun S_68 _ =>
              some (S_68, (1 : Int32))
            else
              gd (ck (((300 : Int32) * x1) + (S.1 94 ((((10 : Int32) * x2) + x3)).toNatClampNeg)) 1200) <|
              sI 103 ((((300 : Int32) * x1) + (S.1 94 ((((10 : Int32) * x2) + x3)).toNatClampNeg))).toNatClampNeg (vp_nar .boolean (1 : Int32)) S_33 fun S_86 =>
              bd (fX12_opens fu (S.1 94 ((((10 : Int32) * x2) + x3)).toNatClampNeg) (1 : Int32) S_86) fun S_91 _ =>
              some (S_91, (1 : Int32))
          else
            fX12_sendsFor_96 fu (fX12_sendsFor_2 fu n) x1 x2 x3 S_33) := rfl
noncomputable def fX12_sendsFor (fu : Nat) (x1 : Int32) (x2 : Int32) (S : St) : Option (St × Int32) :=
  fX12_sendsFor_2 fu fu x1 x2 (0 : Int32) S
theorem mvX12_sendsFor : MV yX12_sendsFor cX12_sendsFor 5 (some .boolean) RX12 2 := ⟨gw8_208, gw8_207, gs_89, gw1_13, by decide +kernel⟩
def rmX12_sendsFor : Room := { frames := 3, cells := 0, slots := 0, locals := 70 }
set_option maxHeartbeats 4000000 in
set_option maxRecDepth 100000 in
theorem m_X12_sendsFor (l : Launch) (D : va_G) (cA : FieldType → ClassId) (ad : Nat → Nat) (base : Nat) (fu : Nat) {S S' : St} {x1 : Int32} {x2 : Int32} {r : Int32} (hf : fX12_sendsFor fu x1 x2 S = some (S', r)) : Met l yX12_sendsFor (GC yX12_sendsFor cX12_sendsFor 5 (some .boolean)) rmX12_sendsFor (va_Pc [.ref (ad 63), .int x1, .int x2] (wd D cA ad base S)) (QI D cA ad base S' r) 0 0 (aB base) := by
  refine Met.ofW (cc := cX12_sendsFor) (maxL := 5) (ret := (some .boolean)) (by decide) rfl ?_
  intro p e s m args below meth c s₁ B hml hv
  obtain ⟨hargs, hwd⟩ := hv
  have hr := B.returns
  have hlocks := B.notSynchronized
  obtain ⟨C, hw⟩ := CX.of (own := RX12) rfl B hml hwd
  have hx := C.1
  have hb := C.2.1
  have hl := lv_entry ([.ref (ad 63), .int x1, .int x2]) (n := 5) (Nat.le_of_ble_eq_true rfl)
  rw [show entryFrame m args 5 = entryFrame m ([.ref (ad 63), .int x1, .int x2] : List Value).toArray 5 from by rw [hargs], lg_entry_eq]
  generalize (lg_sl ([.ref (ad 63), .int x1, .int x2]) ++ List.replicate (5 - (lg_sl ([.ref (ad 63), .int x1, .int x2])).length) Slot.unset).toArray = ls at hl ⊢
  have hl : lv_has ls 5 [(0, .ref (ad 63)), (1, .int x1), (2, .int x2)] := hl
  have L_2 : ∀ (n_2 : Nat) (x1 : Int32) (x2 : Int32) (x3 : Int32) (S : St) (H : Heap) (locs : List Loc) (ls : Array Slot), fX12_sendsFor_2 fu n_2 x1 x2 x3 S = some (S', r) → lv_has ls 5 [(0, .ref (ad 63)), (1, .int x1), (2, .int x2), (3, .int x3)] → WS D cA ad base s S H locs → W p l e rmX12_sendsFor s m args below meth c H locs 0 0 (MQ below (QI D cA ad base S' r) args s 0 0 (aB base)) (F0 m 2 ls []) := by
    intro n_2
    induction n_2 with
    | zero =>
      intro x1 x2 x3 S H locs ls hf hl hw
      exact (no_none hf).elim
    | succ n_2 ih_2 =>
      have J_96 : ∀ (x1 : Int32) (x2 : Int32) (x3 : Int32) (S : St) (H : Heap) (locs : List Loc) (ls : Array Slot), fX12_sendsFor_96 fu (fX12_sendsFor_2 fu n_2) x1 x2 x3 S = some (S', r) → lv_has ls 5 [(0, .ref (ad 63)), (1, .int x1), (2, .int x2), (3, .int x3)] → WS D cA ad base s S H locs → W p l e rmX12_sendsFor s m args below meth c H locs 0 0 (MQ below (QI D cA ad base S' r) args s 0 0 (aB base)) (F0 m 96 ls []) := by
        intro x1 x2 x3 S H locs ls hf hl hw
        refine lv_iinc (v := (x3 + (1 : Int32))) (lv' := [(3, .int (x3 + (1 : Int32))), (0, .ref (ad 63)), (1, .int x1), (2, .int x2)]) hx hb dX12_sendsFor_96 hl (k := 3) rfl rfl (by decide) rfl (fun ls hl => ?_)
        refine lv_goto (tgt := 2) hx hb dX12_sendsFor_99 (by decide) ?_
        exact ih_2 _ _ _ _ _ _ _ hf (lv_sub hl [1, 2, 3, 0] rfl) hw
      intro x1 x2 x3 S H locs ls hf hl hw
      rw [fX12_sendsFor_2_s] at hf
      refine lv_iload_n hx hb dX12_sendsFor_2 rfl (lv_at hl 2 rfl) ?_
      refine lv_if_lt (tgt := 102) hx hb dX12_sendsFor_3 (by decide) (fun c_3 => ?_) (fun c_3 => ?_)
      · have hf := if_t hf c_3
        refine lv_iconst (v := (0 : Int32)) hx hb dX12_sendsFor_102 (by decide) ?_
        exact r_zret C hw hr hlocks rfl hf dX12_sendsFor_103
      · have hf := if_f hf c_3
        refine lv_iload_n hx hb dX12_sendsFor_6 rfl (lv_at hl 3 rfl) ?_
        refine lv_aload_n hx hb dX12_sendsFor_7 rfl (lv_at hl 0 rfl) ?_
        refine r_getR C hw (k := 47) (r := 93) dq_63 ln_63 rfl vc_12 inX12 (by decide) rfl gw6_228 dX12_sendsFor_8 ?_
        refine lv_iload_n hx hb dX12_sendsFor_11 rfl (lv_at hl 2 rfl) ?_
        obtain ⟨z_12, hf⟩ := gd_some hf
        refine r_iald C hw (x := 93) dq_93 ln_93 z_12 dX12_sendsFor_12 ?_
        refine lv_icmp_ge (tgt := 102) hx hb dX12_sendsFor_13 (by decide) (fun c_13 => ?_) (fun c_13 => ?_)
        · have hf := if_t hf c_13
          refine lv_iconst (v := (0 : Int32)) hx hb dX12_sendsFor_102 (by decide) ?_
          exact r_zret C hw hr hlocks rfl hf dX12_sendsFor_103
        · have hf := if_f hf c_13
          refine lv_aload_n hx hb dX12_sendsFor_16 rfl (lv_at hl 0 rfl) ?_
          refine r_getR C hw (k := 48) (r := 94) dq_63 ln_63 rfl vc_12 inX12 (by decide) rfl gw6_229 dX12_sendsFor_17 ?_
          refine lv_bipush (v := (10 : Int32)) hx hb dX12_sendsFor_20 (by decide) ?_
          refine lv_iload_n hx hb dX12_sendsFor_22 rfl (lv_at hl 2 rfl) ?_
          refine lv_imul hx hb dX12_sendsFor_23 ?_
          refine lv_iload_n hx hb dX12_sendsFor_24 rfl (lv_at hl 3 rfl) ?_
          refine lv_iadd hx hb dX12_sendsFor_25 ?_
          obtain ⟨z_26, hf⟩ := gd_some hf
          refine r_iald C hw (x := 94) dq_94 ln_94 z_26 dX12_sendsFor_26 ?_
          refine lv_istore (lv' := [(4, .int (S.1 94 ((((10 : Int32) * x2) + x3)).toNatClampNeg)), (0, .ref (ad 63)), (1, .int x1), (2, .int x2), (3, .int x3)]) hx hb dX12_sendsFor_27 hl (by decide) rfl (fun ls hl => ?_)
          refine lv_aload_n hx hb dX12_sendsFor_29 rfl (lv_at hl 1 rfl) ?_
          refine lv_iload hx hb dX12_sendsFor_30 (lv_at hl 0 rfl) ?_
          refine lv_iconst (v := (1 : Int32)) hx hb dX12_sendsFor_32 (by decide) ?_
          obtain ⟨S_33, r_33, h_33, hf⟩ := bd_some hf
          refine r_bi hw (r_runV (rest := []) C hw (m_X12_set l D cA ad base fu h_33) mvX12_set gw8_180 ⟨rfl, rfl, Nat.le_of_ble_eq_true rfl, Nat.le_of_ble_eq_true rfl⟩ dq_63 ln_63 vc_12 rfl hl.1 rfl (Nat.le_of_ble_eq_true rfl) dX12_sendsFor_33 (Nat.zero_le _) (Nat.zero_le _)) (fun H locs hw => ?_)
          refine lv_if_ge (tgt := 96) hx hb dX12_sendsFor_36 (by decide) (fun c_36 => ?_) (fun c_36 => ?_)
          · have hf := if_t hf c_36
            exact J_96 _ _ _ _ _ _ _ hf (lv_sub hl [1, 2, 3, 4] rfl) hw
          · have hf := if_f hf c_36
            refine lv_aload_n hx hb dX12_sendsFor_39 rfl (lv_at hl 1 rfl) ?_
            refine r_getR C hw (k := 61) (r := 103) dq_63 ln_63 rfl vc_12 inX12 (by decide) rfl gw7_2 dX12_sendsFor_40 ?_
            refine lv_sipush (v := (300 : Int32)) hx hb dX12_sendsFor_43 (by decide) ?_
            refine lv_iload_n hx hb dX12_sendsFor_46 rfl (lv_at hl 2 rfl) ?_
            refine lv_imul hx hb dX12_sendsFor_47 ?_
            refine lv_iload hx hb dX12_sendsFor_48 (lv_at hl 0 rfl) ?_
            refine lv_iadd hx hb dX12_sendsFor_50 ?_
            obtain ⟨z_51, hf⟩ := gd_some hf
            refine r_zald C hw (x := 103) dq_103 ln_103 z_51 dX12_sendsFor_51 ?_
            refine lv_if_eq (tgt := 58) hx hb dX12_sendsFor_52 (by decide) (fun c_52 => ?_) (fun c_52 => ?_)
            · have hf := if_t hf c_52
              refine lv_aload_n hx hb dX12_sendsFor_58 rfl (lv_at hl 1 rfl) ?_
              refine r_getI C hw (k := 62) dq_63 ln_63 rfl vc_12 inX12 (by decide) rfl gw7_3 dX12_sendsFor_59 ?_
              refine lv_iconst (v := (4 : Int32)) hx hb dX12_sendsFor_62 (by decide) ?_
              refine lv_icmp_ne (tgt := 73) hx hb dX12_sendsFor_63 (by decide) (fun c_63 => ?_) (fun c_63 => ?_)
              · have hf := if_f hf c_63
                refine lv_aload_n hx hb dX12_sendsFor_73 rfl (lv_at hl 1 rfl) ?_
                refine r_getR C hw (k := 61) (r := 103) dq_63 ln_63 rfl vc_12 inX12 (by decide) rfl gw7_2 dX12_sendsFor_74 ?_
                refine lv_sipush (v := (300 : Int32)) hx hb dX12_sendsFor_77 (by decide) ?_
                refine lv_iload_n hx hb dX12_sendsFor_80 rfl (lv_at hl 2 rfl) ?_
                refine lv_imul hx hb dX12_sendsFor_81 ?_
                refine lv_iload hx hb dX12_sendsFor_82 (lv_at hl 0 rfl) ?_
                refine lv_iadd hx hb dX12_sendsFor_84 ?_
                refine lv_iconst (v := (1 : Int32)) hx hb dX12_sendsFor_85 (by decide) ?_
                obtain ⟨z_86, hf⟩ := gd_some hf
                obtain ⟨S_86, e_86, hf⟩ := sI_some hf
                refine r_zast C hw (x := 103) dq_103 ln_103 z_86 dX12_sendsFor_86 e_86 (fun H locs hw => ?_)
                refine lv_aload_n hx hb dX12_sendsFor_87 rfl (lv_at hl 1 rfl) ?_
                refine lv_iload hx hb dX12_sendsFor_88 (lv_at hl 0 rfl) ?_
                refine lv_iconst (v := (1 : Int32)) hx hb dX12_sendsFor_90 (by decide) ?_
                obtain ⟨S_91, r_91, h_91, hf⟩ := bd_some hf
                refine r_bv hw (r_runV (rest := []) C hw (m_X12_opens l D cA ad base fu h_91) mvX12_opens gw8_164 ⟨rfl, rfl, Nat.le_of_ble_eq_true rfl, Nat.le_of_ble_eq_true rfl⟩ dq_63 ln_63 vc_12 rfl hl.1 rfl (Nat.le_of_ble_eq_true rfl) dX12_sendsFor_91 (Nat.zero_le _) (Nat.zero_le _)) (fun H locs hw => ?_)
                refine lv_iconst (v := (1 : Int32)) hx hb dX12_sendsFor_94 (by decide) ?_
                exact r_zret C hw hr hlocks rfl hf dX12_sendsFor_95
              · have hf := if_t hf c_63
                refine lv_aload_n hx hb dX12_sendsFor_66 rfl (lv_at hl 1 rfl) ?_
                refine lv_iconst (v := (3 : Int32)) hx hb dX12_sendsFor_67 (by decide) ?_
                obtain ⟨S_68, r_68, h_68, hf⟩ := bd_some hf
                refine r_bv hw (r_runV (rest := []) C hw (m_X12_ends l D cA ad base fu h_68) mvX12_ends gw8_184 ⟨rfl, rfl, Nat.le_of_ble_eq_true rfl, Nat.le_of_ble_eq_true rfl⟩ dq_63 ln_63 vc_12 rfl hl.1 rfl (Nat.le_of_ble_eq_true rfl) dX12_sendsFor_68 (Nat.zero_le _) (Nat.zero_le _)) (fun H locs hw => ?_)
                refine lv_iconst (v := (1 : Int32)) hx hb dX12_sendsFor_71 (by decide) ?_
                exact r_zret C hw hr hlocks rfl hf dX12_sendsFor_72
            · have hf := if_f hf c_52
              refine lv_goto (tgt := 96) hx hb dX12_sendsFor_55 (by decide) ?_
              exact J_96 _ _ _ _ _ _ _ hf (lv_sub hl [1, 2, 3, 4] rfl) hw
  show W p l e rmX12_sendsFor s m args below meth c s.heap [] 0 0 _ _
  refine lv_iconst (v := (0 : Int32)) hx hb dX12_sendsFor_0 (by decide) ?_
  refine lv_istore_n (lv' := [(3, .int (0 : Int32)), (0, .ref (ad 63)), (1, .int x1), (2, .int x2)]) hx hb dX12_sendsFor_1 rfl hl (by decide) rfl (fun ls hl => ?_)
  exact L_2 fu _ _ _ _ _ _ _ hf (lv_sub hl [1, 2, 3, 0] rfl) hw
noncomputable def fX12_knows_76 (fu : Nat) (x1 : Int32) (x2 : Int32) (S : St) : Option (St × Int32) :=
  if x2 < 0 then
    gd (ck x1 4) <|
    bd (fX12_hasNothing fu (S.1 97 (x1).toNatClampNeg) (0 : Int32) S) fun S_121 r_121 =>
    if r_121 = 0 then
      gd (ck x1 4) <|
      gd (ck x1 4) <|
      bd (fX12_hasNothing fu (S_121.1 97 (x1).toNatClampNeg) (S_121.1 98 (x1).toNatClampNeg) S_121) fun S_148 r_148 =>
      if r_148 = 0 then
        some (S_148, (0 : Int32))
      else
        bd (fX12_ends fu (1 : Int32) S_148) fun S_156 _ =>
        some (S_156, (1 : Int32))
    else
      bd (fX12_ends fu (2 : Int32) S_121) fun S_129 _ =>
      some (S_129, (1 : Int32))
  else
    gd (ck ((10 : Int32) * x2) 1000) <|
    gd (ck x1 4) <|
    sI 97 (x1).toNatClampNeg (S.1 94 (((10 : Int32) * x2)).toNatClampNeg) S fun S_94 =>
    gd (ck x1 4) <|
    gd (ck x1 4) <|
    sI 99 (x1).toNatClampNeg ((S_94.1 99 (x1).toNatClampNeg) + (1 : Int32)) S_94 fun S_104 =>
    bd (fX12_anew fu x1 S_104) fun S_107 _ =>
    some (S_107, (1 : Int32))
noncomputable def fX12_knows_25 (fu : Nat) (x1 : Int32) (t0 : Int32) (S : St) : Option (St × Int32) :=
  gd (ck x1 4) <|
  gd (ck x1 4) <|
  bd (fX12_set fu (S.1 97 (x1).toNatClampNeg) (S.1 98 (x1).toNatClampNeg) S) fun S_39 r_39 =>
  if r_39 < 0 then
    if t0 < 0 then
      fX12_knows_76 fu x1 t0 S_39
    else
      gd (ck x1 4) <|
      if (S_39.1 99 (x1).toNatClampNeg) = (8 : Int32) then
        bd (fX12_ends fu (3 : Int32) S_39) fun S_70 _ =>
        some (S_70, (1 : Int32))
      else
        fX12_knows_76 fu x1 t0 S_39
  else
    bd (fX12_ends fu (0 : Int32) S_39) fun S_47 _ =>
    some (S_47, (1 : Int32))
noncomputable def fX12_knows (fu : Nat) (x1 : Int32) (S : St) : Option (St × Int32) :=
  gd (ck x1 4) <|
  if (S.1 98 (x1).toNatClampNeg) = (5 : Int32) then
    fX12_knows_25 fu x1 (-1 : Int32) S
  else
    gd (ck x1 4) <|
    bd (fX12_set fu (S.1 97 (x1).toNatClampNeg) (5 : Int32) S) fun S_22 r_22 =>
    fX12_knows_25 fu x1 r_22 S_22
theorem mvX12_knows : MV yX12_knows cX12_knows 3 (some .boolean) RX12 1 := ⟨gw8_179, gw8_178, gs_82, gw1_13, by decide +kernel⟩
def rmX12_knows : Room := { frames := 3, cells := 0, slots := 0, locals := 70 }
set_option maxHeartbeats 4000000 in
set_option maxRecDepth 100000 in
theorem m_X12_knows (l : Launch) (D : va_G) (cA : FieldType → ClassId) (ad : Nat → Nat) (base : Nat) (fu : Nat) {S S' : St} {x1 : Int32} {r : Int32} (hf : fX12_knows fu x1 S = some (S', r)) : Met l yX12_knows (GC yX12_knows cX12_knows 3 (some .boolean)) rmX12_knows (va_Pc [.ref (ad 63), .int x1] (wd D cA ad base S)) (QI D cA ad base S' r) 0 0 (aB base) := by
  refine Met.ofW (cc := cX12_knows) (maxL := 3) (ret := (some .boolean)) (by decide) rfl ?_
  intro p e s m args below meth c s₁ B hml hv
  obtain ⟨hargs, hwd⟩ := hv
  have hr := B.returns
  have hlocks := B.notSynchronized
  obtain ⟨C, hw⟩ := CX.of (own := RX12) rfl B hml hwd
  have hx := C.1
  have hb := C.2.1
  have hl := lv_entry ([.ref (ad 63), .int x1]) (n := 3) (Nat.le_of_ble_eq_true rfl)
  rw [show entryFrame m args 3 = entryFrame m ([.ref (ad 63), .int x1] : List Value).toArray 3 from by rw [hargs], lg_entry_eq]
  generalize (lg_sl ([.ref (ad 63), .int x1]) ++ List.replicate (3 - (lg_sl ([.ref (ad 63), .int x1])).length) Slot.unset).toArray = ls at hl ⊢
  have hl : lv_has ls 3 [(0, .ref (ad 63)), (1, .int x1)] := hl
  have J_76 : ∀ (x1 : Int32) (x2 : Int32) (S : St) (H : Heap) (locs : List Loc) (ls : Array Slot), fX12_knows_76 fu x1 x2 S = some (S', r) → lv_has ls 3 [(0, .ref (ad 63)), (1, .int x1), (2, .int x2)] → WS D cA ad base s S H locs → W p l e rmX12_knows s m args below meth c H locs 0 0 (MQ below (QI D cA ad base S' r) args s 0 0 (aB base)) (F0 m 76 ls []) := by
    intro x1 x2 S H locs ls hf hl hw
    refine lv_iload_n hx hb dX12_knows_76 rfl (lv_at hl 2 rfl) ?_
    refine lv_if_lt (tgt := 113) hx hb dX12_knows_77 (by decide) (fun c_77 => ?_) (fun c_77 => ?_)
    · have hf := if_t hf c_77
      refine lv_aload_n hx hb dX12_knows_113 rfl (lv_at hl 0 rfl) ?_
      refine lv_aload_n hx hb dX12_knows_114 rfl (lv_at hl 0 rfl) ?_
      refine r_getR C hw (k := 55) (r := 97) dq_63 ln_63 rfl vc_12 inX12 (by decide) rfl gw6_236 dX12_knows_115 ?_
      refine lv_iload_n hx hb dX12_knows_118 rfl (lv_at hl 1 rfl) ?_
      obtain ⟨z_119, hf⟩ := gd_some hf
      refine r_iald C hw (x := 97) dq_97 ln_97 z_119 dX12_knows_119 ?_
      refine lv_iconst (v := (0 : Int32)) hx hb dX12_knows_120 (by decide) ?_
      obtain ⟨S_121, r_121, h_121, hf⟩ := bd_some hf
      refine r_bi hw (r_runV (rest := []) C hw (m_X12_hasNothing l D cA ad base fu h_121) mvX12_hasNothing gw8_188 ⟨rfl, rfl, Nat.le_of_ble_eq_true rfl, Nat.le_of_ble_eq_true rfl⟩ dq_63 ln_63 vc_12 rfl hl.1 rfl (Nat.le_of_ble_eq_true rfl) dX12_knows_121 (Nat.zero_le _) (Nat.zero_le _)) (fun H locs hw => ?_)
      refine lv_if_eq (tgt := 135) hx hb dX12_knows_124 (by decide) (fun c_124 => ?_) (fun c_124 => ?_)
      · have hf := if_t hf c_124
        refine lv_aload_n hx hb dX12_knows_135 rfl (lv_at hl 0 rfl) ?_
        refine lv_aload_n hx hb dX12_knows_136 rfl (lv_at hl 0 rfl) ?_
        refine r_getR C hw (k := 55) (r := 97) dq_63 ln_63 rfl vc_12 inX12 (by decide) rfl gw6_236 dX12_knows_137 ?_
        refine lv_iload_n hx hb dX12_knows_140 rfl (lv_at hl 1 rfl) ?_
        obtain ⟨z_141, hf⟩ := gd_some hf
        refine r_iald C hw (x := 97) dq_97 ln_97 z_141 dX12_knows_141 ?_
        refine lv_aload_n hx hb dX12_knows_142 rfl (lv_at hl 0 rfl) ?_
        refine r_getR C hw (k := 56) (r := 98) dq_63 ln_63 rfl vc_12 inX12 (by decide) rfl gw6_237 dX12_knows_143 ?_
        refine lv_iload_n hx hb dX12_knows_146 rfl (lv_at hl 1 rfl) ?_
        obtain ⟨z_147, hf⟩ := gd_some hf
        refine r_iald C hw (x := 98) dq_98 ln_98 z_147 dX12_knows_147 ?_
        obtain ⟨S_148, r_148, h_148, hf⟩ := bd_some hf
        refine r_bi hw (r_runV (rest := []) C hw (m_X12_hasNothing l D cA ad base fu h_148) mvX12_hasNothing gw8_188 ⟨rfl, rfl, Nat.le_of_ble_eq_true rfl, Nat.le_of_ble_eq_true rfl⟩ dq_63 ln_63 vc_12 rfl hl.1 rfl (Nat.le_of_ble_eq_true rfl) dX12_knows_148 (Nat.zero_le _) (Nat.zero_le _)) (fun H locs hw => ?_)
        refine lv_if_eq (tgt := 162) hx hb dX12_knows_151 (by decide) (fun c_151 => ?_) (fun c_151 => ?_)
        · have hf := if_t hf c_151
          refine lv_iconst (v := (0 : Int32)) hx hb dX12_knows_162 (by decide) ?_
          exact r_zret C hw hr hlocks rfl hf dX12_knows_163
        · have hf := if_f hf c_151
          refine lv_aload_n hx hb dX12_knows_154 rfl (lv_at hl 0 rfl) ?_
          refine lv_iconst (v := (1 : Int32)) hx hb dX12_knows_155 (by decide) ?_
          obtain ⟨S_156, r_156, h_156, hf⟩ := bd_some hf
          refine r_bv hw (r_runV (rest := []) C hw (m_X12_ends l D cA ad base fu h_156) mvX12_ends gw8_184 ⟨rfl, rfl, Nat.le_of_ble_eq_true rfl, Nat.le_of_ble_eq_true rfl⟩ dq_63 ln_63 vc_12 rfl hl.1 rfl (Nat.le_of_ble_eq_true rfl) dX12_knows_156 (Nat.zero_le _) (Nat.zero_le _)) (fun H locs hw => ?_)
          refine lv_goto (tgt := 164) hx hb dX12_knows_159 (by decide) ?_
          refine lv_iconst (v := (1 : Int32)) hx hb dX12_knows_164 (by decide) ?_
          exact r_zret C hw hr hlocks rfl hf dX12_knows_165
      · have hf := if_f hf c_124
        refine lv_aload_n hx hb dX12_knows_127 rfl (lv_at hl 0 rfl) ?_
        refine lv_iconst (v := (2 : Int32)) hx hb dX12_knows_128 (by decide) ?_
        obtain ⟨S_129, r_129, h_129, hf⟩ := bd_some hf
        refine r_bv hw (r_runV (rest := []) C hw (m_X12_ends l D cA ad base fu h_129) mvX12_ends gw8_184 ⟨rfl, rfl, Nat.le_of_ble_eq_true rfl, Nat.le_of_ble_eq_true rfl⟩ dq_63 ln_63 vc_12 rfl hl.1 rfl (Nat.le_of_ble_eq_true rfl) dX12_knows_129 (Nat.zero_le _) (Nat.zero_le _)) (fun H locs hw => ?_)
        refine lv_goto (tgt := 164) hx hb dX12_knows_132 (by decide) ?_
        refine lv_iconst (v := (1 : Int32)) hx hb dX12_knows_164 (by decide) ?_
        exact r_zret C hw hr hlocks rfl hf dX12_knows_165
    · have hf := if_f hf c_77
      refine lv_aload_n hx hb dX12_knows_80 rfl (lv_at hl 0 rfl) ?_
      refine r_getR C hw (k := 55) (r := 97) dq_63 ln_63 rfl vc_12 inX12 (by decide) rfl gw6_236 dX12_knows_81 ?_
      refine lv_iload_n hx hb dX12_knows_84 rfl (lv_at hl 1 rfl) ?_
      refine lv_aload_n hx hb dX12_knows_85 rfl (lv_at hl 0 rfl) ?_
      refine r_getR C hw (k := 48) (r := 94) dq_63 ln_63 rfl vc_12 inX12 (by decide) rfl gw6_229 dX12_knows_86 ?_
      refine lv_bipush (v := (10 : Int32)) hx hb dX12_knows_89 (by decide) ?_
      refine lv_iload_n hx hb dX12_knows_91 rfl (lv_at hl 2 rfl) ?_
      refine lv_imul hx hb dX12_knows_92 ?_
      obtain ⟨z_93, hf⟩ := gd_some hf
      refine r_iald C hw (x := 94) dq_94 ln_94 z_93 dX12_knows_93 ?_
      obtain ⟨z_94, hf⟩ := gd_some hf
      obtain ⟨S_94, e_94, hf⟩ := sI_some hf
      refine r_iast C hw (x := 97) dq_97 ln_97 z_94 dX12_knows_94 e_94 (fun H locs hw => ?_)
      refine lv_aload_n hx hb dX12_knows_95 rfl (lv_at hl 0 rfl) ?_
      refine r_getR C hw (k := 57) (r := 99) dq_63 ln_63 rfl vc_12 inX12 (by decide) rfl gw6_238 dX12_knows_96 ?_
      refine lv_iload_n hx hb dX12_knows_99 rfl (lv_at hl 1 rfl) ?_
      refine lv_dup2_11 hx hb dX12_knows_100 rfl rfl ?_
      obtain ⟨z_101, hf⟩ := gd_some hf
      refine r_iald C hw (x := 99) dq_99 ln_99 z_101 dX12_knows_101 ?_
      refine lv_iconst (v := (1 : Int32)) hx hb dX12_knows_102 (by decide) ?_
      refine lv_iadd hx hb dX12_knows_103 ?_
      obtain ⟨z_104, hf⟩ := gd_some hf
      obtain ⟨S_104, e_104, hf⟩ := sI_some hf
      refine r_iast C hw (x := 99) dq_99 ln_99 z_104 dX12_knows_104 e_104 (fun H locs hw => ?_)
      refine lv_aload_n hx hb dX12_knows_105 rfl (lv_at hl 0 rfl) ?_
      refine lv_iload_n hx hb dX12_knows_106 rfl (lv_at hl 1 rfl) ?_
      obtain ⟨S_107, r_107, h_107, hf⟩ := bd_some hf
      refine r_bv hw (r_runV (rest := []) C hw (m_X12_anew l D cA ad base fu h_107) mvX12_anew gw8_168 ⟨rfl, rfl, Nat.le_of_ble_eq_true rfl, Nat.le_of_ble_eq_true rfl⟩ dq_63 ln_63 vc_12 rfl hl.1 rfl (Nat.le_of_ble_eq_true rfl) dX12_knows_107 (Nat.zero_le _) (Nat.zero_le _)) (fun H locs hw => ?_)
      refine lv_goto (tgt := 164) hx hb dX12_knows_110 (by decide) ?_
      refine lv_iconst (v := (1 : Int32)) hx hb dX12_knows_164 (by decide) ?_
      exact r_zret C hw hr hlocks rfl hf dX12_knows_165
  have J_25 : ∀ (x1 : Int32) (t0 : Int32) (S : St) (H : Heap) (locs : List Loc) (ls : Array Slot), fX12_knows_25 fu x1 t0 S = some (S', r) → lv_has ls 3 [(0, .ref (ad 63)), (1, .int x1)] → WS D cA ad base s S H locs → W p l e rmX12_knows s m args below meth c H locs 0 0 (MQ below (QI D cA ad base S' r) args s 0 0 (aB base)) (F0 m 25 ls [.int t0]) := by
    intro x1 t0 S H locs ls hf hl hw
    refine lv_istore_n (lv' := [(2, .int t0), (0, .ref (ad 63)), (1, .int x1)]) hx hb dX12_knows_25 rfl hl (by decide) rfl (fun ls hl => ?_)
    refine lv_aload_n hx hb dX12_knows_26 rfl (lv_at hl 1 rfl) ?_
    refine lv_aload_n hx hb dX12_knows_27 rfl (lv_at hl 1 rfl) ?_
    refine r_getR C hw (k := 55) (r := 97) dq_63 ln_63 rfl vc_12 inX12 (by decide) rfl gw6_236 dX12_knows_28 ?_
    refine lv_iload_n hx hb dX12_knows_31 rfl (lv_at hl 2 rfl) ?_
    obtain ⟨z_32, hf⟩ := gd_some hf
    refine r_iald C hw (x := 97) dq_97 ln_97 z_32 dX12_knows_32 ?_
    refine lv_aload_n hx hb dX12_knows_33 rfl (lv_at hl 1 rfl) ?_
    refine r_getR C hw (k := 56) (r := 98) dq_63 ln_63 rfl vc_12 inX12 (by decide) rfl gw6_237 dX12_knows_34 ?_
    refine lv_iload_n hx hb dX12_knows_37 rfl (lv_at hl 2 rfl) ?_
    obtain ⟨z_38, hf⟩ := gd_some hf
    refine r_iald C hw (x := 98) dq_98 ln_98 z_38 dX12_knows_38 ?_
    obtain ⟨S_39, r_39, h_39, hf⟩ := bd_some hf
    refine r_bi hw (r_runV (rest := []) C hw (m_X12_set l D cA ad base fu h_39) mvX12_set gw8_180 ⟨rfl, rfl, Nat.le_of_ble_eq_true rfl, Nat.le_of_ble_eq_true rfl⟩ dq_63 ln_63 vc_12 rfl hl.1 rfl (Nat.le_of_ble_eq_true rfl) dX12_knows_39 (Nat.zero_le _) (Nat.zero_le _)) (fun H locs hw => ?_)
    refine lv_if_lt (tgt := 53) hx hb dX12_knows_42 (by decide) (fun c_42 => ?_) (fun c_42 => ?_)
    · have hf := if_t hf c_42
      refine lv_iload_n hx hb dX12_knows_53 rfl (lv_at hl 0 rfl) ?_
      refine lv_if_lt (tgt := 76) hx hb dX12_knows_54 (by decide) (fun c_54 => ?_) (fun c_54 => ?_)
      · have hf := if_t hf c_54
        exact J_76 _ _ _ _ _ _ hf (lv_sub hl [1, 2, 0] rfl) hw
      · have hf := if_f hf c_54
        refine lv_aload_n hx hb dX12_knows_57 rfl (lv_at hl 1 rfl) ?_
        refine r_getR C hw (k := 57) (r := 99) dq_63 ln_63 rfl vc_12 inX12 (by decide) rfl gw6_238 dX12_knows_58 ?_
        refine lv_iload_n hx hb dX12_knows_61 rfl (lv_at hl 2 rfl) ?_
        obtain ⟨z_62, hf⟩ := gd_some hf
        refine r_iald C hw (x := 99) dq_99 ln_99 z_62 dX12_knows_62 ?_
        refine lv_bipush (v := (8 : Int32)) hx hb dX12_knows_63 (by decide) ?_
        refine lv_icmp_ne (tgt := 76) hx hb dX12_knows_65 (by decide) (fun c_65 => ?_) (fun c_65 => ?_)
        · have hf := if_f hf c_65
          exact J_76 _ _ _ _ _ _ hf (lv_sub hl [1, 2, 0] rfl) hw
        · have hf := if_t hf c_65
          refine lv_aload_n hx hb dX12_knows_68 rfl (lv_at hl 1 rfl) ?_
          refine lv_iconst (v := (3 : Int32)) hx hb dX12_knows_69 (by decide) ?_
          obtain ⟨S_70, r_70, h_70, hf⟩ := bd_some hf
          refine r_bv hw (r_runV (rest := []) C hw (m_X12_ends l D cA ad base fu h_70) mvX12_ends gw8_184 ⟨rfl, rfl, Nat.le_of_ble_eq_true rfl, Nat.le_of_ble_eq_true rfl⟩ dq_63 ln_63 vc_12 rfl hl.1 rfl (Nat.le_of_ble_eq_true rfl) dX12_knows_70 (Nat.zero_le _) (Nat.zero_le _)) (fun H locs hw => ?_)
          refine lv_goto (tgt := 164) hx hb dX12_knows_73 (by decide) ?_
          refine lv_iconst (v := (1 : Int32)) hx hb dX12_knows_164 (by decide) ?_
          exact r_zret C hw hr hlocks rfl hf dX12_knows_165
    · have hf := if_f hf c_42
      refine lv_aload_n hx hb dX12_knows_45 rfl (lv_at hl 1 rfl) ?_
      refine lv_iconst (v := (0 : Int32)) hx hb dX12_knows_46 (by decide) ?_
      obtain ⟨S_47, r_47, h_47, hf⟩ := bd_some hf
      refine r_bv hw (r_runV (rest := []) C hw (m_X12_ends l D cA ad base fu h_47) mvX12_ends gw8_184 ⟨rfl, rfl, Nat.le_of_ble_eq_true rfl, Nat.le_of_ble_eq_true rfl⟩ dq_63 ln_63 vc_12 rfl hl.1 rfl (Nat.le_of_ble_eq_true rfl) dX12_knows_47 (Nat.zero_le _) (Nat.zero_le _)) (fun H locs hw => ?_)
      refine lv_goto (tgt := 164) hx hb dX12_knows_50 (by decide) ?_
      refine lv_iconst (v := (1 : Int32)) hx hb dX12_knows_164 (by decide) ?_
      exact r_zret C hw hr hlocks rfl hf dX12_knows_165
  show W p l e rmX12_knows s m args below meth c s.heap [] 0 0 _ _
  refine lv_aload_n hx hb dX12_knows_0 rfl (lv_at hl 0 rfl) ?_
  refine r_getR C hw (k := 56) (r := 98) dq_63 ln_63 rfl vc_12 inX12 (by decide) rfl gw6_237 dX12_knows_1 ?_
  refine lv_iload_n hx hb dX12_knows_4 rfl (lv_at hl 1 rfl) ?_
  obtain ⟨z_5, hf⟩ := gd_some hf
  refine r_iald C hw (x := 98) dq_98 ln_98 z_5 dX12_knows_5 ?_
  refine lv_iconst (v := (5 : Int32)) hx hb dX12_knows_6 (by decide) ?_
  refine lv_icmp_ne (tgt := 14) hx hb dX12_knows_7 (by decide) (fun c_7 => ?_) (fun c_7 => ?_)
  · have hf := if_f hf c_7
    refine lv_aload_n hx hb dX12_knows_14 rfl (lv_at hl 0 rfl) ?_
    refine lv_aload_n hx hb dX12_knows_15 rfl (lv_at hl 0 rfl) ?_
    refine r_getR C hw (k := 55) (r := 97) dq_63 ln_63 rfl vc_12 inX12 (by decide) rfl gw6_236 dX12_knows_16 ?_
    refine lv_iload_n hx hb dX12_knows_19 rfl (lv_at hl 1 rfl) ?_
    obtain ⟨z_20, hf⟩ := gd_some hf
    refine r_iald C hw (x := 97) dq_97 ln_97 z_20 dX12_knows_20 ?_
    refine lv_iconst (v := (5 : Int32)) hx hb dX12_knows_21 (by decide) ?_
    obtain ⟨S_22, r_22, h_22, hf⟩ := bd_some hf
    refine r_bi hw (r_runV (rest := []) C hw (m_X12_set l D cA ad base fu h_22) mvX12_set gw8_180 ⟨rfl, rfl, Nat.le_of_ble_eq_true rfl, Nat.le_of_ble_eq_true rfl⟩ dq_63 ln_63 vc_12 rfl hl.1 rfl (Nat.le_of_ble_eq_true rfl) dX12_knows_22 (Nat.zero_le _) (Nat.zero_le _)) (fun H locs hw => ?_)
    exact J_25 _ _ _ _ _ _ hf (lv_sub hl [0, 1] rfl) hw
  · have hf := if_t hf c_7
    refine lv_iconst (v := (-1 : Int32)) hx hb dX12_knows_10 (by decide) ?_
    refine lv_goto (tgt := 25) hx hb dX12_knows_11 (by decide) ?_
    exact J_25 _ _ _ _ _ _ hf (lv_sub hl [0, 1] rfl) hw
noncomputable def fX12_goes_123 (fu : Nat) (S : St) : Option (St × Int32) :=
  if (S.1 63 67) = 0 then
    some (S, (0 : Int32))
  else
    some (S, (1 : Int32))
noncomputable def fX12_goes_120 (fu : Nat) (k_5 : St → Option (St × Int32)) (S : St) : Option (St × Int32) :=
  k_5 S
noncomputable def fX12_goes_90 (fu : Nat) (k_5 : St → Option (St × Int32)) (x1 : Int32) (x2 : Int32) (S : St) : Option (St × Int32) :=
  bd (fX12_set fu x2 (2 : Int32) S) fun S_93 r_93 =>
  bd (fX12_tries fu x1 r_93 S_93) fun S_100 r_100 =>
  if r_100 = 0 then
    bd (fX12_sendsFor fu x1 r_93 S_100) fun S_109 r_109 =>
    if r_109 = 0 then
      bd (fX12_ends fu (3 : Int32) S_109) fun S_117 _ =>
      fX12_goes_120 fu k_5 S_117
    else
      fX12_goes_120 fu k_5 S_109
  else
    fX12_goes_120 fu k_5 S_100
noncomputable def fX12_goes_68 (fu : Nat) (k_5 : St → Option (St × Int32)) (x1 : Int32) (x2 : Int32) (S : St) : Option (St × Int32) :=
  gd (ck x1 4) <|
  if x2 = (S.1 100 (x1).toNatClampNeg) then
    fX12_goes_90 fu k_5 x1 x2 S
  else
    gd (ck x1 4) <|
    sI 100 (x1).toNatClampNeg x2 S fun S_84 =>
    bd (fX12_anew fu x1 S_84) fun S_87 _ =>
    fX12_goes_90 fu k_5 x1 x2 S_87
noncomputable def fX12_goes_45 (fu : Nat) (k_5 : St → Option (St × Int32)) (n : Nat) : Int32 → Int32 → St → Option (St × Int32) :=
  Nat.rec (motive := fun _ => Int32 → Int32 → St → Option (St × Int32)) (fun _ _ _ => none) (fun _ k_45 x1 x2 S =>
    if x2 ≤ 0 then
      fX12_goes_68 fu k_5 x1 x2 S
    else
      bd (fX12_set fu x2 (2 : Int32) S) fun S_52 r_52 =>
      if 0 ≤ r_52 then
        fX12_goes_68 fu k_5 x1 x2 S_52
      else
        gd (ck x2 300) <|
        k_45 x1 (S_52.1 64 (x2).toNatClampNeg) S_52) n
theorem fX12_goes_45_s (fu : Nat) (k_5 : St → Option (St × Int32)) (n : Nat) (x1 : Int32) (x2 : Int32) (S : St) : fX12_goes_45 fu k_5 (n + 1) x1 x2 S = (
    if x2 ≤ 0 then
      fX12_goes_68 fu k_5 x1 x2 S
    else
      bd (fX12_set fu x2 (2 : Int32) S) fun S_52 r_52 =>
      if 0 ≤ r_52 then
        fX12_goes_68 fu k_5 x1 x2 S_52
      else
        gd (ck x2 300) <|
        (fX12_goes_45 fu k_5 n) x1 (S_52.1 64 (x2).toNatClampNeg) S_52) := rfl
noncomputable def fX12_goes_5 (fu : Nat) (n : Nat) : St → Option (St × Int32) :=
  Nat.rec (motive := fun _ => St → Option (St × Int32)) (fun  _ => none) (fun _ k_5  S =>
    if (S.1 63 63) = (4 : Int32) then
      if (S.1 63 67) = 0 then
        bd (fX12_knows fu ((S.1 63 62) - (1 : Int32)) S) fun S_29 r_29 =>
        if r_29 = 0 then
          gd (ck ((S.1 63 62) - (1 : Int32)) 4) <|
          fX12_goes_45 fu k_5 fu ((S.1 63 62) - (1 : Int32)) (S_29.1 97 (((S.1 63 62) - (1 : Int32))).toNatClampNeg) S_29
        else
          k_5 S_29
      else
        fX12_goes_123 fu S
    else
      fX12_goes_123 fu S) n
theorem fX12_goes_5_s (fu : Nat) (n : Nat) (S : St) : fX12_goes_5 fu (n + 1) S = (
    if (S.1 63 63) = (4 : Int32) then
      if (S.1 63 67) = 0 then
        bd (fX12_knows fu ((S.1 63 62) - (1 : Int32)) S) fun S_29 r_29 =>
        if r_29 = 0 then
          gd (ck ((S.1 63 62) - (1 : Int32)) 4) <|
          fX12_goes_45 fu (fX12_goes_5 fu n) fu ((S.1 63 62) - (1 : Int32)) (S_29.1 97 (((S.1 63 62) - (1 : Int32))).toNatClampNeg) S_29
        else
          (fX12_goes_5 fu n) S_29
      else
        fX12_goes_123 fu S
    else
      fX12_goes_123 fu S) := rfl
noncomputable def fX12_goes (fu : Nat) (S : St) : Option (St × Int32) :=
  sI 63 67 (0 : Int32) S fun S_2 =>
  fX12_goes_5 fu fu S_2
theorem mvX12_goes : MV yX12_goes cX12_goes 4 (some .int) RX12 0 := ⟨gw8_175, gw8_174, gs_81, gw1_13, by decide +kernel⟩
def rmX12_goes : Room := { frames := 4, cells := 0, slots := 0, locals := 94 }
set_option maxHeartbeats 4000000 in
set_option maxRecDepth 100000 in
theorem m_X12_goes (l : Launch) (D : va_G) (cA : FieldType → ClassId) (ad : Nat → Nat) (base : Nat) (fu : Nat) {S S' : St} {r : Int32} (hf : fX12_goes fu S = some (S', r)) : Met l yX12_goes (GC yX12_goes cX12_goes 4 (some .int)) rmX12_goes (va_Pc [.ref (ad 63)] (wd D cA ad base S)) (QI D cA ad base S' r) 0 0 (aB base) := by
  refine Met.ofW (cc := cX12_goes) (maxL := 4) (ret := (some .int)) (by decide) rfl ?_
  intro p e s m args below meth c s₁ B hml hv
  obtain ⟨hargs, hwd⟩ := hv
  have hr := B.returns
  have hlocks := B.notSynchronized
  obtain ⟨C, hw⟩ := CX.of (own := RX12) rfl B hml hwd
  have hx := C.1
  have hb := C.2.1
  have hl := lv_entry ([.ref (ad 63)]) (n := 4) (Nat.le_of_ble_eq_true rfl)
  rw [show entryFrame m args 4 = entryFrame m ([.ref (ad 63)] : List Value).toArray 4 from by rw [hargs], lg_entry_eq]
  generalize (lg_sl ([.ref (ad 63)]) ++ List.replicate (4 - (lg_sl ([.ref (ad 63)])).length) Slot.unset).toArray = ls at hl ⊢
  have hl : lv_has ls 4 [(0, .ref (ad 63))] := hl
  have J_123 : ∀ (S : St) (H : Heap) (locs : List Loc) (ls : Array Slot), fX12_goes_123 fu S = some (S', r) → lv_has ls 4 [(0, .ref (ad 63))] → WS D cA ad base s S H locs → W p l e rmX12_goes s m args below meth c H locs 0 0 (MQ below (QI D cA ad base S' r) args s 0 0 (aB base)) (F0 m 123 ls []) := by
    intro  S H locs ls hf hl hw
    refine lv_aload_n hx hb dX12_goes_123 rfl (lv_at hl 0 rfl) ?_
    refine r_getI C hw (k := 67) dq_63 ln_63 rfl vc_12 inX12 (by decide) rfl gw7_8 dX12_goes_124 ?_
    refine lv_if_eq (tgt := 134) hx hb dX12_goes_127 (by decide) (fun c_127 => ?_) (fun c_127 => ?_)
    · have hf := if_t hf c_127
      refine lv_iconst (v := (0 : Int32)) hx hb dX12_goes_134 (by decide) ?_
      exact r_iret C hw hr hlocks hf dX12_goes_135
    · have hf := if_f hf c_127
      refine lv_iconst (v := (1 : Int32)) hx hb dX12_goes_130 (by decide) ?_
      refine lv_goto (tgt := 135) hx hb dX12_goes_131 (by decide) ?_
      exact r_iret C hw hr hlocks hf dX12_goes_135
  have L_5 : ∀ (n_5 : Nat) (S : St) (H : Heap) (locs : List Loc) (ls : Array Slot), fX12_goes_5 fu n_5 S = some (S', r) → lv_has ls 4 [(0, .ref (ad 63))] → WS D cA ad base s S H locs → W p l e rmX12_goes s m args below meth c H locs 0 0 (MQ below (QI D cA ad base S' r) args s 0 0 (aB base)) (F0 m 5 ls []) := by
    intro n_5
    induction n_5 with
    | zero =>
      intro  S H locs ls hf hl hw
      exact (no_none hf).elim
    | succ n_5 ih_5 =>
      have J_120 : ∀ (S : St) (H : Heap) (locs : List Loc) (ls : Array Slot), fX12_goes_120 fu (fX12_goes_5 fu n_5) S = some (S', r) → lv_has ls 4 [(0, .ref (ad 63))] → WS D cA ad base s S H locs → W p l e rmX12_goes s m args below meth c H locs 0 0 (MQ below (QI D cA ad base S' r) args s 0 0 (aB base)) (F0 m 120 ls []) := by
        intro  S H locs ls hf hl hw
        refine lv_goto (tgt := 5) hx hb dX12_goes_120 (by decide) ?_
        exact ih_5 _ _ _ _ hf (lv_sub hl [0] rfl) hw
      have J_90 : ∀ (x1 : Int32) (x2 : Int32) (S : St) (H : Heap) (locs : List Loc) (ls : Array Slot), fX12_goes_90 fu (fX12_goes_5 fu n_5) x1 x2 S = some (S', r) → lv_has ls 4 [(0, .ref (ad 63)), (1, .int x1), (2, .int x2)] → WS D cA ad base s S H locs → W p l e rmX12_goes s m args below meth c H locs 0 0 (MQ below (QI D cA ad base S' r) args s 0 0 (aB base)) (F0 m 90 ls []) := by
        intro x1 x2 S H locs ls hf hl hw
        refine lv_aload_n hx hb dX12_goes_90 rfl (lv_at hl 0 rfl) ?_
        refine lv_iload_n hx hb dX12_goes_91 rfl (lv_at hl 2 rfl) ?_
        refine lv_iconst (v := (2 : Int32)) hx hb dX12_goes_92 (by decide) ?_
        obtain ⟨S_93, r_93, h_93, hf⟩ := bd_some hf
        refine r_bi hw (r_runV (rest := []) C hw (m_X12_set l D cA ad base fu h_93) mvX12_set gw8_180 ⟨rfl, rfl, Nat.le_of_ble_eq_true rfl, Nat.le_of_ble_eq_true rfl⟩ dq_63 ln_63 vc_12 rfl hl.1 rfl (Nat.le_of_ble_eq_true rfl) dX12_goes_93 (Nat.zero_le _) (Nat.zero_le _)) (fun H locs hw => ?_)
        refine lv_istore_n (lv' := [(3, .int r_93), (0, .ref (ad 63)), (1, .int x1), (2, .int x2)]) hx hb dX12_goes_96 rfl hl (by decide) rfl (fun ls hl => ?_)
        refine lv_aload_n hx hb dX12_goes_97 rfl (lv_at hl 1 rfl) ?_
        refine lv_iload_n hx hb dX12_goes_98 rfl (lv_at hl 2 rfl) ?_
        refine lv_iload_n hx hb dX12_goes_99 rfl (lv_at hl 0 rfl) ?_
        obtain ⟨S_100, r_100, h_100, hf⟩ := bd_some hf
        refine r_bi hw (r_runV (rest := []) C hw (m_X12_tries l D cA ad base fu h_100) mvX12_tries gw8_192 ⟨rfl, rfl, Nat.le_of_ble_eq_true rfl, Nat.le_of_ble_eq_true rfl⟩ dq_63 ln_63 vc_12 rfl hl.1 rfl (Nat.le_of_ble_eq_true rfl) dX12_goes_100 (Nat.zero_le _) (Nat.zero_le _)) (fun H locs hw => ?_)
        refine lv_if_ne (tgt := 120) hx hb dX12_goes_103 (by decide) (fun c_103 => ?_) (fun c_103 => ?_)
        · have hf := if_f hf c_103
          exact J_120 _ _ _ _ hf (lv_sub hl [1] rfl) hw
        · have hf := if_t hf c_103
          refine lv_aload_n hx hb dX12_goes_106 rfl (lv_at hl 1 rfl) ?_
          refine lv_iload_n hx hb dX12_goes_107 rfl (lv_at hl 2 rfl) ?_
          refine lv_iload_n hx hb dX12_goes_108 rfl (lv_at hl 0 rfl) ?_
          obtain ⟨S_109, r_109, h_109, hf⟩ := bd_some hf
          refine r_bi hw (r_runV (rest := []) C hw (m_X12_sendsFor l D cA ad base fu h_109) mvX12_sendsFor gw8_205 ⟨rfl, rfl, Nat.le_of_ble_eq_true rfl, Nat.le_of_ble_eq_true rfl⟩ dq_63 ln_63 vc_12 rfl hl.1 rfl (Nat.le_of_ble_eq_true rfl) dX12_goes_109 (Nat.zero_le _) (Nat.zero_le _)) (fun H locs hw => ?_)
          refine lv_if_ne (tgt := 120) hx hb dX12_goes_112 (by decide) (fun c_112 => ?_) (fun c_112 => ?_)
          · have hf := if_f hf c_112
            exact J_120 _ _ _ _ hf (lv_sub hl [1] rfl) hw
          · have hf := if_t hf c_112
            refine lv_aload_n hx hb dX12_goes_115 rfl (lv_at hl 1 rfl) ?_
            refine lv_iconst (v := (3 : Int32)) hx hb dX12_goes_116 (by decide) ?_
            obtain ⟨S_117, r_117, h_117, hf⟩ := bd_some hf
            refine r_bv hw (r_runV (rest := []) C hw (m_X12_ends l D cA ad base fu h_117) mvX12_ends gw8_184 ⟨rfl, rfl, Nat.le_of_ble_eq_true rfl, Nat.le_of_ble_eq_true rfl⟩ dq_63 ln_63 vc_12 rfl hl.1 rfl (Nat.le_of_ble_eq_true rfl) dX12_goes_117 (Nat.zero_le _) (Nat.zero_le _)) (fun H locs hw => ?_)
            exact J_120 _ _ _ _ hf (lv_sub hl [1] rfl) hw
      have J_68 : ∀ (x1 : Int32) (x2 : Int32) (S : St) (H : Heap) (locs : List Loc) (ls : Array Slot), fX12_goes_68 fu (fX12_goes_5 fu n_5) x1 x2 S = some (S', r) → lv_has ls 4 [(0, .ref (ad 63)), (1, .int x1), (2, .int x2)] → WS D cA ad base s S H locs → W p l e rmX12_goes s m args below meth c H locs 0 0 (MQ below (QI D cA ad base S' r) args s 0 0 (aB base)) (F0 m 68 ls []) := by
        intro x1 x2 S H locs ls hf hl hw
        refine lv_iload_n hx hb dX12_goes_68 rfl (lv_at hl 2 rfl) ?_
        refine lv_aload_n hx hb dX12_goes_69 rfl (lv_at hl 0 rfl) ?_
        refine r_getR C hw (k := 58) (r := 100) dq_63 ln_63 rfl vc_12 inX12 (by decide) rfl gw6_239 dX12_goes_70 ?_
        refine lv_iload_n hx hb dX12_goes_73 rfl (lv_at hl 1 rfl) ?_
        obtain ⟨z_74, hf⟩ := gd_some hf
        refine r_iald C hw (x := 100) dq_100 ln_100 z_74 dX12_goes_74 ?_
        refine lv_icmp_eq (tgt := 90) hx hb dX12_goes_75 (by decide) (fun c_75 => ?_) (fun c_75 => ?_)
        · have hf := if_t hf c_75
          exact J_90 _ _ _ _ _ _ hf (lv_sub hl [0, 1, 2] rfl) hw
        · have hf := if_f hf c_75
          refine lv_aload_n hx hb dX12_goes_78 rfl (lv_at hl 0 rfl) ?_
          refine r_getR C hw (k := 58) (r := 100) dq_63 ln_63 rfl vc_12 inX12 (by decide) rfl gw6_239 dX12_goes_79 ?_
          refine lv_iload_n hx hb dX12_goes_82 rfl (lv_at hl 1 rfl) ?_
          refine lv_iload_n hx hb dX12_goes_83 rfl (lv_at hl 2 rfl) ?_
          obtain ⟨z_84, hf⟩ := gd_some hf
          obtain ⟨S_84, e_84, hf⟩ := sI_some hf
          refine r_iast C hw (x := 100) dq_100 ln_100 z_84 dX12_goes_84 e_84 (fun H locs hw => ?_)
          refine lv_aload_n hx hb dX12_goes_85 rfl (lv_at hl 0 rfl) ?_
          refine lv_iload_n hx hb dX12_goes_86 rfl (lv_at hl 1 rfl) ?_
          obtain ⟨S_87, r_87, h_87, hf⟩ := bd_some hf
          refine r_bv hw (r_runV (rest := []) C hw (m_X12_anew l D cA ad base fu h_87) mvX12_anew gw8_168 ⟨rfl, rfl, Nat.le_of_ble_eq_true rfl, Nat.le_of_ble_eq_true rfl⟩ dq_63 ln_63 vc_12 rfl hl.1 rfl (Nat.le_of_ble_eq_true rfl) dX12_goes_87 (Nat.zero_le _) (Nat.zero_le _)) (fun H locs hw => ?_)
          exact J_90 _ _ _ _ _ _ hf (lv_sub hl [0, 1, 2] rfl) hw
      have L_45 : ∀ (n_45 : Nat) (x1 : Int32) (x2 : Int32) (S : St) (H : Heap) (locs : List Loc) (ls : Array Slot), fX12_goes_45 fu (fX12_goes_5 fu n_5) n_45 x1 x2 S = some (S', r) → lv_has ls 4 [(0, .ref (ad 63)), (1, .int x1), (2, .int x2)] → WS D cA ad base s S H locs → W p l e rmX12_goes s m args below meth c H locs 0 0 (MQ below (QI D cA ad base S' r) args s 0 0 (aB base)) (F0 m 45 ls []) := by
        intro n_45
        induction n_45 with
        | zero =>
          intro x1 x2 S H locs ls hf hl hw
          exact (no_none hf).elim
        | succ n_45 ih_45 =>
          intro x1 x2 S H locs ls hf hl hw
          rw [fX12_goes_45_s] at hf
          refine lv_iload_n hx hb dX12_goes_45 rfl (lv_at hl 2 rfl) ?_
          refine lv_if_le (tgt := 68) hx hb dX12_goes_46 (by decide) (fun c_46 => ?_) (fun c_46 => ?_)
          · have hf := if_t hf c_46
            exact J_68 _ _ _ _ _ _ hf (lv_sub hl [0, 1, 2] rfl) hw
          · have hf := if_f hf c_46
            refine lv_aload_n hx hb dX12_goes_49 rfl (lv_at hl 0 rfl) ?_
            refine lv_iload_n hx hb dX12_goes_50 rfl (lv_at hl 2 rfl) ?_
            refine lv_iconst (v := (2 : Int32)) hx hb dX12_goes_51 (by decide) ?_
            obtain ⟨S_52, r_52, h_52, hf⟩ := bd_some hf
            refine r_bi hw (r_runV (rest := []) C hw (m_X12_set l D cA ad base fu h_52) mvX12_set gw8_180 ⟨rfl, rfl, Nat.le_of_ble_eq_true rfl, Nat.le_of_ble_eq_true rfl⟩ dq_63 ln_63 vc_12 rfl hl.1 rfl (Nat.le_of_ble_eq_true rfl) dX12_goes_52 (Nat.zero_le _) (Nat.zero_le _)) (fun H locs hw => ?_)
            refine lv_if_ge (tgt := 68) hx hb dX12_goes_55 (by decide) (fun c_55 => ?_) (fun c_55 => ?_)
            · have hf := if_t hf c_55
              exact J_68 _ _ _ _ _ _ hf (lv_sub hl [0, 1, 2] rfl) hw
            · have hf := if_f hf c_55
              refine lv_aload_n hx hb dX12_goes_58 rfl (lv_at hl 0 rfl) ?_
              refine r_getR C hw (k := 1) (r := 64) dq_63 ln_63 rfl vc_12 inX12 (by decide) rfl gw6_182 dX12_goes_59 ?_
              refine lv_iload_n hx hb dX12_goes_62 rfl (lv_at hl 2 rfl) ?_
              obtain ⟨z_63, hf⟩ := gd_some hf
              refine r_iald C hw (x := 64) dq_64 ln_64 z_63 dX12_goes_63 ?_
              refine lv_istore_n (lv' := [(2, .int (S_52.1 64 (x2).toNatClampNeg)), (0, .ref (ad 63)), (1, .int x1)]) hx hb dX12_goes_64 rfl hl (by decide) rfl (fun ls hl => ?_)
              refine lv_goto (tgt := 45) hx hb dX12_goes_65 (by decide) ?_
              exact ih_45 _ _ _ _ _ _ hf (lv_sub hl [1, 2, 0] rfl) hw
      intro  S H locs ls hf hl hw
      rw [fX12_goes_5_s] at hf
      refine lv_aload_n hx hb dX12_goes_5 rfl (lv_at hl 0 rfl) ?_
      refine r_getI C hw (k := 63) dq_63 ln_63 rfl vc_12 inX12 (by decide) rfl gw7_4 dX12_goes_6 ?_
      refine lv_iconst (v := (4 : Int32)) hx hb dX12_goes_9 (by decide) ?_
      refine lv_icmp_ne (tgt := 123) hx hb dX12_goes_10 (by decide) (fun c_10 => ?_) (fun c_10 => ?_)
      · have hf := if_f hf c_10
        exact J_123 _ _ _ _ hf (lv_sub hl [0] rfl) hw
      · have hf := if_t hf c_10
        refine lv_aload_n hx hb dX12_goes_13 rfl (lv_at hl 0 rfl) ?_
        refine r_getI C hw (k := 67) dq_63 ln_63 rfl vc_12 inX12 (by decide) rfl gw7_8 dX12_goes_14 ?_
        refine lv_if_ne (tgt := 123) hx hb dX12_goes_17 (by decide) (fun c_17 => ?_) (fun c_17 => ?_)
        · have hf := if_f hf c_17
          exact J_123 _ _ _ _ hf (lv_sub hl [0] rfl) hw
        · have hf := if_t hf c_17
          refine lv_aload_n hx hb dX12_goes_20 rfl (lv_at hl 0 rfl) ?_
          refine r_getI C hw (k := 62) dq_63 ln_63 rfl vc_12 inX12 (by decide) rfl gw7_3 dX12_goes_21 ?_
          refine lv_iconst (v := (1 : Int32)) hx hb dX12_goes_24 (by decide) ?_
          refine lv_isub hx hb dX12_goes_25 ?_
          refine lv_istore_n (lv' := [(1, .int ((S.1 63 62) - (1 : Int32))), (0, .ref (ad 63))]) hx hb dX12_goes_26 rfl hl (by decide) rfl (fun ls hl => ?_)
          refine lv_aload_n hx hb dX12_goes_27 rfl (lv_at hl 1 rfl) ?_
          refine lv_iload_n hx hb dX12_goes_28 rfl (lv_at hl 0 rfl) ?_
          obtain ⟨S_29, r_29, h_29, hf⟩ := bd_some hf
          refine r_bi hw (r_runV (rest := []) C hw (m_X12_knows l D cA ad base fu h_29) mvX12_knows gw8_176 ⟨rfl, rfl, Nat.le_of_ble_eq_true rfl, Nat.le_of_ble_eq_true rfl⟩ dq_63 ln_63 vc_12 rfl hl.1 rfl (Nat.le_of_ble_eq_true rfl) dX12_goes_29 (Nat.zero_le _) (Nat.zero_le _)) (fun H locs hw => ?_)
          refine lv_if_eq (tgt := 38) hx hb dX12_goes_32 (by decide) (fun c_32 => ?_) (fun c_32 => ?_)
          · have hf := if_t hf c_32
            refine lv_aload_n hx hb dX12_goes_38 rfl (lv_at hl 1 rfl) ?_
            refine r_getR C hw (k := 55) (r := 97) dq_63 ln_63 rfl vc_12 inX12 (by decide) rfl gw6_236 dX12_goes_39 ?_
            refine lv_iload_n hx hb dX12_goes_42 rfl (lv_at hl 0 rfl) ?_
            obtain ⟨z_43, hf⟩ := gd_some hf
            refine r_iald C hw (x := 97) dq_97 ln_97 z_43 dX12_goes_43 ?_
            refine lv_istore_n (lv' := [(2, .int (S_29.1 97 (((S.1 63 62) - (1 : Int32))).toNatClampNeg)), (1, .int ((S.1 63 62) - (1 : Int32))), (0, .ref (ad 63))]) hx hb dX12_goes_44 rfl hl (by decide) rfl (fun ls hl => ?_)
            exact L_45 fu _ _ _ _ _ _ hf (lv_sub hl [2, 1, 0] rfl) hw
          · have hf := if_f hf c_32
            refine lv_goto (tgt := 5) hx hb dX12_goes_35 (by decide) ?_
            exact ih_5 _ _ _ _ hf (lv_sub hl [1] rfl) hw
  show W p l e rmX12_goes s m args below meth c s.heap [] 0 0 _ _
  refine lv_aload_n hx hb dX12_goes_0 rfl (lv_at hl 0 rfl) ?_
  refine lv_iconst (v := (0 : Int32)) hx hb dX12_goes_1 (by decide) ?_
  obtain ⟨S_2, e_2, hf⟩ := sI_some hf
  refine r_putI C hw (k := 67) (ty0 := tyX12) dq_63 ln_63 rfl vc_12 inX12 tyX12_ok nmX12 (by decide) rfl rfl gw7_8 rfl rfl dX12_goes_2 e_2 (fun H locs hw => ?_)
  exact L_5 fu _ _ _ _ hf (lv_sub hl [0] rfl) hw
noncomputable def fX12_ask_52 (fu : Nat) (x1 : Int32) (x2 : Int32) (t0 : Int32) (S : St) : Option (St × Int32) :=
  bd (fX12_throwsIf fu t0 (3 : Int32) S) fun S_53 r_53 =>
  if r_53 = 0 then
    sI 63 62 (0 : Int32) S_53 fun S_63 =>
    sI 63 65 (0 : Int32) S_63 fun S_68 =>
    sI 63 71 (0 : Int32) S_68 fun S_73 =>
    sI 63 63 (4 : Int32) S_73 fun S_78 =>
    bd (fX12_opens fu x1 x2 S_78) fun S_84 _ =>
    bd (fX12_goes fu S_84) fun S_88 r_88 =>
    some (S_88, r_88)
  else
    some (S_53, (0 : Int32))
noncomputable def fX12_ask_32 (fu : Nat) (x1 : Int32) (x2 : Int32) (t0 : Int32) (S : St) : Option (St × Int32) :=
  bd (fX12_throwsIf fu t0 (2 : Int32) S) fun S_33 r_33 =>
  if r_33 = 0 then
    bd (fX12_isType fu x2 S_33) fun S_41 r_41 =>
    if r_41 = 0 then
      fX12_ask_52 fu x1 x2 (1 : Int32) S_41
    else
      fX12_ask_52 fu x1 x2 (0 : Int32) S_41
  else
    some (S_33, (0 : Int32))
noncomputable def fX12_ask (fu : Nat) (x1 : Int32) (x2 : Int32) (S : St) : Option (St × Int32) :=
  sI 63 0 (0 : Int32) S fun S_2 =>
  bd (fX12_noName fu x1 S_2) fun S_8 r_8 =>
  bd (fX12_throwsIf fu r_8 (1 : Int32) S_8) fun S_12 r_12 =>
  if r_12 = 0 then
    if (S_12.1 63 63) = (4 : Int32) then
      fX12_ask_32 fu x1 x2 (1 : Int32) S_12
    else
      fX12_ask_32 fu x1 x2 (0 : Int32) S_12
  else
    some (S_12, (0 : Int32))
theorem mvX12_ask : MV yX12_ask cX12_ask 3 (some .int) RX12 2 := ⟨gw8_163, gw8_161, gw8_162, gw1_13, by decide +kernel⟩
def rmX12_ask : Room := { frames := 5, cells := 0, slots := 0, locals := 117 }
set_option maxHeartbeats 4000000 in
set_option maxRecDepth 100000 in
theorem m_X12_ask (l : Launch) (D : va_G) (cA : FieldType → ClassId) (ad : Nat → Nat) (base : Nat) (fu : Nat) {S S' : St} {x1 : Int32} {x2 : Int32} {r : Int32} (hf : fX12_ask fu x1 x2 S = some (S', r)) : Met l yX12_ask (GC yX12_ask cX12_ask 3 (some .int)) rmX12_ask (va_Pc [.ref (ad 63), .int x1, .int x2] (wd D cA ad base S)) (QI D cA ad base S' r) 0 0 (aB base) := by
  refine Met.ofW (cc := cX12_ask) (maxL := 3) (ret := (some .int)) (by decide) rfl ?_
  intro p e s m args below meth c s₁ B hml hv
  obtain ⟨hargs, hwd⟩ := hv
  have hr := B.returns
  have hlocks := B.notSynchronized
  obtain ⟨C, hw⟩ := CX.of (own := RX12) rfl B hml hwd
  have hx := C.1
  have hb := C.2.1
  have hl := lv_entry ([.ref (ad 63), .int x1, .int x2]) (n := 3) (Nat.le_of_ble_eq_true rfl)
  rw [show entryFrame m args 3 = entryFrame m ([.ref (ad 63), .int x1, .int x2] : List Value).toArray 3 from by rw [hargs], lg_entry_eq]
  generalize (lg_sl ([.ref (ad 63), .int x1, .int x2]) ++ List.replicate (3 - (lg_sl ([.ref (ad 63), .int x1, .int x2])).length) Slot.unset).toArray = ls at hl ⊢
  have hl : lv_has ls 3 [(0, .ref (ad 63)), (1, .int x1), (2, .int x2)] := hl
  have J_52 : ∀ (x1 : Int32) (x2 : Int32) (t0 : Int32) (S : St) (H : Heap) (locs : List Loc) (ls : Array Slot), fX12_ask_52 fu x1 x2 t0 S = some (S', r) → lv_has ls 3 [(0, .ref (ad 63)), (1, .int x1), (2, .int x2)] → WS D cA ad base s S H locs → W p l e rmX12_ask s m args below meth c H locs 0 0 (MQ below (QI D cA ad base S' r) args s 0 0 (aB base)) (F0 m 52 ls [.int t0, .ref (ad 63)]) := by
    intro x1 x2 t0 S H locs ls hf hl hw
    refine lv_iconst (v := (3 : Int32)) hx hb dX12_ask_52 (by decide) ?_
    obtain ⟨S_53, r_53, h_53, hf⟩ := bd_some hf
    refine r_bi hw (r_runV (rest := []) C hw (m_X12_throwsIf l D cA ad base fu h_53) mvX12_throwsIf gw7_189 ⟨rfl, rfl, Nat.le_of_ble_eq_true rfl, Nat.le_of_ble_eq_true rfl⟩ dq_63 ln_63 vc_12 rfl hl.1 rfl (Nat.le_of_ble_eq_true rfl) dX12_ask_53 (Nat.zero_le _) (Nat.zero_le _)) (fun H locs hw => ?_)
    refine lv_if_eq (tgt := 61) hx hb dX12_ask_56 (by decide) (fun c_56 => ?_) (fun c_56 => ?_)
    · have hf := if_t hf c_56
      refine lv_aload_n hx hb dX12_ask_61 rfl (lv_at hl 0 rfl) ?_
      refine lv_iconst (v := (0 : Int32)) hx hb dX12_ask_62 (by decide) ?_
      obtain ⟨S_63, e_63, hf⟩ := sI_some hf
      refine r_putI C hw (k := 62) (ty0 := tyX12) dq_63 ln_63 rfl vc_12 inX12 tyX12_ok nmX12 (by decide) rfl rfl gw7_3 rfl rfl dX12_ask_63 e_63 (fun H locs hw => ?_)
      refine lv_aload_n hx hb dX12_ask_66 rfl (lv_at hl 0 rfl) ?_
      refine lv_iconst (v := (0 : Int32)) hx hb dX12_ask_67 (by decide) ?_
      obtain ⟨S_68, e_68, hf⟩ := sI_some hf
      refine r_putI C hw (k := 65) (ty0 := tyX12) dq_63 ln_63 rfl vc_12 inX12 tyX12_ok nmX12 (by decide) rfl rfl gw7_6 rfl rfl dX12_ask_68 e_68 (fun H locs hw => ?_)
      refine lv_aload_n hx hb dX12_ask_71 rfl (lv_at hl 0 rfl) ?_
      refine lv_iconst (v := (0 : Int32)) hx hb dX12_ask_72 (by decide) ?_
      obtain ⟨S_73, e_73, hf⟩ := sI_some hf
      refine r_putI C hw (k := 71) (ty0 := tyX12) dq_63 ln_63 rfl vc_12 inX12 tyX12_ok nmX12 (by decide) rfl rfl gw7_12 rfl rfl dX12_ask_73 e_73 (fun H locs hw => ?_)
      refine lv_aload_n hx hb dX12_ask_76 rfl (lv_at hl 0 rfl) ?_
      refine lv_iconst (v := (4 : Int32)) hx hb dX12_ask_77 (by decide) ?_
      obtain ⟨S_78, e_78, hf⟩ := sI_some hf
      refine r_putI C hw (k := 63) (ty0 := tyX12) dq_63 ln_63 rfl vc_12 inX12 tyX12_ok nmX12 (by decide) rfl rfl gw7_4 rfl rfl dX12_ask_78 e_78 (fun H locs hw => ?_)
      refine lv_aload_n hx hb dX12_ask_81 rfl (lv_at hl 0 rfl) ?_
      refine lv_iload_n hx hb dX12_ask_82 rfl (lv_at hl 1 rfl) ?_
      refine lv_iload_n hx hb dX12_ask_83 rfl (lv_at hl 2 rfl) ?_
      obtain ⟨S_84, r_84, h_84, hf⟩ := bd_some hf
      refine r_bv hw (r_runV (rest := []) C hw (m_X12_opens l D cA ad base fu h_84) mvX12_opens gw8_164 ⟨rfl, rfl, Nat.le_of_ble_eq_true rfl, Nat.le_of_ble_eq_true rfl⟩ dq_63 ln_63 vc_12 rfl hl.1 rfl (Nat.le_of_ble_eq_true rfl) dX12_ask_84 (Nat.zero_le _) (Nat.zero_le _)) (fun H locs hw => ?_)
      refine lv_aload_n hx hb dX12_ask_87 rfl (lv_at hl 0 rfl) ?_
      obtain ⟨S_88, r_88, h_88, hf⟩ := bd_some hf
      refine r_bi hw (r_runV (rest := []) C hw (m_X12_goes l D cA ad base fu h_88) mvX12_goes gw8_172 ⟨rfl, rfl, Nat.le_of_ble_eq_true rfl, Nat.le_of_ble_eq_true rfl⟩ dq_63 ln_63 vc_12 rfl hl.1 rfl (Nat.le_of_ble_eq_true rfl) dX12_ask_88 (Nat.zero_le _) (Nat.zero_le _)) (fun H locs hw => ?_)
      exact r_iret C hw hr hlocks hf dX12_ask_91
    · have hf := if_f hf c_56
      refine lv_iconst (v := (0 : Int32)) hx hb dX12_ask_59 (by decide) ?_
      exact r_iret C hw hr hlocks hf dX12_ask_60
  have J_32 : ∀ (x1 : Int32) (x2 : Int32) (t0 : Int32) (S : St) (H : Heap) (locs : List Loc) (ls : Array Slot), fX12_ask_32 fu x1 x2 t0 S = some (S', r) → lv_has ls 3 [(0, .ref (ad 63)), (1, .int x1), (2, .int x2)] → WS D cA ad base s S H locs → W p l e rmX12_ask s m args below meth c H locs 0 0 (MQ below (QI D cA ad base S' r) args s 0 0 (aB base)) (F0 m 32 ls [.int t0, .ref (ad 63)]) := by
    intro x1 x2 t0 S H locs ls hf hl hw
    refine lv_iconst (v := (2 : Int32)) hx hb dX12_ask_32 (by decide) ?_
    obtain ⟨S_33, r_33, h_33, hf⟩ := bd_some hf
    refine r_bi hw (r_runV (rest := []) C hw (m_X12_throwsIf l D cA ad base fu h_33) mvX12_throwsIf gw7_189 ⟨rfl, rfl, Nat.le_of_ble_eq_true rfl, Nat.le_of_ble_eq_true rfl⟩ dq_63 ln_63 vc_12 rfl hl.1 rfl (Nat.le_of_ble_eq_true rfl) dX12_ask_33 (Nat.zero_le _) (Nat.zero_le _)) (fun H locs hw => ?_)
    refine lv_if_ne (tgt := 59) hx hb dX12_ask_36 (by decide) (fun c_36 => ?_) (fun c_36 => ?_)
    · have hf := if_f hf c_36
      refine lv_iconst (v := (0 : Int32)) hx hb dX12_ask_59 (by decide) ?_
      exact r_iret C hw hr hlocks hf dX12_ask_60
    · have hf := if_t hf c_36
      refine lv_aload_n hx hb dX12_ask_39 rfl (lv_at hl 0 rfl) ?_
      refine lv_iload_n hx hb dX12_ask_40 rfl (lv_at hl 2 rfl) ?_
      obtain ⟨S_41, r_41, h_41, hf⟩ := bd_some hf
      refine r_bi hw (r_runS (rest := [.ref (ad 63)]) C hw (m_X12_isType l D cA ad base fu h_41) msX12_isType gw8_5 ⟨rfl, rfl, Nat.le_of_ble_eq_true rfl, Nat.le_of_ble_eq_true rfl⟩ rfl hl.1 rfl (Nat.le_of_ble_eq_true rfl) dX12_ask_41 (Nat.zero_le _) (Nat.zero_le _)) (fun H locs hw => ?_)
      refine lv_if_ne (tgt := 51) hx hb dX12_ask_44 (by decide) (fun c_44 => ?_) (fun c_44 => ?_)
      · have hf := if_f hf c_44
        refine lv_iconst (v := (0 : Int32)) hx hb dX12_ask_51 (by decide) ?_
        exact J_52 _ _ _ _ _ _ _ hf (lv_sub hl [0, 1, 2] rfl) hw
      · have hf := if_t hf c_44
        refine lv_iconst (v := (1 : Int32)) hx hb dX12_ask_47 (by decide) ?_
        refine lv_goto (tgt := 52) hx hb dX12_ask_48 (by decide) ?_
        exact J_52 _ _ _ _ _ _ _ hf (lv_sub hl [0, 1, 2] rfl) hw
  show W p l e rmX12_ask s m args below meth c s.heap [] 0 0 _ _
  refine lv_aload_n hx hb dX12_ask_0 rfl (lv_at hl 0 rfl) ?_
  refine lv_iconst (v := (0 : Int32)) hx hb dX12_ask_1 (by decide) ?_
  obtain ⟨S_2, e_2, hf⟩ := sI_some hf
  refine r_putI C hw (k := 0) (ty0 := tyX12) dq_63 ln_63 rfl vc_12 inX12 tyX12_ok nmX12 (by decide) rfl rfl gw6_181 rfl rfl dX12_ask_2 e_2 (fun H locs hw => ?_)
  refine lv_aload_n hx hb dX12_ask_5 rfl (lv_at hl 0 rfl) ?_
  refine lv_aload_n hx hb dX12_ask_6 rfl (lv_at hl 0 rfl) ?_
  refine lv_iload_n hx hb dX12_ask_7 rfl (lv_at hl 1 rfl) ?_
  obtain ⟨S_8, r_8, h_8, hf⟩ := bd_some hf
  refine r_bi hw (r_runV (rest := [.ref (ad 63)]) C hw (m_X12_noName l D cA ad base fu h_8) mvX12_noName gw7_213 ⟨rfl, rfl, Nat.le_of_ble_eq_true rfl, Nat.le_of_ble_eq_true rfl⟩ dq_63 ln_63 vc_12 rfl hl.1 rfl (Nat.le_of_ble_eq_true rfl) dX12_ask_8 (Nat.zero_le _) (Nat.zero_le _)) (fun H locs hw => ?_)
  refine lv_iconst (v := (1 : Int32)) hx hb dX12_ask_11 (by decide) ?_
  obtain ⟨S_12, r_12, h_12, hf⟩ := bd_some hf
  refine r_bi hw (r_runV (rest := []) C hw (m_X12_throwsIf l D cA ad base fu h_12) mvX12_throwsIf gw7_189 ⟨rfl, rfl, Nat.le_of_ble_eq_true rfl, Nat.le_of_ble_eq_true rfl⟩ dq_63 ln_63 vc_12 rfl hl.1 rfl (Nat.le_of_ble_eq_true rfl) dX12_ask_12 (Nat.zero_le _) (Nat.zero_le _)) (fun H locs hw => ?_)
  refine lv_if_ne (tgt := 59) hx hb dX12_ask_15 (by decide) (fun c_15 => ?_) (fun c_15 => ?_)
  · have hf := if_f hf c_15
    refine lv_iconst (v := (0 : Int32)) hx hb dX12_ask_59 (by decide) ?_
    exact r_iret C hw hr hlocks hf dX12_ask_60
  · have hf := if_t hf c_15
    refine lv_aload_n hx hb dX12_ask_18 rfl (lv_at hl 0 rfl) ?_
    refine lv_aload_n hx hb dX12_ask_19 rfl (lv_at hl 0 rfl) ?_
    refine r_getI C hw (k := 63) dq_63 ln_63 rfl vc_12 inX12 (by decide) rfl gw7_4 dX12_ask_20 ?_
    refine lv_iconst (v := (4 : Int32)) hx hb dX12_ask_23 (by decide) ?_
    refine lv_icmp_ne (tgt := 31) hx hb dX12_ask_24 (by decide) (fun c_24 => ?_) (fun c_24 => ?_)
    · have hf := if_f hf c_24
      refine lv_iconst (v := (0 : Int32)) hx hb dX12_ask_31 (by decide) ?_
      exact J_32 _ _ _ _ _ _ _ hf (lv_sub hl [0, 1, 2] rfl) hw
    · have hf := if_t hf c_24
      refine lv_iconst (v := (1 : Int32)) hx hb dX12_ask_27 (by decide) ?_
      refine lv_goto (tgt := 32) hx hb dX12_ask_28 (by decide) ?_
      exact J_32 _ _ _ _ _ _ _ hf (lv_sub hl [0, 1, 2] rfl) hw
