noncomputable def fX12_says_161 (fu : Nat) (S : St) : Option (St × Int32) :=
  if (S.1 63 27) ≤ (1000 : Int32) then
    some (S, (S.1 63 27))
  else
    some (S, (0 : Int32))
noncomputable def fX12_says_145 (fu : Nat) (x3 : Int32) (x4 : Int32) (x5 : Int32) (t0 : Int32) (t1 : Int32) (t2 : Int32) (S : St) : Option (St × Int32) :=
  bd (fX12_putTop fu t2 (t1 ||| t0) (0 : Int32) (1 : Int32) (0 : Int32) x3 x4 S) fun S_152 _ =>
  bd (fX12_putSoa fu x5 S_152) fun S_158 _ =>
  fX12_says_161 fu S_158
noncomputable def fX12_says_98 (fu : Nat) (x2 : Int32) (x3 : Int32) (x4 : Int32) (x5 : Int32) (x7 : Int32) (S : St) : Option (St × Int32) :=
  if x7 ≤ 0 then
    bd (fX12_hasBelow fu x5 x3 S) fun S_134 r_134 =>
    if r_134 = 0 then
      fX12_says_145 fu x3 x4 x5 (3 : Int32) (1024 : Int32) x2 S_134
    else
      fX12_says_145 fu x3 x4 x5 (0 : Int32) (1024 : Int32) x2 S_134
  else
    bd (fX12_putTop fu x2 (1024 : Int32) x7 (0 : Int32) (0 : Int32) x3 x4 S) fun S_115 _ =>
    bd (fX12_putTold fu S_115) fun S_119 _ =>
    fX12_says_161 fu S_119
noncomputable def fX12_says_79 (fu : Nat) (x2 : Int32) (x3 : Int32) (x4 : Int32) (x5 : Int32) (t0 : Int32) (S : St) : Option (St × Int32) :=
  if t0 = 0 then
    bd (fX12_tells fu x5 x3 x4 (0 : Int32) S) fun S_93 r_93 =>
    fX12_says_98 fu x2 x3 x4 x5 r_93 S_93
  else
    fX12_says_98 fu x2 x3 x4 x5 t0 S
noncomputable def fX12_says (fu : Nat) (x1 : Int32) (x2 : Int32) (x3 : Int32) (x4 : Int32) (S : St) : Option (St × Int32) :=
  bd (fX12_zoneFor fu x1 x3 S) fun S_3 r_3 =>
  if 0 ≤ r_3 then
    bd (fX12_cutOf fu r_3 x3 S_3) fun S_19 r_19 =>
    if r_19 < 0 then
      if x4 = (5 : Int32) then
        fX12_says_79 fu x2 x3 x4 r_3 (0 : Int32) S_19
      else
        bd (fX12_tells fu r_3 x3 (5 : Int32) (1 : Int32) S_19) fun S_72 r_72 =>
        fX12_says_79 fu x2 x3 x4 r_3 r_72 S_72
    else
      bd (fX12_refers fu r_3 r_19 x2 x3 x4 S_19) fun S_38 _ =>
      if (S_38.1 63 27) ≤ (1000 : Int32) then
        some (S_38, (S_38.1 63 27))
      else
        some (S_38, (0 : Int32))
  else
    some (S_3, (0 : Int32))
theorem mvX12_says : MV yX12_says cX12_says 8 (some .int) RX12 4 := ⟨gw8_47, gw8_46, gs_55, gw1_13, by decide +kernel⟩
def rmX12_says : Room := { frames := 7, cells := 0, slots := 0, locals := 160 }
set_option maxHeartbeats 4000000 in
set_option maxRecDepth 100000 in
theorem m_X12_says (l : Launch) (D : va_G) (cA : FieldType → ClassId) (ad : Nat → Nat) (base : Nat) (fu : Nat) {S S' : St} {x1 : Int32} {x2 : Int32} {x3 : Int32} {x4 : Int32} {r : Int32} (hf : fX12_says fu x1 x2 x3 x4 S = some (S', r)) : Met l yX12_says (GC yX12_says cX12_says 8 (some .int)) rmX12_says (va_Pc [.ref (ad 63), .int x1, .int x2, .int x3, .int x4] (wd D cA ad base S)) (QI D cA ad base S' r) 0 0 (aB base) := by
  refine Met.ofW (cc := cX12_says) (maxL := 8) (ret := (some .int)) (by decide) rfl ?_
  intro p e s m args below meth c s₁ B hml hv
  obtain ⟨hargs, hwd⟩ := hv
  have hr := B.returns
  have hlocks := B.notSynchronized
  obtain ⟨C, hw⟩ := CX.of (own := RX12) rfl B hml hwd
  have hx := C.1
  have hb := C.2.1
  have hl := lv_entry ([.ref (ad 63), .int x1, .int x2, .int x3, .int x4]) (n := 8) (Nat.le_of_ble_eq_true rfl)
  rw [show entryFrame m args 8 = entryFrame m ([.ref (ad 63), .int x1, .int x2, .int x3, .int x4] : List Value).toArray 8 from by rw [hargs], lg_entry_eq]
  generalize (lg_sl ([.ref (ad 63), .int x1, .int x2, .int x3, .int x4]) ++ List.replicate (8 - (lg_sl ([.ref (ad 63), .int x1, .int x2, .int x3, .int x4])).length) Slot.unset).toArray = ls at hl ⊢
  have hl : lv_has ls 8 [(0, .ref (ad 63)), (1, .int x1), (2, .int x2), (3, .int x3), (4, .int x4)] := hl
  have J_161 : ∀ (S : St) (H : Heap) (locs : List Loc) (ls : Array Slot), fX12_says_161 fu S = some (S', r) → lv_has ls 8 [(0, .ref (ad 63))] → WS D cA ad base s S H locs → W p l e rmX12_says s m args below meth c H locs 0 0 (MQ below (QI D cA ad base S' r) args s 0 0 (aB base)) (F0 m 161 ls []) := by
    intro  S H locs ls hf hl hw
    refine lv_aload_n hx hb dX12_says_161 rfl (lv_at hl 0 rfl) ?_
    refine r_getI C hw (k := 27) dq_63 ln_63 rfl vc_12 inX12 (by decide) rfl gw6_208 dX12_says_162 ?_
    refine lv_sipush (v := (1000 : Int32)) hx hb dX12_says_165 (by decide) ?_
    refine lv_icmp_le (tgt := 175) hx hb dX12_says_168 (by decide) (fun c_168 => ?_) (fun c_168 => ?_)
    · have hf := if_t hf c_168
      refine lv_aload_n hx hb dX12_says_175 rfl (lv_at hl 0 rfl) ?_
      refine r_getI C hw (k := 27) dq_63 ln_63 rfl vc_12 inX12 (by decide) rfl gw6_208 dX12_says_176 ?_
      exact r_iret C hw hr hlocks hf dX12_says_179
    · have hf := if_f hf c_168
      refine lv_iconst (v := (0 : Int32)) hx hb dX12_says_171 (by decide) ?_
      refine lv_goto (tgt := 179) hx hb dX12_says_172 (by decide) ?_
      exact r_iret C hw hr hlocks hf dX12_says_179
  have J_145 : ∀ (x3 : Int32) (x4 : Int32) (x5 : Int32) (t0 : Int32) (t1 : Int32) (t2 : Int32) (S : St) (H : Heap) (locs : List Loc) (ls : Array Slot), fX12_says_145 fu x3 x4 x5 t0 t1 t2 S = some (S', r) → lv_has ls 8 [(0, .ref (ad 63)), (3, .int x3), (4, .int x4), (5, .int x5)] → WS D cA ad base s S H locs → W p l e rmX12_says s m args below meth c H locs 0 0 (MQ below (QI D cA ad base S' r) args s 0 0 (aB base)) (F0 m 145 ls [.int t0, .int t1, .int t2, .ref (ad 63)]) := by
    intro x3 x4 x5 t0 t1 t2 S H locs ls hf hl hw
    refine lv_ior hx hb dX12_says_145 ?_
    refine lv_iconst (v := (0 : Int32)) hx hb dX12_says_146 (by decide) ?_
    refine lv_iconst (v := (1 : Int32)) hx hb dX12_says_147 (by decide) ?_
    refine lv_iconst (v := (0 : Int32)) hx hb dX12_says_148 (by decide) ?_
    refine lv_iload_n hx hb dX12_says_149 rfl (lv_at hl 1 rfl) ?_
    refine lv_iload hx hb dX12_says_150 (lv_at hl 2 rfl) ?_
    obtain ⟨S_152, r_152, h_152, hf⟩ := bd_some hf
    refine r_bv hw (r_runV (rest := []) C hw (m_X12_putTop l D cA ad base fu h_152) mvX12_putTop gw8_68 ⟨rfl, rfl, Nat.le_of_ble_eq_true rfl, Nat.le_of_ble_eq_true rfl⟩ dq_63 ln_63 vc_12 rfl hl.1 rfl (Nat.le_of_ble_eq_true rfl) dX12_says_152 (Nat.zero_le _) (Nat.zero_le _)) (fun H locs hw => ?_)
    refine lv_aload_n hx hb dX12_says_155 rfl (lv_at hl 0 rfl) ?_
    refine lv_iload hx hb dX12_says_156 (lv_at hl 3 rfl) ?_
    obtain ⟨S_158, r_158, h_158, hf⟩ := bd_some hf
    refine r_bv hw (r_runV (rest := []) C hw (m_X12_putSoa l D cA ad base fu h_158) mvX12_putSoa gw8_106 ⟨rfl, rfl, Nat.le_of_ble_eq_true rfl, Nat.le_of_ble_eq_true rfl⟩ dq_63 ln_63 vc_12 rfl hl.1 rfl (Nat.le_of_ble_eq_true rfl) dX12_says_158 (Nat.zero_le _) (Nat.zero_le _)) (fun H locs hw => ?_)
    exact J_161 _ _ _ _ hf (lv_sub hl [0] rfl) hw
  have J_98 : ∀ (x2 : Int32) (x3 : Int32) (x4 : Int32) (x5 : Int32) (x7 : Int32) (S : St) (H : Heap) (locs : List Loc) (ls : Array Slot), fX12_says_98 fu x2 x3 x4 x5 x7 S = some (S', r) → lv_has ls 8 [(0, .ref (ad 63)), (2, .int x2), (3, .int x3), (4, .int x4), (5, .int x5), (7, .int x7)] → WS D cA ad base s S H locs → W p l e rmX12_says s m args below meth c H locs 0 0 (MQ below (QI D cA ad base S' r) args s 0 0 (aB base)) (F0 m 98 ls []) := by
    intro x2 x3 x4 x5 x7 S H locs ls hf hl hw
    refine lv_iload hx hb dX12_says_98 (lv_at hl 5 rfl) ?_
    refine lv_if_le (tgt := 125) hx hb dX12_says_100 (by decide) (fun c_100 => ?_) (fun c_100 => ?_)
    · have hf := if_t hf c_100
      refine lv_aload_n hx hb dX12_says_125 rfl (lv_at hl 0 rfl) ?_
      refine lv_iload_n hx hb dX12_says_126 rfl (lv_at hl 1 rfl) ?_
      refine lv_sipush (v := (1024 : Int32)) hx hb dX12_says_127 (by decide) ?_
      refine lv_aload_n hx hb dX12_says_130 rfl (lv_at hl 0 rfl) ?_
      refine lv_iload hx hb dX12_says_131 (lv_at hl 4 rfl) ?_
      refine lv_iload_n hx hb dX12_says_133 rfl (lv_at hl 2 rfl) ?_
      obtain ⟨S_134, r_134, h_134, hf⟩ := bd_some hf
      refine r_bi hw (r_runV (rest := [.int (1024 : Int32), .int x2, .ref (ad 63)]) C hw (m_X12_hasBelow l D cA ad base fu h_134) mvX12_hasBelow gw8_102 ⟨rfl, rfl, Nat.le_of_ble_eq_true rfl, Nat.le_of_ble_eq_true rfl⟩ dq_63 ln_63 vc_12 rfl hl.1 rfl (Nat.le_of_ble_eq_true rfl) dX12_says_134 (Nat.zero_le _) (Nat.zero_le _)) (fun H locs hw => ?_)
      refine lv_if_eq (tgt := 144) hx hb dX12_says_137 (by decide) (fun c_137 => ?_) (fun c_137 => ?_)
      · have hf := if_t hf c_137
        refine lv_iconst (v := (3 : Int32)) hx hb dX12_says_144 (by decide) ?_
        exact J_145 _ _ _ _ _ _ _ _ _ _ hf (lv_sub hl [0, 2, 3, 4] rfl) hw
      · have hf := if_f hf c_137
        refine lv_iconst (v := (0 : Int32)) hx hb dX12_says_140 (by decide) ?_
        refine lv_goto (tgt := 145) hx hb dX12_says_141 (by decide) ?_
        exact J_145 _ _ _ _ _ _ _ _ _ _ hf (lv_sub hl [0, 2, 3, 4] rfl) hw
    · have hf := if_f hf c_100
      refine lv_aload_n hx hb dX12_says_103 rfl (lv_at hl 0 rfl) ?_
      refine lv_iload_n hx hb dX12_says_104 rfl (lv_at hl 1 rfl) ?_
      refine lv_sipush (v := (1024 : Int32)) hx hb dX12_says_105 (by decide) ?_
      refine lv_iload hx hb dX12_says_108 (lv_at hl 5 rfl) ?_
      refine lv_iconst (v := (0 : Int32)) hx hb dX12_says_110 (by decide) ?_
      refine lv_iconst (v := (0 : Int32)) hx hb dX12_says_111 (by decide) ?_
      refine lv_iload_n hx hb dX12_says_112 rfl (lv_at hl 2 rfl) ?_
      refine lv_iload hx hb dX12_says_113 (lv_at hl 3 rfl) ?_
      obtain ⟨S_115, r_115, h_115, hf⟩ := bd_some hf
      refine r_bv hw (r_runV (rest := []) C hw (m_X12_putTop l D cA ad base fu h_115) mvX12_putTop gw8_68 ⟨rfl, rfl, Nat.le_of_ble_eq_true rfl, Nat.le_of_ble_eq_true rfl⟩ dq_63 ln_63 vc_12 rfl hl.1 rfl (Nat.le_of_ble_eq_true rfl) dX12_says_115 (Nat.zero_le _) (Nat.zero_le _)) (fun H locs hw => ?_)
      refine lv_aload_n hx hb dX12_says_118 rfl (lv_at hl 0 rfl) ?_
      obtain ⟨S_119, r_119, h_119, hf⟩ := bd_some hf
      refine r_bv hw (r_runV (rest := []) C hw (m_X12_putTold l D cA ad base fu h_119) mvX12_putTold gw8_86 ⟨rfl, rfl, Nat.le_of_ble_eq_true rfl, Nat.le_of_ble_eq_true rfl⟩ dq_63 ln_63 vc_12 rfl hl.1 rfl (Nat.le_of_ble_eq_true rfl) dX12_says_119 (Nat.zero_le _) (Nat.zero_le _)) (fun H locs hw => ?_)
      refine lv_goto (tgt := 161) hx hb dX12_says_122 (by decide) ?_
      exact J_161 _ _ _ _ hf (lv_sub hl [0] rfl) hw
  have J_79 : ∀ (x2 : Int32) (x3 : Int32) (x4 : Int32) (x5 : Int32) (t0 : Int32) (S : St) (H : Heap) (locs : List Loc) (ls : Array Slot), fX12_says_79 fu x2 x3 x4 x5 t0 S = some (S', r) → lv_has ls 8 [(0, .ref (ad 63)), (2, .int x2), (3, .int x3), (4, .int x4), (5, .int x5)] → WS D cA ad base s S H locs → W p l e rmX12_says s m args below meth c H locs 0 0 (MQ below (QI D cA ad base S' r) args s 0 0 (aB base)) (F0 m 79 ls [.int t0]) := by
    intro x2 x3 x4 x5 t0 S H locs ls hf hl hw
    refine lv_istore (lv' := [(7, .int t0), (0, .ref (ad 63)), (2, .int x2), (3, .int x3), (4, .int x4), (5, .int x5)]) hx hb dX12_says_79 hl (by decide) rfl (fun ls hl => ?_)
    refine lv_iload hx hb dX12_says_81 (lv_at hl 0 rfl) ?_
    refine lv_if_ne (tgt := 98) hx hb dX12_says_83 (by decide) (fun c_83 => ?_) (fun c_83 => ?_)
    · have hf := if_f hf c_83
      exact J_98 _ _ _ _ _ _ _ _ _ hf (lv_sub hl [1, 2, 3, 4, 5, 0] rfl) hw
    · have hf := if_t hf c_83
      refine lv_aload_n hx hb dX12_says_86 rfl (lv_at hl 1 rfl) ?_
      refine lv_iload hx hb dX12_says_87 (lv_at hl 5 rfl) ?_
      refine lv_iload_n hx hb dX12_says_89 rfl (lv_at hl 3 rfl) ?_
      refine lv_iload hx hb dX12_says_90 (lv_at hl 4 rfl) ?_
      refine lv_iconst (v := (0 : Int32)) hx hb dX12_says_92 (by decide) ?_
      obtain ⟨S_93, r_93, h_93, hf⟩ := bd_some hf
      refine r_bi hw (r_runV (rest := []) C hw (m_X12_tells l D cA ad base fu h_93) mvX12_tells gw8_64 ⟨rfl, rfl, Nat.le_of_ble_eq_true rfl, Nat.le_of_ble_eq_true rfl⟩ dq_63 ln_63 vc_12 rfl hl.1 rfl (Nat.le_of_ble_eq_true rfl) dX12_says_93 (Nat.zero_le _) (Nat.zero_le _)) (fun H locs hw => ?_)
      refine lv_istore (lv' := [(7, .int r_93), (0, .ref (ad 63)), (2, .int x2), (3, .int x3), (4, .int x4), (5, .int x5)]) hx hb dX12_says_96 hl (by decide) rfl (fun ls hl => ?_)
      exact J_98 _ _ _ _ _ _ _ _ _ hf (lv_sub hl [1, 2, 3, 4, 5, 0] rfl) hw
  show W p l e rmX12_says s m args below meth c s.heap [] 0 0 _ _
  refine lv_aload_n hx hb dX12_says_0 rfl (lv_at hl 0 rfl) ?_
  refine lv_iload_n hx hb dX12_says_1 rfl (lv_at hl 1 rfl) ?_
  refine lv_iload_n hx hb dX12_says_2 rfl (lv_at hl 3 rfl) ?_
  obtain ⟨S_3, r_3, h_3, hf⟩ := bd_some hf
  refine r_bi hw (r_runV (rest := []) C hw (m_X12_zoneFor l D cA ad base fu h_3) mvX12_zoneFor gw8_48 ⟨rfl, rfl, Nat.le_of_ble_eq_true rfl, Nat.le_of_ble_eq_true rfl⟩ dq_63 ln_63 vc_12 rfl hl.1 rfl (Nat.le_of_ble_eq_true rfl) dX12_says_3 (Nat.zero_le _) (Nat.zero_le _)) (fun H locs hw => ?_)
  refine lv_istore (lv' := [(5, .int r_3), (0, .ref (ad 63)), (1, .int x1), (2, .int x2), (3, .int x3), (4, .int x4)]) hx hb dX12_says_6 hl (by decide) rfl (fun ls hl => ?_)
  refine lv_iload hx hb dX12_says_8 (lv_at hl 0 rfl) ?_
  refine lv_if_ge (tgt := 15) hx hb dX12_says_10 (by decide) (fun c_10 => ?_) (fun c_10 => ?_)
  · have hf := if_t hf c_10
    refine lv_aload_n hx hb dX12_says_15 rfl (lv_at hl 1 rfl) ?_
    refine lv_iload hx hb dX12_says_16 (lv_at hl 0 rfl) ?_
    refine lv_iload_n hx hb dX12_says_18 rfl (lv_at hl 4 rfl) ?_
    obtain ⟨S_19, r_19, h_19, hf⟩ := bd_some hf
    refine r_bi hw (r_runV (rest := []) C hw (m_X12_cutOf l D cA ad base fu h_19) mvX12_cutOf gw8_52 ⟨rfl, rfl, Nat.le_of_ble_eq_true rfl, Nat.le_of_ble_eq_true rfl⟩ dq_63 ln_63 vc_12 rfl hl.1 rfl (Nat.le_of_ble_eq_true rfl) dX12_says_19 (Nat.zero_le _) (Nat.zero_le _)) (fun H locs hw => ?_)
    refine lv_istore (lv' := [(6, .int r_19), (5, .int r_3), (0, .ref (ad 63)), (1, .int x1), (2, .int x2), (3, .int x3), (4, .int x4)]) hx hb dX12_says_22 hl (by decide) rfl (fun ls hl => ?_)
    refine lv_iload hx hb dX12_says_24 (lv_at hl 0 rfl) ?_
    refine lv_if_lt (tgt := 60) hx hb dX12_says_26 (by decide) (fun c_26 => ?_) (fun c_26 => ?_)
    · have hf := if_t hf c_26
      refine lv_iload hx hb dX12_says_60 (lv_at hl 6 rfl) ?_
      refine lv_iconst (v := (5 : Int32)) hx hb dX12_says_62 (by decide) ?_
      refine lv_icmp_eq (tgt := 78) hx hb dX12_says_63 (by decide) (fun c_63 => ?_) (fun c_63 => ?_)
      · have hf := if_t hf c_63
        refine lv_iconst (v := (0 : Int32)) hx hb dX12_says_78 (by decide) ?_
        exact J_79 _ _ _ _ _ _ _ _ _ hf (lv_sub hl [2, 4, 5, 6, 1] rfl) hw
      · have hf := if_f hf c_63
        refine lv_aload_n hx hb dX12_says_66 rfl (lv_at hl 2 rfl) ?_
        refine lv_iload hx hb dX12_says_67 (lv_at hl 1 rfl) ?_
        refine lv_iload_n hx hb dX12_says_69 rfl (lv_at hl 5 rfl) ?_
        refine lv_iconst (v := (5 : Int32)) hx hb dX12_says_70 (by decide) ?_
        refine lv_iconst (v := (1 : Int32)) hx hb dX12_says_71 (by decide) ?_
        obtain ⟨S_72, r_72, h_72, hf⟩ := bd_some hf
        refine r_bi hw (r_runV (rest := []) C hw (m_X12_tells l D cA ad base fu h_72) mvX12_tells gw8_64 ⟨rfl, rfl, Nat.le_of_ble_eq_true rfl, Nat.le_of_ble_eq_true rfl⟩ dq_63 ln_63 vc_12 rfl hl.1 rfl (Nat.le_of_ble_eq_true rfl) dX12_says_72 (Nat.zero_le _) (Nat.zero_le _)) (fun H locs hw => ?_)
        refine lv_goto (tgt := 79) hx hb dX12_says_75 (by decide) ?_
        exact J_79 _ _ _ _ _ _ _ _ _ hf (lv_sub hl [2, 4, 5, 6, 1] rfl) hw
    · have hf := if_f hf c_26
      refine lv_aload_n hx hb dX12_says_29 rfl (lv_at hl 2 rfl) ?_
      refine lv_iload hx hb dX12_says_30 (lv_at hl 1 rfl) ?_
      refine lv_iload hx hb dX12_says_32 (lv_at hl 0 rfl) ?_
      refine lv_iload_n hx hb dX12_says_34 rfl (lv_at hl 4 rfl) ?_
      refine lv_iload_n hx hb dX12_says_35 rfl (lv_at hl 5 rfl) ?_
      refine lv_iload hx hb dX12_says_36 (lv_at hl 6 rfl) ?_
      obtain ⟨S_38, r_38, h_38, hf⟩ := bd_some hf
      refine r_bv hw (r_runV (rest := []) C hw (m_X12_refers l D cA ad base fu h_38) mvX12_refers gw8_56 ⟨rfl, rfl, Nat.le_of_ble_eq_true rfl, Nat.le_of_ble_eq_true rfl⟩ dq_63 ln_63 vc_12 rfl hl.1 rfl (Nat.le_of_ble_eq_true rfl) dX12_says_38 (Nat.zero_le _) (Nat.zero_le _)) (fun H locs hw => ?_)
      refine lv_aload_n hx hb dX12_says_41 rfl (lv_at hl 2 rfl) ?_
      refine r_getI C hw (k := 27) dq_63 ln_63 rfl vc_12 inX12 (by decide) rfl gw6_208 dX12_says_42 ?_
      refine lv_sipush (v := (1000 : Int32)) hx hb dX12_says_45 (by decide) ?_
      refine lv_icmp_le (tgt := 55) hx hb dX12_says_48 (by decide) (fun c_48 => ?_) (fun c_48 => ?_)
      · have hf := if_t hf c_48
        refine lv_aload_n hx hb dX12_says_55 rfl (lv_at hl 2 rfl) ?_
        refine r_getI C hw (k := 27) dq_63 ln_63 rfl vc_12 inX12 (by decide) rfl gw6_208 dX12_says_56 ?_
        exact r_iret C hw hr hlocks hf dX12_says_59
      · have hf := if_f hf c_48
        refine lv_iconst (v := (0 : Int32)) hx hb dX12_says_51 (by decide) ?_
        refine lv_goto (tgt := 59) hx hb dX12_says_52 (by decide) ?_
        exact r_iret C hw hr hlocks hf dX12_says_59
  · have hf := if_f hf c_10
    refine lv_iconst (v := (0 : Int32)) hx hb dX12_says_13 (by decide) ?_
    exact r_iret C hw hr hlocks hf dX12_says_14
noncomputable def fX12_say_51 (fu : Nat) (n : Nat) : Int32 → St → Option (St × Int32) :=
  Nat.rec (motive := fun _ => Int32 → St → Option (St × Int32)) (fun _ _ => none) (fun _ k_51 x4 S =>
    if (S.1 63 10) ≤ x4 then
      some (S, (S.1 63 10))
    else
      gd (ck x4 1000) <|
      gd (ck x4 1040) <|
      sI 70 (x4).toNatClampNeg (vp_nar .byte (S.1 82 (x4).toNatClampNeg)) S fun S_73 =>
      k_51 (x4 + (1 : Int32)) S_73) n
theorem fX12_say_51_s (fu : Nat) (n : Nat) (x4 : Int32) (S : St) : fX12_say_51 fu (n + 1) x4 S = (
    if (S.1 63 10) ≤ x4 then
      some (S, (S.1 63 10))
    else
      gd (ck x4 1000) <|
      gd (ck x4 1040) <|
      sI 70 (x4).toNatClampNeg (vp_nar .byte (S.1 82 (x4).toNatClampNeg)) S fun S_73 =>
      (fX12_say_51 fu n) (x4 + (1 : Int32)) S_73) := rfl
noncomputable def fX12_say_27 (fu : Nat) (x1 : Int32) (x2 : Int32) (x3 : Int32) (t0 : Int32) (S : St) : Option (St × Int32) :=
  bd (fX12_throwsIf fu t0 (1 : Int32) S) fun S_28 r_28 =>
  if r_28 = 0 then
    bd (fX12_says fu x1 (0 : Int32) x2 x3 S_28) fun S_42 r_42 =>
    sI 63 10 r_42 S_42 fun S_45 =>
    fX12_say_51 fu fu (0 : Int32) S_45
  else
    some (S_28, (0 : Int32))
noncomputable def fX12_say_22 (fu : Nat) (x1 : Int32) (x2 : Int32) (x3 : Int32) (S : St) : Option (St × Int32) :=
  fX12_say_27 fu x1 x2 x3 (1 : Int32) S
noncomputable def fX12_say (fu : Nat) (x1 : Int32) (x2 : Int32) (x3 : Int32) (S : St) : Option (St × Int32) :=
  sI 63 0 (0 : Int32) S fun S_2 =>
  bd (fX12_noServer fu x1 S_2) fun S_8 r_8 =>
  if r_8 = 0 then
    bd (fX12_noName fu x2 S_8) fun S_16 r_16 =>
    if r_16 = 0 then
      fX12_say_27 fu x1 x2 x3 (0 : Int32) S_16
    else
      fX12_say_22 fu x1 x2 x3 S_16
  else
    fX12_say_22 fu x1 x2 x3 S_8
theorem mvX12_say : MV yX12_say cX12_say 5 (some .int) RX12 3 := ⟨gw8_43, gw8_41, gw8_42, gw1_13, by decide +kernel⟩
def rmX12_say : Room := { frames := 8, cells := 0, slots := 0, locals := 187 }
set_option maxHeartbeats 4000000 in
set_option maxRecDepth 100000 in
theorem m_X12_say (l : Launch) (D : va_G) (cA : FieldType → ClassId) (ad : Nat → Nat) (base : Nat) (fu : Nat) {S S' : St} {x1 : Int32} {x2 : Int32} {x3 : Int32} {r : Int32} (hf : fX12_say fu x1 x2 x3 S = some (S', r)) : Met l yX12_say (GC yX12_say cX12_say 5 (some .int)) rmX12_say (va_Pc [.ref (ad 63), .int x1, .int x2, .int x3] (wd D cA ad base S)) (QI D cA ad base S' r) 0 0 (aB base) := by
  refine Met.ofW (cc := cX12_say) (maxL := 5) (ret := (some .int)) (by decide) rfl ?_
  intro p e s m args below meth c s₁ B hml hv
  obtain ⟨hargs, hwd⟩ := hv
  have hr := B.returns
  have hlocks := B.notSynchronized
  obtain ⟨C, hw⟩ := CX.of (own := RX12) rfl B hml hwd
  have hx := C.1
  have hb := C.2.1
  have hl := lv_entry ([.ref (ad 63), .int x1, .int x2, .int x3]) (n := 5) (Nat.le_of_ble_eq_true rfl)
  rw [show entryFrame m args 5 = entryFrame m ([.ref (ad 63), .int x1, .int x2, .int x3] : List Value).toArray 5 from by rw [hargs], lg_entry_eq]
  generalize (lg_sl ([.ref (ad 63), .int x1, .int x2, .int x3]) ++ List.replicate (5 - (lg_sl ([.ref (ad 63), .int x1, .int x2, .int x3])).length) Slot.unset).toArray = ls at hl ⊢
  have hl : lv_has ls 5 [(0, .ref (ad 63)), (1, .int x1), (2, .int x2), (3, .int x3)] := hl
  have L_51 : ∀ (n_51 : Nat) (x4 : Int32) (S : St) (H : Heap) (locs : List Loc) (ls : Array Slot), fX12_say_51 fu n_51 x4 S = some (S', r) → lv_has ls 5 [(0, .ref (ad 63)), (4, .int x4)] → WS D cA ad base s S H locs → W p l e rmX12_say s m args below meth c H locs 0 0 (MQ below (QI D cA ad base S' r) args s 0 0 (aB base)) (F0 m 51 ls []) := by
    intro n_51
    induction n_51 with
    | zero =>
      intro x4 S H locs ls hf hl hw
      exact (no_none hf).elim
    | succ n_51 ih_51 =>
      intro x4 S H locs ls hf hl hw
      rw [fX12_say_51_s] at hf
      refine lv_iload hx hb dX12_say_51 (lv_at hl 1 rfl) ?_
      refine lv_aload_n hx hb dX12_say_53 rfl (lv_at hl 0 rfl) ?_
      refine r_getI C hw (k := 10) dq_63 ln_63 rfl vc_12 inX12 (by decide) rfl gw6_191 dX12_say_54 ?_
      refine lv_icmp_ge (tgt := 80) hx hb dX12_say_57 (by decide) (fun c_57 => ?_) (fun c_57 => ?_)
      · have hf := if_t hf c_57
        refine lv_aload_n hx hb dX12_say_80 rfl (lv_at hl 0 rfl) ?_
        refine r_getI C hw (k := 10) dq_63 ln_63 rfl vc_12 inX12 (by decide) rfl gw6_191 dX12_say_81 ?_
        exact r_iret C hw hr hlocks hf dX12_say_84
      · have hf := if_f hf c_57
        refine lv_aload_n hx hb dX12_say_60 rfl (lv_at hl 0 rfl) ?_
        refine r_getR C hw (k := 9) (r := 70) dq_63 ln_63 rfl vc_12 inX12 (by decide) rfl gw6_190 dX12_say_61 ?_
        refine lv_iload hx hb dX12_say_64 (lv_at hl 1 rfl) ?_
        refine lv_aload_n hx hb dX12_say_66 rfl (lv_at hl 0 rfl) ?_
        refine r_getR C hw (k := 26) (r := 82) dq_63 ln_63 rfl vc_12 inX12 (by decide) rfl gw6_207 dX12_say_67 ?_
        refine lv_iload hx hb dX12_say_70 (lv_at hl 1 rfl) ?_
        obtain ⟨z_72, hf⟩ := gd_some hf
        refine r_bald C hw (x := 82) dq_82 ln_82 z_72 dX12_say_72 ?_
        obtain ⟨z_73, hf⟩ := gd_some hf
        obtain ⟨S_73, e_73, hf⟩ := sI_some hf
        refine r_bast C hw (x := 70) dq_70 ln_70 z_73 dX12_say_73 e_73 (fun H locs hw => ?_)
        refine lv_iinc (v := (x4 + (1 : Int32))) (lv' := [(4, .int (x4 + (1 : Int32))), (0, .ref (ad 63))]) hx hb dX12_say_74 hl (k := 1) rfl rfl (by decide) rfl (fun ls hl => ?_)
        refine lv_goto (tgt := 51) hx hb dX12_say_77 (by decide) ?_
        exact ih_51 _ _ _ _ _ hf (lv_sub hl [1, 0] rfl) hw
  have J_27 : ∀ (x1 : Int32) (x2 : Int32) (x3 : Int32) (t0 : Int32) (S : St) (H : Heap) (locs : List Loc) (ls : Array Slot), fX12_say_27 fu x1 x2 x3 t0 S = some (S', r) → lv_has ls 5 [(0, .ref (ad 63)), (1, .int x1), (2, .int x2), (3, .int x3)] → WS D cA ad base s S H locs → W p l e rmX12_say s m args below meth c H locs 0 0 (MQ below (QI D cA ad base S' r) args s 0 0 (aB base)) (F0 m 27 ls [.int t0, .ref (ad 63)]) := by
    intro x1 x2 x3 t0 S H locs ls hf hl hw
    refine lv_iconst (v := (1 : Int32)) hx hb dX12_say_27 (by decide) ?_
    obtain ⟨S_28, r_28, h_28, hf⟩ := bd_some hf
    refine r_bi hw (r_runV (rest := []) C hw (m_X12_throwsIf l D cA ad base fu h_28) mvX12_throwsIf gw7_193 ⟨rfl, rfl, Nat.le_of_ble_eq_true rfl, Nat.le_of_ble_eq_true rfl⟩ dq_63 ln_63 vc_12 rfl hl.1 rfl (Nat.le_of_ble_eq_true rfl) dX12_say_28 (Nat.zero_le _) (Nat.zero_le _)) (fun H locs hw => ?_)
    refine lv_if_eq (tgt := 36) hx hb dX12_say_31 (by decide) (fun c_31 => ?_) (fun c_31 => ?_)
    · have hf := if_t hf c_31
      refine lv_aload_n hx hb dX12_say_36 rfl (lv_at hl 0 rfl) ?_
      refine lv_aload_n hx hb dX12_say_37 rfl (lv_at hl 0 rfl) ?_
      refine lv_iload_n hx hb dX12_say_38 rfl (lv_at hl 1 rfl) ?_
      refine lv_iconst (v := (0 : Int32)) hx hb dX12_say_39 (by decide) ?_
      refine lv_iload_n hx hb dX12_say_40 rfl (lv_at hl 2 rfl) ?_
      refine lv_iload_n hx hb dX12_say_41 rfl (lv_at hl 3 rfl) ?_
      obtain ⟨S_42, r_42, h_42, hf⟩ := bd_some hf
      refine r_bi hw (r_runV (rest := [.ref (ad 63)]) C hw (m_X12_says l D cA ad base fu h_42) mvX12_says gw8_44 ⟨rfl, rfl, Nat.le_of_ble_eq_true rfl, Nat.le_of_ble_eq_true rfl⟩ dq_63 ln_63 vc_12 rfl hl.1 rfl (Nat.le_of_ble_eq_true rfl) dX12_say_42 (Nat.zero_le _) (Nat.zero_le _)) (fun H locs hw => ?_)
      obtain ⟨S_45, e_45, hf⟩ := sI_some hf
      refine r_putI C hw (k := 10) (ty0 := tyX12) dq_63 ln_63 rfl vc_12 inX12 tyX12_ok nmX12 (by decide) rfl rfl gw6_191 rfl rfl dX12_say_45 e_45 (fun H locs hw => ?_)
      refine lv_iconst (v := (0 : Int32)) hx hb dX12_say_48 (by decide) ?_
      refine lv_istore (lv' := [(4, .int (0 : Int32)), (0, .ref (ad 63)), (1, .int x1), (2, .int x2), (3, .int x3)]) hx hb dX12_say_49 hl (by decide) rfl (fun ls hl => ?_)
      exact L_51 fu _ _ _ _ _ hf (lv_sub hl [1, 0] rfl) hw
    · have hf := if_f hf c_31
      refine lv_iconst (v := (0 : Int32)) hx hb dX12_say_34 (by decide) ?_
      exact r_iret C hw hr hlocks hf dX12_say_35
  have J_22 : ∀ (x1 : Int32) (x2 : Int32) (x3 : Int32) (S : St) (H : Heap) (locs : List Loc) (ls : Array Slot), fX12_say_22 fu x1 x2 x3 S = some (S', r) → lv_has ls 5 [(0, .ref (ad 63)), (1, .int x1), (2, .int x2), (3, .int x3)] → WS D cA ad base s S H locs → W p l e rmX12_say s m args below meth c H locs 0 0 (MQ below (QI D cA ad base S' r) args s 0 0 (aB base)) (F0 m 22 ls [.ref (ad 63)]) := by
    intro x1 x2 x3 S H locs ls hf hl hw
    refine lv_iconst (v := (1 : Int32)) hx hb dX12_say_22 (by decide) ?_
    refine lv_goto (tgt := 27) hx hb dX12_say_23 (by decide) ?_
    exact J_27 _ _ _ _ _ _ _ _ hf (lv_sub hl [0, 1, 2, 3] rfl) hw
  show W p l e rmX12_say s m args below meth c s.heap [] 0 0 _ _
  refine lv_aload_n hx hb dX12_say_0 rfl (lv_at hl 0 rfl) ?_
  refine lv_iconst (v := (0 : Int32)) hx hb dX12_say_1 (by decide) ?_
  obtain ⟨S_2, e_2, hf⟩ := sI_some hf
  refine r_putI C hw (k := 0) (ty0 := tyX12) dq_63 ln_63 rfl vc_12 inX12 tyX12_ok nmX12 (by decide) rfl rfl gw6_181 rfl rfl dX12_say_2 e_2 (fun H locs hw => ?_)
  refine lv_aload_n hx hb dX12_say_5 rfl (lv_at hl 0 rfl) ?_
  refine lv_aload_n hx hb dX12_say_6 rfl (lv_at hl 0 rfl) ?_
  refine lv_iload_n hx hb dX12_say_7 rfl (lv_at hl 1 rfl) ?_
  obtain ⟨S_8, r_8, h_8, hf⟩ := bd_some hf
  refine r_bi hw (r_runV (rest := [.ref (ad 63)]) C hw (m_X12_noServer l D cA ad base fu h_8) mvX12_noServer gw8_32 ⟨rfl, rfl, Nat.le_of_ble_eq_true rfl, Nat.le_of_ble_eq_true rfl⟩ dq_63 ln_63 vc_12 rfl hl.1 rfl (Nat.le_of_ble_eq_true rfl) dX12_say_8 (Nat.zero_le _) (Nat.zero_le _)) (fun H locs hw => ?_)
  refine lv_if_ne (tgt := 22) hx hb dX12_say_11 (by decide) (fun c_11 => ?_) (fun c_11 => ?_)
  · have hf := if_f hf c_11
    exact J_22 _ _ _ _ _ _ _ hf (lv_sub hl [0, 1, 2, 3] rfl) hw
  · have hf := if_t hf c_11
    refine lv_aload_n hx hb dX12_say_14 rfl (lv_at hl 0 rfl) ?_
    refine lv_iload_n hx hb dX12_say_15 rfl (lv_at hl 2 rfl) ?_
    obtain ⟨S_16, r_16, h_16, hf⟩ := bd_some hf
    refine r_bi hw (r_runV (rest := [.ref (ad 63)]) C hw (m_X12_noName l D cA ad base fu h_16) mvX12_noName gw7_217 ⟨rfl, rfl, Nat.le_of_ble_eq_true rfl, Nat.le_of_ble_eq_true rfl⟩ dq_63 ln_63 vc_12 rfl hl.1 rfl (Nat.le_of_ble_eq_true rfl) dX12_say_16 (Nat.zero_le _) (Nat.zero_le _)) (fun H locs hw => ?_)
    refine lv_if_eq (tgt := 26) hx hb dX12_say_19 (by decide) (fun c_19 => ?_) (fun c_19 => ?_)
    · have hf := if_t hf c_19
      refine lv_iconst (v := (0 : Int32)) hx hb dX12_say_26 (by decide) ?_
      exact J_27 _ _ _ _ _ _ _ _ hf (lv_sub hl [0, 1, 2, 3] rfl) hw
    · have hf := if_f hf c_19
      exact J_22 _ _ _ _ _ _ _ hf (lv_sub hl [0, 1, 2, 3] rfl) hw
noncomputable def fX12_wrong (fu : Nat) (x1 : Int32) (S : St) : Option (St × Int32) :=
  sI 63 30 x1 S fun S_2 =>
  some (S_2, (-1 : Int32))
theorem mvX12_wrong : MV yX12_wrong cX12_wrong 2 (some .int) RX12 1 := ⟨gw8_124, gw8_123, gs_72, gw1_13, by decide +kernel⟩
def rmX12_wrong : Room := { frames := 0, cells := 0, slots := 0, locals := 0 }
set_option maxHeartbeats 4000000 in
set_option maxRecDepth 100000 in
theorem m_X12_wrong (l : Launch) (D : va_G) (cA : FieldType → ClassId) (ad : Nat → Nat) (base : Nat) (fu : Nat) {S S' : St} {x1 : Int32} {r : Int32} (hf : fX12_wrong fu x1 S = some (S', r)) : Met l yX12_wrong (GC yX12_wrong cX12_wrong 2 (some .int)) rmX12_wrong (va_Pc [.ref (ad 63), .int x1] (wd D cA ad base S)) (QI D cA ad base S' r) 0 0 (aB base) := by
  refine Met.ofW (cc := cX12_wrong) (maxL := 2) (ret := (some .int)) (by decide) rfl ?_
  intro p e s m args below meth c s₁ B hml hv
  obtain ⟨hargs, hwd⟩ := hv
  have hr := B.returns
  have hlocks := B.notSynchronized
  obtain ⟨C, hw⟩ := CX.of (own := RX12) rfl B hml hwd
  have hx := C.1
  have hb := C.2.1
  have hl := lv_entry ([.ref (ad 63), .int x1]) (n := 2) (Nat.le_of_ble_eq_true rfl)
  rw [show entryFrame m args 2 = entryFrame m ([.ref (ad 63), .int x1] : List Value).toArray 2 from by rw [hargs], lg_entry_eq]
  generalize (lg_sl ([.ref (ad 63), .int x1]) ++ List.replicate (2 - (lg_sl ([.ref (ad 63), .int x1])).length) Slot.unset).toArray = ls at hl ⊢
  have hl : lv_has ls 2 [(0, .ref (ad 63)), (1, .int x1)] := hl
  show W p l e rmX12_wrong s m args below meth c s.heap [] 0 0 _ _
  refine lv_aload_n hx hb dX12_wrong_0 rfl (lv_at hl 0 rfl) ?_
  refine lv_iload_n hx hb dX12_wrong_1 rfl (lv_at hl 1 rfl) ?_
  obtain ⟨S_2, e_2, hf⟩ := sI_some hf
  refine r_putI C hw (k := 30) (ty0 := tyX12) dq_63 ln_63 rfl vc_12 inX12 tyX12_ok nmX12 (by decide) rfl rfl gw6_211 rfl rfl dX12_wrong_2 e_2 (fun H locs hw => ?_)
  refine lv_iconst (v := (-1 : Int32)) hx hb dX12_wrong_5 (by decide) ?_
  exact r_iret C hw hr hlocks hf dX12_wrong_6
noncomputable def fX12_two (fu : Nat) (a na : Nat) (x1 : Int32) (S : St) : Option (St × Int32) :=
  gd (ck x1 na) <|
  gd (ck (x1 + (1 : Int32)) na) <|
  some (S, ((((S.1 a (x1).toNatClampNeg) &&& (255 : Int32)) <<< ((8 : Int32) &&& 31)) ||| ((S.1 a ((x1 + (1 : Int32))).toNatClampNeg) &&& (255 : Int32))))
theorem msX12_two : MS yX12_two cX12_two 2 (some .int) 2 := ⟨gw8_120, gw8_119, gw1_13, by decide +kernel⟩
def rmX12_two : Room := { frames := 0, cells := 0, slots := 0, locals := 0 }
set_option maxHeartbeats 4000000 in
set_option maxRecDepth 100000 in
theorem m_X12_two (l : Launch) (D : va_G) (cA : FieldType → ClassId) (ad : Nat → Nat) (base : Nat) (fu : Nat) (a na : Nat) (ha : isBA a na) {S S' : St} {x1 : Int32} {r : Int32} (hf : fX12_two fu a na x1 S = some (S', r)) : Met l yX12_two (GC yX12_two cX12_two 2 (some .int)) rmX12_two (va_Pc [.ref (ad a), .int x1] (wd D cA ad base S)) (QI D cA ad base S' r) 0 0 (aB base) := by
  refine Met.ofW (cc := cX12_two) (maxL := 2) (ret := (some .int)) (by decide) rfl ?_
  intro p e s m args below meth c s₁ B hml hv
  obtain ⟨hargs, hwd⟩ := hv
  have hr := B.returns
  have hlocks := B.notSynchronized
  obtain ⟨C, hw⟩ := CX.of (own := RX12) rfl B hml hwd
  have hx := C.1
  have hb := C.2.1
  have hl := lv_entry ([.ref (ad a), .int x1]) (n := 2) (Nat.le_of_ble_eq_true rfl)
  rw [show entryFrame m args 2 = entryFrame m ([.ref (ad a), .int x1] : List Value).toArray 2 from by rw [hargs], lg_entry_eq]
  generalize (lg_sl ([.ref (ad a), .int x1]) ++ List.replicate (2 - (lg_sl ([.ref (ad a), .int x1])).length) Slot.unset).toArray = ls at hl ⊢
  have hl : lv_has ls 2 [(0, .ref (ad a)), (1, .int x1)] := hl
  show W p l e rmX12_two s m args below meth c s.heap [] 0 0 _ _
  refine lv_aload_n hx hb dX12_two_0 rfl (lv_at hl 0 rfl) ?_
  refine lv_iload_n hx hb dX12_two_1 rfl (lv_at hl 1 rfl) ?_
  obtain ⟨z_2, hf⟩ := gd_some hf
  refine r_bald C hw (x := a) ha.1 ha.2 z_2 dX12_two_2 ?_
  refine lv_sipush (v := (255 : Int32)) hx hb dX12_two_3 (by decide) ?_
  refine lv_iand hx hb dX12_two_6 ?_
  refine lv_bipush (v := (8 : Int32)) hx hb dX12_two_7 (by decide) ?_
  refine lv_ishl hx hb dX12_two_9 ?_
  refine lv_aload_n hx hb dX12_two_10 rfl (lv_at hl 0 rfl) ?_
  refine lv_iload_n hx hb dX12_two_11 rfl (lv_at hl 1 rfl) ?_
  refine lv_iconst (v := (1 : Int32)) hx hb dX12_two_12 (by decide) ?_
  refine lv_iadd hx hb dX12_two_13 ?_
  obtain ⟨z_14, hf⟩ := gd_some hf
  refine r_bald C hw (x := a) ha.1 ha.2 z_14 dX12_two_14 ?_
  refine lv_sipush (v := (255 : Int32)) hx hb dX12_two_15 (by decide) ?_
  refine lv_iand hx hb dX12_two_18 ?_
  refine lv_ior hx hb dX12_two_19 ?_
  exact r_iret C hw hr hlocks hf dX12_two_20
noncomputable def fX12_four (fu : Nat) (a na : Nat) (x1 : Int32) (S : St) : Option (St × Int32) :=
  bd (fX12_two fu a na x1 S) fun S_2 r_2 =>
  bd (fX12_two fu a na (x1 + (2 : Int32)) S_2) fun S_12 r_12 =>
  some (S_12, ((r_2 <<< ((16 : Int32) &&& 31)) ||| r_12))
theorem msX12_four : MS yX12_four cX12_four 2 (some .int) 2 := ⟨gw8_139, gw8_138, gw1_13, by decide +kernel⟩
def rmX12_four : Room := { frames := 1, cells := 0, slots := 0, locals := 21 }
set_option maxHeartbeats 4000000 in
set_option maxRecDepth 100000 in
theorem m_X12_four (l : Launch) (D : va_G) (cA : FieldType → ClassId) (ad : Nat → Nat) (base : Nat) (fu : Nat) (a na : Nat) (ha : isBA a na) {S S' : St} {x1 : Int32} {r : Int32} (hf : fX12_four fu a na x1 S = some (S', r)) : Met l yX12_four (GC yX12_four cX12_four 2 (some .int)) rmX12_four (va_Pc [.ref (ad a), .int x1] (wd D cA ad base S)) (QI D cA ad base S' r) 0 0 (aB base) := by
  refine Met.ofW (cc := cX12_four) (maxL := 2) (ret := (some .int)) (by decide) rfl ?_
  intro p e s m args below meth c s₁ B hml hv
  obtain ⟨hargs, hwd⟩ := hv
  have hr := B.returns
  have hlocks := B.notSynchronized
  obtain ⟨C, hw⟩ := CX.of (own := RX12) rfl B hml hwd
  have hx := C.1
  have hb := C.2.1
  have hl := lv_entry ([.ref (ad a), .int x1]) (n := 2) (Nat.le_of_ble_eq_true rfl)
  rw [show entryFrame m args 2 = entryFrame m ([.ref (ad a), .int x1] : List Value).toArray 2 from by rw [hargs], lg_entry_eq]
  generalize (lg_sl ([.ref (ad a), .int x1]) ++ List.replicate (2 - (lg_sl ([.ref (ad a), .int x1])).length) Slot.unset).toArray = ls at hl ⊢
  have hl : lv_has ls 2 [(0, .ref (ad a)), (1, .int x1)] := hl
  show W p l e rmX12_four s m args below meth c s.heap [] 0 0 _ _
  refine lv_aload_n hx hb dX12_four_0 rfl (lv_at hl 0 rfl) ?_
  refine lv_iload_n hx hb dX12_four_1 rfl (lv_at hl 1 rfl) ?_
  obtain ⟨S_2, r_2, h_2, hf⟩ := bd_some hf
  refine r_bi hw (r_runS (rest := []) C hw (m_X12_two l D cA ad base fu a na ⟨ha.1, ha.2⟩ h_2) msX12_two gw8_118 ⟨rfl, rfl, Nat.le_of_ble_eq_true rfl, Nat.le_of_ble_eq_true rfl⟩ rfl hl.1 rfl (Nat.le_of_ble_eq_true rfl) dX12_four_2 (Nat.zero_le _) (Nat.zero_le _)) (fun H locs hw => ?_)
  refine lv_bipush (v := (16 : Int32)) hx hb dX12_four_5 (by decide) ?_
  refine lv_ishl hx hb dX12_four_7 ?_
  refine lv_aload_n hx hb dX12_four_8 rfl (lv_at hl 0 rfl) ?_
  refine lv_iload_n hx hb dX12_four_9 rfl (lv_at hl 1 rfl) ?_
  refine lv_iconst (v := (2 : Int32)) hx hb dX12_four_10 (by decide) ?_
  refine lv_iadd hx hb dX12_four_11 ?_
  obtain ⟨S_12, r_12, h_12, hf⟩ := bd_some hf
  refine r_bi hw (r_runS (rest := [.int (r_2 <<< ((16 : Int32) &&& 31))]) C hw (m_X12_two l D cA ad base fu a na ⟨ha.1, ha.2⟩ h_12) msX12_two gw8_118 ⟨rfl, rfl, Nat.le_of_ble_eq_true rfl, Nat.le_of_ble_eq_true rfl⟩ rfl hl.1 rfl (Nat.le_of_ble_eq_true rfl) dX12_four_12 (Nat.zero_le _) (Nat.zero_le _)) (fun H locs hw => ?_)
  refine lv_ior hx hb dX12_four_15 ?_
  exact r_iret C hw hr hlocks hf dX12_four_16
noncomputable def fX12_isName_153 (fu : Nat) (a na : Nat) (S : St) : Option (St × Int32) :=
  bd (fX12_wrong fu (2 : Int32) S) fun S_155 r_155 =>
  if r_155 ≤ 0 then
    some (S_155, (0 : Int32))
  else
    some (S_155, (1 : Int32))
noncomputable def fX12_isName_170 (fu : Nat) (a na : Nat) (k_14 : Int32 → Int32 → Int32 → Int32 → St → Option (St × Int32)) (n : Nat) : Int32 → Int32 → Int32 → Int32 → Int32 → Int32 → St → Option (St × Int32) :=
  Nat.rec (motive := fun _ => Int32 → Int32 → Int32 → Int32 → Int32 → Int32 → St → Option (St × Int32)) (fun _ _ _ _ _ _ _ => none) (fun _ k_170 x3 x4 x5 x6 x7 x8 S =>
    if x7 < x8 then
      gd (ck (S.1 63 8) 8) <|
      sI 68 ((S.1 63 8)).toNatClampNeg (x5 + (1 : Int32)) S fun S_245 =>
      gd (ck (S_245.1 63 8) 8) <|
      sI 69 ((S_245.1 63 8)).toNatClampNeg x7 S_245 fun S_256 =>
      sI 63 8 ((S_256.1 63 8) + (1 : Int32)) S_256 fun S_264 =>
      k_14 x3 x4 (x5 + ((1 : Int32) + x7)) x6 S_264
    else
      if (x5 + x8) < x3 then
        gd (ck (x5 + x8) na) <|
        bd (fX12_isLetter fu (S.1 a ((x5 + x8)).toNatClampNeg) S) fun S_207 r_207 =>
        if r_207 = 0 then
          bd (fX12_wrong fu (2 : Int32) S_207) fun S_215 r_215 =>
          if r_215 ≤ 0 then
            some (S_215, (0 : Int32))
          else
            some (S_215, (1 : Int32))
        else
          k_170 x3 x4 x5 x6 x7 (x8 + (1 : Int32)) S_207
      else
        bd (fX12_wrong fu (3 : Int32) S) fun S_188 r_188 =>
        if r_188 ≤ 0 then
          some (S_188, (0 : Int32))
        else
          some (S_188, (1 : Int32))) n
theorem fX12_isName_170_s (fu : Nat) (a na : Nat) (k_14 : Int32 → Int32 → Int32 → Int32 → St → Option (St × Int32)) (n : Nat) (x3 : Int32) (x4 : Int32) (x5 : Int32) (x6 : Int32) (x7 : Int32) (x8 : Int32) (S : St) : fX12_isName_170 fu a na k_14 (n + 1) x3 x4 x5 x6 x7 x8 S = (
    if x7 < x8 then
      gd (ck (S.1 63 8) 8) <|
      sI 68 ((S.1 63 8)).toNatClampNeg (x5 + (1 : Int32)) S fun S_245 =>
      gd (ck (S_245.1 63 8) 8) <|
      sI 69 ((S_245.1 63 8)).toNatClampNeg x7 S_245 fun S_256 =>
      sI 63 8 ((S_256.1 63 8) + (1 : Int32)) S_256 fun S_264 =>
      k_14 x3 x4 (x5 + ((1 : Int32) + x7)) x6 S_264
    else
      if (x5 + x8) < x3 then
        gd (ck (x5 + x8) na) <|
        bd (fX12_isLetter fu (S.1 a ((x5 + x8)).toNatClampNeg) S) fun S_207 r_207 =>
        if r_207 = 0 then
          bd (fX12_wrong fu (2 : Int32) S_207) fun S_215 r_215 =>
          if r_215 ≤ 0 then
            some (S_215, (0 : Int32))
          else
            some (S_215, (1 : Int32))
        else
          (fX12_isName_170 fu a na k_14 n) x3 x4 x5 x6 x7 (x8 + (1 : Int32)) S_207
      else
        bd (fX12_wrong fu (3 : Int32) S) fun S_188 r_188 =>
        if r_188 ≤ 0 then
          some (S_188, (0 : Int32))
        else
          some (S_188, (1 : Int32))) := rfl
noncomputable def fX12_isName_126 (fu : Nat) (a na : Nat) (k_14 : Int32 → Int32 → Int32 → Int32 → St → Option (St × Int32)) (x3 : Int32) (x6 : Int32) (x8 : Int32) (S : St) : Option (St × Int32) :=
  k_14 x3 x8 x8 x6 S
noncomputable def fX12_isName_294 (fu : Nat) (a na : Nat) (t0 : Int32) (S : St) : Option (St × Int32) :=
  sI 63 31 t0 S fun S_294 =>
  some (S_294, (1 : Int32))
noncomputable def fX12_isName_14 (fu : Nat) (a na : Nat) (n : Nat) : Int32 → Int32 → Int32 → Int32 → St → Option (St × Int32) :=
  Nat.rec (motive := fun _ => Int32 → Int32 → Int32 → Int32 → St → Option (St × Int32)) (fun _ _ _ _ _ => none) (fun _ k_14 x3 x4 x5 x6 S =>
    if x5 < x3 then
      gd (ck x5 na) <|
      if ((S.1 a (x5).toNatClampNeg) &&& (255 : Int32)) = 0 then
        if 0 ≤ x6 then
          fX12_isName_294 fu a na x6 S
        else
          fX12_isName_294 fu a na (x5 + (1 : Int32)) S
      else
        if ((S.1 a (x5).toNatClampNeg) &&& (255 : Int32)) < (192 : Int32) then
          if (10 : Int32) < ((S.1 a (x5).toNatClampNeg) &&& (255 : Int32)) then
            fX12_isName_153 fu a na S
          else
            if (S.1 63 8) = (6 : Int32) then
              fX12_isName_153 fu a na S
            else
              fX12_isName_170 fu a na k_14 fu x3 x4 x5 x6 ((S.1 a (x5).toNatClampNeg) &&& (255 : Int32)) (1 : Int32) S
        else
          if (x5 + (1 : Int32)) < x3 then
            bd (fX12_two fu a na x5 S) fun S_85 r_85 =>
            if (r_85 &&& (16383 : Int32)) < x4 then
              if 0 ≤ x6 then
                fX12_isName_126 fu a na k_14 x3 x6 (r_85 &&& (16383 : Int32)) S_85
              else
                fX12_isName_126 fu a na k_14 x3 (x5 + (2 : Int32)) (r_85 &&& (16383 : Int32)) S_85
            else
              bd (fX12_wrong fu (2 : Int32) S_85) fun S_103 r_103 =>
              if r_103 ≤ 0 then
                some (S_103, (0 : Int32))
              else
                some (S_103, (1 : Int32))
          else
            bd (fX12_wrong fu (3 : Int32) S) fun S_70 r_70 =>
            if r_70 ≤ 0 then
              some (S_70, (0 : Int32))
            else
              some (S_70, (1 : Int32))
    else
      bd (fX12_wrong fu (3 : Int32) S) fun S_22 r_22 =>
      if r_22 ≤ 0 then
        some (S_22, (0 : Int32))
      else
        some (S_22, (1 : Int32))) n
theorem fX12_isName_14_s (fu : Nat) (a na : Nat) (n : Nat) (x3 : Int32) (x4 : Int32) (x5 : Int32) (x6 : Int32) (S : St) : fX12_isName_14 fu a na (n + 1) x3 x4 x5 x6 S = (
    if x5 < x3 then
      gd (ck x5 na) <|
      if ((S.1 a (x5).toNatClampNeg) &&& (255 : Int32)) = 0 then
        if 0 ≤ x6 then
          fX12_isName_294 fu a na x6 S
        else
          fX12_isName_294 fu a na (x5 + (1 : Int32)) S
      else
        if ((S.1 a (x5).toNatClampNeg) &&& (255 : Int32)) < (192 : Int32) then
          if (10 : Int32) < ((S.1 a (x5).toNatClampNeg) &&& (255 : Int32)) then
            fX12_isName_153 fu a na S
          else
            if (S.1 63 8) = (6 : Int32) then
              fX12_isName_153 fu a na S
            else
              fX12_isName_170 fu a na (fX12_isName_14 fu a na n) fu x3 x4 x5 x6 ((S.1 a (x5).toNatClampNeg) &&& (255 : Int32)) (1 : Int32) S
        else
          if (x5 + (1 : Int32)) < x3 then
            bd (fX12_two fu a na x5 S) fun S_85 r_85 =>
            if (r_85 &&& (16383 : Int32)) < x4 then
              if 0 ≤ x6 then
                fX12_isName_126 fu a na (fX12_isName_14 fu a na n) x3 x6 (r_85 &&& (16383 : Int32)) S_85
              else
                fX12_isName_126 fu a na (fX12_isName_14 fu a na n) x3 (x5 + (2 : Int32)) (r_85 &&& (16383 : Int32)) S_85
            else
              bd (fX12_wrong fu (2 : Int32) S_85) fun S_103 r_103 =>
              if r_103 ≤ 0 then
                some (S_103, (0 : Int32))
              else
                some (S_103, (1 : Int32))
          else
            bd (fX12_wrong fu (3 : Int32) S) fun S_70 r_70 =>
            if r_70 ≤ 0 then
              some (S_70, (0 : Int32))
            else
              some (S_70, (1 : Int32))
    else
      bd (fX12_wrong fu (3 : Int32) S) fun S_22 r_22 =>
      if r_22 ≤ 0 then
        some (S_22, (0 : Int32))
      else
        some (S_22, (1 : Int32))) := rfl
noncomputable def fX12_isName (fu : Nat) (a na : Nat) (x2 : Int32) (x3 : Int32) (S : St) : Option (St × Int32) :=
  sI 63 8 (0 : Int32) S fun S_2 =>
  fX12_isName_14 fu a na fu x3 x2 x2 (-1 : Int32) S_2
theorem mvX12_isName : MV yX12_isName cX12_isName 9 (some .boolean) RX12 3 := ⟨gw8_132, gw8_131, gs_74, gw1_13, by decide +kernel⟩
def rmX12_isName : Room := { frames := 1, cells := 0, slots := 0, locals := 21 }
set_option maxHeartbeats 4000000 in
set_option maxRecDepth 100000 in
theorem m_X12_isName (l : Launch) (D : va_G) (cA : FieldType → ClassId) (ad : Nat → Nat) (base : Nat) (fu : Nat) (a na : Nat) (ha : isBA a na) {S S' : St} {x2 : Int32} {x3 : Int32} {r : Int32} (hf : fX12_isName fu a na x2 x3 S = some (S', r)) : Met l yX12_isName (GC yX12_isName cX12_isName 9 (some .boolean)) rmX12_isName (va_Pc [.ref (ad 63), .ref (ad a), .int x2, .int x3] (wd D cA ad base S)) (QI D cA ad base S' r) 0 0 (aB base) := by
  refine Met.ofW (cc := cX12_isName) (maxL := 9) (ret := (some .boolean)) (by decide) rfl ?_
  intro p e s m args below meth c s₁ B hml hv
  obtain ⟨hargs, hwd⟩ := hv
  have hr := B.returns
  have hlocks := B.notSynchronized
  obtain ⟨C, hw⟩ := CX.of (own := RX12) rfl B hml hwd
  have hx := C.1
  have hb := C.2.1
  have hl := lv_entry ([.ref (ad 63), .ref (ad a), .int x2, .int x3]) (n := 9) (Nat.le_of_ble_eq_true rfl)
  rw [show entryFrame m args 9 = entryFrame m ([.ref (ad 63), .ref (ad a), .int x2, .int x3] : List Value).toArray 9 from by rw [hargs], lg_entry_eq]
  generalize (lg_sl ([.ref (ad 63), .ref (ad a), .int x2, .int x3]) ++ List.replicate (9 - (lg_sl ([.ref (ad 63), .ref (ad a), .int x2, .int x3])).length) Slot.unset).toArray = ls at hl ⊢
  have hl : lv_has ls 9 [(0, .ref (ad 63)), (1, .ref (ad a)), (2, .int x2), (3, .int x3)] := hl
  have J_153 : ∀ (S : St) (H : Heap) (locs : List Loc) (ls : Array Slot), fX12_isName_153 fu a na S = some (S', r) → lv_has ls 9 [(0, .ref (ad 63))] → WS D cA ad base s S H locs → W p l e rmX12_isName s m args below meth c H locs 0 0 (MQ below (QI D cA ad base S' r) args s 0 0 (aB base)) (F0 m 153 ls []) := by
    intro  S H locs ls hf hl hw
    refine lv_aload_n hx hb dX12_isName_153 rfl (lv_at hl 0 rfl) ?_
    refine lv_iconst (v := (2 : Int32)) hx hb dX12_isName_154 (by decide) ?_
    obtain ⟨S_155, r_155, h_155, hf⟩ := bd_some hf
    refine r_bi hw (r_runV (rest := []) C hw (m_X12_wrong l D cA ad base fu h_155) mvX12_wrong gw8_121 ⟨rfl, rfl, Nat.le_of_ble_eq_true rfl, Nat.le_of_ble_eq_true rfl⟩ dq_63 ln_63 vc_12 rfl hl.1 rfl (Nat.le_of_ble_eq_true rfl) dX12_isName_155 (Nat.zero_le _) (Nat.zero_le _)) (fun H locs hw => ?_)
    refine lv_if_le (tgt := 165) hx hb dX12_isName_158 (by decide) (fun c_158 => ?_) (fun c_158 => ?_)
    · have hf := if_t hf c_158
      refine lv_iconst (v := (0 : Int32)) hx hb dX12_isName_165 (by decide) ?_
      exact r_zret C hw hr hlocks rfl hf dX12_isName_166
    · have hf := if_f hf c_158
      refine lv_iconst (v := (1 : Int32)) hx hb dX12_isName_161 (by decide) ?_
      refine lv_goto (tgt := 166) hx hb dX12_isName_162 (by decide) ?_
      exact r_zret C hw hr hlocks rfl hf dX12_isName_166
  have J_294 : ∀ (t0 : Int32) (S : St) (H : Heap) (locs : List Loc) (ls : Array Slot), fX12_isName_294 fu a na t0 S = some (S', r) → lv_has ls 9 [] → WS D cA ad base s S H locs → W p l e rmX12_isName s m args below meth c H locs 0 0 (MQ below (QI D cA ad base S' r) args s 0 0 (aB base)) (F0 m 294 ls [.int t0, .ref (ad 63)]) := by
    intro t0 S H locs ls hf hl hw
    obtain ⟨S_294, e_294, hf⟩ := sI_some hf
    refine r_putI C hw (k := 31) (ty0 := tyX12) dq_63 ln_63 rfl vc_12 inX12 tyX12_ok nmX12 (by decide) rfl rfl gw6_212 rfl rfl dX12_isName_294 e_294 (fun H locs hw => ?_)
    refine lv_iconst (v := (1 : Int32)) hx hb dX12_isName_297 (by decide) ?_
    exact r_zret C hw hr hlocks rfl hf dX12_isName_298
  have L_14 : ∀ (n_14 : Nat) (x3 : Int32) (x4 : Int32) (x5 : Int32) (x6 : Int32) (S : St) (H : Heap) (locs : List Loc) (ls : Array Slot), fX12_isName_14 fu a na n_14 x3 x4 x5 x6 S = some (S', r) → lv_has ls 9 [(0, .ref (ad 63)), (1, .ref (ad a)), (3, .int x3), (4, .int x4), (5, .int x5), (6, .int x6)] → WS D cA ad base s S H locs → W p l e rmX12_isName s m args below meth c H locs 0 0 (MQ below (QI D cA ad base S' r) args s 0 0 (aB base)) (F0 m 14 ls []) := by
    intro n_14
    induction n_14 with
    | zero =>
      intro x3 x4 x5 x6 S H locs ls hf hl hw
      exact (no_none hf).elim
    | succ n_14 ih_14 =>
      have L_170 : ∀ (n_170 : Nat) (x3 : Int32) (x4 : Int32) (x5 : Int32) (x6 : Int32) (x7 : Int32) (x8 : Int32) (S : St) (H : Heap) (locs : List Loc) (ls : Array Slot), fX12_isName_170 fu a na (fX12_isName_14 fu a na n_14) n_170 x3 x4 x5 x6 x7 x8 S = some (S', r) → lv_has ls 9 [(0, .ref (ad 63)), (1, .ref (ad a)), (3, .int x3), (4, .int x4), (5, .int x5), (6, .int x6), (7, .int x7), (8, .int x8)] → WS D cA ad base s S H locs → W p l e rmX12_isName s m args below meth c H locs 0 0 (MQ below (QI D cA ad base S' r) args s 0 0 (aB base)) (F0 m 170 ls []) := by
        intro n_170
        induction n_170 with
        | zero =>
          intro x3 x4 x5 x6 x7 x8 S H locs ls hf hl hw
          exact (no_none hf).elim
        | succ n_170 ih_170 =>
          intro x3 x4 x5 x6 x7 x8 S H locs ls hf hl hw
          rw [fX12_isName_170_s] at hf
          refine lv_iload hx hb dX12_isName_170 (lv_at hl 7 rfl) ?_
          refine lv_iload hx hb dX12_isName_172 (lv_at hl 6 rfl) ?_
          refine lv_icmp_gt (tgt := 233) hx hb dX12_isName_174 (by decide) (fun c_174 => ?_) (fun c_174 => ?_)
          · have hf := if_t hf c_174
            refine lv_aload_n hx hb dX12_isName_233 rfl (lv_at hl 0 rfl) ?_
            refine r_getR C hw (k := 6) (r := 68) dq_63 ln_63 rfl vc_12 inX12 (by decide) rfl gw6_187 dX12_isName_234 ?_
            refine lv_aload_n hx hb dX12_isName_237 rfl (lv_at hl 0 rfl) ?_
            refine r_getI C hw (k := 8) dq_63 ln_63 rfl vc_12 inX12 (by decide) rfl gw6_189 dX12_isName_238 ?_
            refine lv_iload hx hb dX12_isName_241 (lv_at hl 4 rfl) ?_
            refine lv_iconst (v := (1 : Int32)) hx hb dX12_isName_243 (by decide) ?_
            refine lv_iadd hx hb dX12_isName_244 ?_
            obtain ⟨z_245, hf⟩ := gd_some hf
            obtain ⟨S_245, e_245, hf⟩ := sI_some hf
            refine r_iast C hw (x := 68) dq_68 ln_68 z_245 dX12_isName_245 e_245 (fun H locs hw => ?_)
            refine lv_aload_n hx hb dX12_isName_246 rfl (lv_at hl 0 rfl) ?_
            refine r_getR C hw (k := 7) (r := 69) dq_63 ln_63 rfl vc_12 inX12 (by decide) rfl gw6_188 dX12_isName_247 ?_
            refine lv_aload_n hx hb dX12_isName_250 rfl (lv_at hl 0 rfl) ?_
            refine r_getI C hw (k := 8) dq_63 ln_63 rfl vc_12 inX12 (by decide) rfl gw6_189 dX12_isName_251 ?_
            refine lv_iload hx hb dX12_isName_254 (lv_at hl 6 rfl) ?_
            obtain ⟨z_256, hf⟩ := gd_some hf
            obtain ⟨S_256, e_256, hf⟩ := sI_some hf
            refine r_iast C hw (x := 69) dq_69 ln_69 z_256 dX12_isName_256 e_256 (fun H locs hw => ?_)
            refine lv_aload_n hx hb dX12_isName_257 rfl (lv_at hl 0 rfl) ?_
            refine lv_dup hx hb dX12_isName_258 rfl ?_
            refine r_getI C hw (k := 8) dq_63 ln_63 rfl vc_12 inX12 (by decide) rfl gw6_189 dX12_isName_259 ?_
            refine lv_iconst (v := (1 : Int32)) hx hb dX12_isName_262 (by decide) ?_
            refine lv_iadd hx hb dX12_isName_263 ?_
            obtain ⟨S_264, e_264, hf⟩ := sI_some hf
            refine r_putI C hw (k := 8) (ty0 := tyX12) dq_63 ln_63 rfl vc_12 inX12 tyX12_ok nmX12 (by decide) rfl rfl gw6_189 rfl rfl dX12_isName_264 e_264 (fun H locs hw => ?_)
            refine lv_iload hx hb dX12_isName_267 (lv_at hl 4 rfl) ?_
            refine lv_iconst (v := (1 : Int32)) hx hb dX12_isName_269 (by decide) ?_
            refine lv_iload hx hb dX12_isName_270 (lv_at hl 6 rfl) ?_
            refine lv_iadd hx hb dX12_isName_272 ?_
            refine lv_iadd hx hb dX12_isName_273 ?_
            refine lv_istore (lv' := [(5, .int (x5 + ((1 : Int32) + x7))), (0, .ref (ad 63)), (1, .ref (ad a)), (3, .int x3), (4, .int x4), (6, .int x6), (7, .int x7), (8, .int x8)]) hx hb dX12_isName_274 hl (by decide) rfl (fun ls hl => ?_)
            refine lv_goto (tgt := 14) hx hb dX12_isName_276 (by decide) ?_
            exact ih_14 _ _ _ _ _ _ _ _ hf (lv_sub hl [1, 2, 3, 4, 0, 5] rfl) hw
          · have hf := if_f hf c_174
            refine lv_iload hx hb dX12_isName_177 (lv_at hl 4 rfl) ?_
            refine lv_iload hx hb dX12_isName_179 (lv_at hl 7 rfl) ?_
            refine lv_iadd hx hb dX12_isName_181 ?_
            refine lv_iload_n hx hb dX12_isName_182 rfl (lv_at hl 2 rfl) ?_
            refine lv_icmp_lt (tgt := 200) hx hb dX12_isName_183 (by decide) (fun c_183 => ?_) (fun c_183 => ?_)
            · have hf := if_t hf c_183
              refine lv_aload_n hx hb dX12_isName_200 rfl (lv_at hl 1 rfl) ?_
              refine lv_iload hx hb dX12_isName_201 (lv_at hl 4 rfl) ?_
              refine lv_iload hx hb dX12_isName_203 (lv_at hl 7 rfl) ?_
              refine lv_iadd hx hb dX12_isName_205 ?_
              obtain ⟨z_206, hf⟩ := gd_some hf
              refine r_bald C hw (x := a) ha.1 ha.2 z_206 dX12_isName_206 ?_
              obtain ⟨S_207, r_207, h_207, hf⟩ := bd_some hf
              refine r_bi hw (r_runS (rest := []) C hw (m_X12_isLetter l D cA ad base fu h_207) msX12_isLetter gw7_190 ⟨rfl, rfl, Nat.le_of_ble_eq_true rfl, Nat.le_of_ble_eq_true rfl⟩ rfl hl.1 rfl (Nat.le_of_ble_eq_true rfl) dX12_isName_207 (Nat.zero_le _) (Nat.zero_le _)) (fun H locs hw => ?_)
              refine lv_if_ne (tgt := 227) hx hb dX12_isName_210 (by decide) (fun c_210 => ?_) (fun c_210 => ?_)
              · have hf := if_f hf c_210
                refine lv_iinc (v := (x8 + (1 : Int32))) (lv' := [(8, .int (x8 + (1 : Int32))), (0, .ref (ad 63)), (1, .ref (ad a)), (3, .int x3), (4, .int x4), (5, .int x5), (6, .int x6), (7, .int x7)]) hx hb dX12_isName_227 hl (k := 7) rfl rfl (by decide) rfl (fun ls hl => ?_)
                refine lv_goto (tgt := 170) hx hb dX12_isName_230 (by decide) ?_
                exact ih_170 _ _ _ _ _ _ _ _ _ _ hf (lv_sub hl [1, 2, 3, 4, 5, 6, 7, 0] rfl) hw
              · have hf := if_t hf c_210
                refine lv_aload_n hx hb dX12_isName_213 rfl (lv_at hl 0 rfl) ?_
                refine lv_iconst (v := (2 : Int32)) hx hb dX12_isName_214 (by decide) ?_
                obtain ⟨S_215, r_215, h_215, hf⟩ := bd_some hf
                refine r_bi hw (r_runV (rest := []) C hw (m_X12_wrong l D cA ad base fu h_215) mvX12_wrong gw8_121 ⟨rfl, rfl, Nat.le_of_ble_eq_true rfl, Nat.le_of_ble_eq_true rfl⟩ dq_63 ln_63 vc_12 rfl hl.1 rfl (Nat.le_of_ble_eq_true rfl) dX12_isName_215 (Nat.zero_le _) (Nat.zero_le _)) (fun H locs hw => ?_)
                refine lv_if_le (tgt := 225) hx hb dX12_isName_218 (by decide) (fun c_218 => ?_) (fun c_218 => ?_)
                · have hf := if_t hf c_218
                  refine lv_iconst (v := (0 : Int32)) hx hb dX12_isName_225 (by decide) ?_
                  exact r_zret C hw hr hlocks rfl hf dX12_isName_226
                · have hf := if_f hf c_218
                  refine lv_iconst (v := (1 : Int32)) hx hb dX12_isName_221 (by decide) ?_
                  refine lv_goto (tgt := 226) hx hb dX12_isName_222 (by decide) ?_
                  exact r_zret C hw hr hlocks rfl hf dX12_isName_226
            · have hf := if_f hf c_183
              refine lv_aload_n hx hb dX12_isName_186 rfl (lv_at hl 0 rfl) ?_
              refine lv_iconst (v := (3 : Int32)) hx hb dX12_isName_187 (by decide) ?_
              obtain ⟨S_188, r_188, h_188, hf⟩ := bd_some hf
              refine r_bi hw (r_runV (rest := []) C hw (m_X12_wrong l D cA ad base fu h_188) mvX12_wrong gw8_121 ⟨rfl, rfl, Nat.le_of_ble_eq_true rfl, Nat.le_of_ble_eq_true rfl⟩ dq_63 ln_63 vc_12 rfl hl.1 rfl (Nat.le_of_ble_eq_true rfl) dX12_isName_188 (Nat.zero_le _) (Nat.zero_le _)) (fun H locs hw => ?_)
              refine lv_if_le (tgt := 198) hx hb dX12_isName_191 (by decide) (fun c_191 => ?_) (fun c_191 => ?_)
              · have hf := if_t hf c_191
                refine lv_iconst (v := (0 : Int32)) hx hb dX12_isName_198 (by decide) ?_
                exact r_zret C hw hr hlocks rfl hf dX12_isName_199
              · have hf := if_f hf c_191
                refine lv_iconst (v := (1 : Int32)) hx hb dX12_isName_194 (by decide) ?_
                refine lv_goto (tgt := 199) hx hb dX12_isName_195 (by decide) ?_
                exact r_zret C hw hr hlocks rfl hf dX12_isName_199
      have J_126 : ∀ (x3 : Int32) (x6 : Int32) (x8 : Int32) (S : St) (H : Heap) (locs : List Loc) (ls : Array Slot), fX12_isName_126 fu a na (fX12_isName_14 fu a na n_14) x3 x6 x8 S = some (S', r) → lv_has ls 9 [(0, .ref (ad 63)), (1, .ref (ad a)), (3, .int x3), (6, .int x6), (8, .int x8)] → WS D cA ad base s S H locs → W p l e rmX12_isName s m args below meth c H locs 0 0 (MQ below (QI D cA ad base S' r) args s 0 0 (aB base)) (F0 m 126 ls []) := by
        intro x3 x6 x8 S H locs ls hf hl hw
        refine lv_iload hx hb dX12_isName_126 (lv_at hl 4 rfl) ?_
        refine lv_istore (lv' := [(4, .int x8), (0, .ref (ad 63)), (1, .ref (ad a)), (3, .int x3), (6, .int x6), (8, .int x8)]) hx hb dX12_isName_128 hl (by decide) rfl (fun ls hl => ?_)
        refine lv_iload hx hb dX12_isName_130 (lv_at hl 5 rfl) ?_
        refine lv_istore (lv' := [(5, .int x8), (4, .int x8), (0, .ref (ad 63)), (1, .ref (ad a)), (3, .int x3), (6, .int x6), (8, .int x8)]) hx hb dX12_isName_132 hl (by decide) rfl (fun ls hl => ?_)
        refine lv_goto (tgt := 14) hx hb dX12_isName_134 (by decide) ?_
        exact ih_14 _ _ _ _ _ _ _ _ hf (lv_sub hl [2, 3, 4, 1, 0, 5] rfl) hw
      intro x3 x4 x5 x6 S H locs ls hf hl hw
      rw [fX12_isName_14_s] at hf
      refine lv_iload hx hb dX12_isName_14 (lv_at hl 4 rfl) ?_
      refine lv_iload_n hx hb dX12_isName_16 rfl (lv_at hl 2 rfl) ?_
      refine lv_icmp_lt (tgt := 34) hx hb dX12_isName_17 (by decide) (fun c_17 => ?_) (fun c_17 => ?_)
      · have hf := if_t hf c_17
        refine lv_aload_n hx hb dX12_isName_34 rfl (lv_at hl 1 rfl) ?_
        refine lv_iload hx hb dX12_isName_35 (lv_at hl 4 rfl) ?_
        obtain ⟨z_37, hf⟩ := gd_some hf
        refine r_bald C hw (x := a) ha.1 ha.2 z_37 dX12_isName_37 ?_
        refine lv_sipush (v := (255 : Int32)) hx hb dX12_isName_38 (by decide) ?_
        refine lv_iand hx hb dX12_isName_41 ?_
        refine lv_istore (lv' := [(7, .int ((S.1 a (x5).toNatClampNeg) &&& (255 : Int32))), (0, .ref (ad 63)), (1, .ref (ad a)), (3, .int x3), (4, .int x4), (5, .int x5), (6, .int x6)]) hx hb dX12_isName_42 hl (by decide) rfl (fun ls hl => ?_)
        refine lv_iload hx hb dX12_isName_44 (lv_at hl 0 rfl) ?_
        refine lv_if_ne (tgt := 52) hx hb dX12_isName_46 (by decide) (fun c_46 => ?_) (fun c_46 => ?_)
        · have hf := if_f hf c_46
          refine lv_iload hx hb dX12_isName_52 (lv_at hl 0 rfl) ?_
          refine lv_sipush (v := (192 : Int32)) hx hb dX12_isName_54 (by decide) ?_
          refine lv_icmp_lt (tgt := 137) hx hb dX12_isName_57 (by decide) (fun c_57 => ?_) (fun c_57 => ?_)
          · have hf := if_t hf c_57
            refine lv_iload hx hb dX12_isName_137 (lv_at hl 0 rfl) ?_
            refine lv_bipush (v := (10 : Int32)) hx hb dX12_isName_139 (by decide) ?_
            refine lv_icmp_gt (tgt := 153) hx hb dX12_isName_141 (by decide) (fun c_141 => ?_) (fun c_141 => ?_)
            · have hf := if_t hf c_141
              exact J_153 _ _ _ _ hf (lv_sub hl [1] rfl) hw
            · have hf := if_f hf c_141
              refine lv_aload_n hx hb dX12_isName_144 rfl (lv_at hl 1 rfl) ?_
              refine r_getI C hw (k := 8) dq_63 ln_63 rfl vc_12 inX12 (by decide) rfl gw6_189 dX12_isName_145 ?_
              refine lv_bipush (v := (6 : Int32)) hx hb dX12_isName_148 (by decide) ?_
              refine lv_icmp_ne (tgt := 167) hx hb dX12_isName_150 (by decide) (fun c_150 => ?_) (fun c_150 => ?_)
              · have hf := if_f hf c_150
                refine lv_iconst (v := (1 : Int32)) hx hb dX12_isName_167 (by decide) ?_
                refine lv_istore (lv' := [(8, .int (1 : Int32)), (7, .int ((S.1 a (x5).toNatClampNeg) &&& (255 : Int32))), (0, .ref (ad 63)), (1, .ref (ad a)), (3, .int x3), (4, .int x4), (5, .int x5), (6, .int x6)]) hx hb dX12_isName_168 hl (by decide) rfl (fun ls hl => ?_)
                exact L_170 fu _ _ _ _ _ _ _ _ _ _ hf (lv_sub hl [2, 3, 4, 5, 6, 7, 1, 0] rfl) hw
              · have hf := if_t hf c_150
                exact J_153 _ _ _ _ hf (lv_sub hl [1] rfl) hw
          · have hf := if_f hf c_57
            refine lv_iload hx hb dX12_isName_60 (lv_at hl 5 rfl) ?_
            refine lv_iconst (v := (1 : Int32)) hx hb dX12_isName_62 (by decide) ?_
            refine lv_iadd hx hb dX12_isName_63 ?_
            refine lv_iload_n hx hb dX12_isName_64 rfl (lv_at hl 3 rfl) ?_
            refine lv_icmp_lt (tgt := 82) hx hb dX12_isName_65 (by decide) (fun c_65 => ?_) (fun c_65 => ?_)
            · have hf := if_t hf c_65
              refine lv_aload_n hx hb dX12_isName_82 rfl (lv_at hl 2 rfl) ?_
              refine lv_iload hx hb dX12_isName_83 (lv_at hl 5 rfl) ?_
              obtain ⟨S_85, r_85, h_85, hf⟩ := bd_some hf
              refine r_bi hw (r_runS (rest := []) C hw (m_X12_two l D cA ad base fu a na ⟨ha.1, ha.2⟩ h_85) msX12_two gw8_118 ⟨rfl, rfl, Nat.le_of_ble_eq_true rfl, Nat.le_of_ble_eq_true rfl⟩ rfl hl.1 rfl (Nat.le_of_ble_eq_true rfl) dX12_isName_85 (Nat.zero_le _) (Nat.zero_le _)) (fun H locs hw => ?_)
              refine lv_sipush (v := (16383 : Int32)) hx hb dX12_isName_88 (by decide) ?_
              refine lv_iand hx hb dX12_isName_91 ?_
              refine lv_istore (lv' := [(8, .int (r_85 &&& (16383 : Int32))), (7, .int ((S.1 a (x5).toNatClampNeg) &&& (255 : Int32))), (0, .ref (ad 63)), (1, .ref (ad a)), (3, .int x3), (4, .int x4), (5, .int x5), (6, .int x6)]) hx hb dX12_isName_92 hl (by decide) rfl (fun ls hl => ?_)
              refine lv_iload hx hb dX12_isName_94 (lv_at hl 0 rfl) ?_
              refine lv_iload hx hb dX12_isName_96 (lv_at hl 5 rfl) ?_
              refine lv_icmp_lt (tgt := 115) hx hb dX12_isName_98 (by decide) (fun c_98 => ?_) (fun c_98 => ?_)
              · have hf := if_t hf c_98
                refine lv_iload hx hb dX12_isName_115 (lv_at hl 7 rfl) ?_
                refine lv_if_ge (tgt := 126) hx hb dX12_isName_117 (by decide) (fun c_117 => ?_) (fun c_117 => ?_)
                · have hf := if_t hf c_117
                  exact J_126 _ _ _ _ _ _ _ hf (lv_sub hl [2, 3, 4, 7, 0] rfl) hw
                · have hf := if_f hf c_117
                  refine lv_iload hx hb dX12_isName_120 (lv_at hl 6 rfl) ?_
                  refine lv_iconst (v := (2 : Int32)) hx hb dX12_isName_122 (by decide) ?_
                  refine lv_iadd hx hb dX12_isName_123 ?_
                  refine lv_istore (lv' := [(6, .int (x5 + (2 : Int32))), (8, .int (r_85 &&& (16383 : Int32))), (7, .int ((S.1 a (x5).toNatClampNeg) &&& (255 : Int32))), (0, .ref (ad 63)), (1, .ref (ad a)), (3, .int x3), (4, .int x4), (5, .int x5)]) hx hb dX12_isName_124 hl (by decide) rfl (fun ls hl => ?_)
                  exact J_126 _ _ _ _ _ _ _ hf (lv_sub hl [3, 4, 5, 0, 1] rfl) hw
              · have hf := if_f hf c_98
                refine lv_aload_n hx hb dX12_isName_101 rfl (lv_at hl 2 rfl) ?_
                refine lv_iconst (v := (2 : Int32)) hx hb dX12_isName_102 (by decide) ?_
                obtain ⟨S_103, r_103, h_103, hf⟩ := bd_some hf
                refine r_bi hw (r_runV (rest := []) C hw (m_X12_wrong l D cA ad base fu h_103) mvX12_wrong gw8_121 ⟨rfl, rfl, Nat.le_of_ble_eq_true rfl, Nat.le_of_ble_eq_true rfl⟩ dq_63 ln_63 vc_12 rfl hl.1 rfl (Nat.le_of_ble_eq_true rfl) dX12_isName_103 (Nat.zero_le _) (Nat.zero_le _)) (fun H locs hw => ?_)
                refine lv_if_le (tgt := 113) hx hb dX12_isName_106 (by decide) (fun c_106 => ?_) (fun c_106 => ?_)
                · have hf := if_t hf c_106
                  refine lv_iconst (v := (0 : Int32)) hx hb dX12_isName_113 (by decide) ?_
                  exact r_zret C hw hr hlocks rfl hf dX12_isName_114
                · have hf := if_f hf c_106
                  refine lv_iconst (v := (1 : Int32)) hx hb dX12_isName_109 (by decide) ?_
                  refine lv_goto (tgt := 114) hx hb dX12_isName_110 (by decide) ?_
                  exact r_zret C hw hr hlocks rfl hf dX12_isName_114
            · have hf := if_f hf c_65
              refine lv_aload_n hx hb dX12_isName_68 rfl (lv_at hl 1 rfl) ?_
              refine lv_iconst (v := (3 : Int32)) hx hb dX12_isName_69 (by decide) ?_
              obtain ⟨S_70, r_70, h_70, hf⟩ := bd_some hf
              refine r_bi hw (r_runV (rest := []) C hw (m_X12_wrong l D cA ad base fu h_70) mvX12_wrong gw8_121 ⟨rfl, rfl, Nat.le_of_ble_eq_true rfl, Nat.le_of_ble_eq_true rfl⟩ dq_63 ln_63 vc_12 rfl hl.1 rfl (Nat.le_of_ble_eq_true rfl) dX12_isName_70 (Nat.zero_le _) (Nat.zero_le _)) (fun H locs hw => ?_)
              refine lv_if_le (tgt := 80) hx hb dX12_isName_73 (by decide) (fun c_73 => ?_) (fun c_73 => ?_)
              · have hf := if_t hf c_73
                refine lv_iconst (v := (0 : Int32)) hx hb dX12_isName_80 (by decide) ?_
                exact r_zret C hw hr hlocks rfl hf dX12_isName_81
              · have hf := if_f hf c_73
                refine lv_iconst (v := (1 : Int32)) hx hb dX12_isName_76 (by decide) ?_
                refine lv_goto (tgt := 81) hx hb dX12_isName_77 (by decide) ?_
                exact r_zret C hw hr hlocks rfl hf dX12_isName_81
        · have hf := if_t hf c_46
          refine lv_goto (tgt := 279) hx hb dX12_isName_49 (by decide) ?_
          refine lv_aload_n hx hb dX12_isName_279 rfl (lv_at hl 1 rfl) ?_
          refine lv_iload hx hb dX12_isName_280 (lv_at hl 6 rfl) ?_
          refine lv_if_ge (tgt := 292) hx hb dX12_isName_282 (by decide) (fun c_282 => ?_) (fun c_282 => ?_)
          · have hf := if_t hf c_282
            refine lv_iload hx hb dX12_isName_292 (lv_at hl 6 rfl) ?_
            exact J_294 _ _ _ _ _ hf (lv_sub hl [] rfl) hw
          · have hf := if_f hf c_282
            refine lv_iload hx hb dX12_isName_285 (lv_at hl 5 rfl) ?_
            refine lv_iconst (v := (1 : Int32)) hx hb dX12_isName_287 (by decide) ?_
            refine lv_iadd hx hb dX12_isName_288 ?_
            refine lv_goto (tgt := 294) hx hb dX12_isName_289 (by decide) ?_
            exact J_294 _ _ _ _ _ hf (lv_sub hl [] rfl) hw
      · have hf := if_f hf c_17
        refine lv_aload_n hx hb dX12_isName_20 rfl (lv_at hl 0 rfl) ?_
        refine lv_iconst (v := (3 : Int32)) hx hb dX12_isName_21 (by decide) ?_
        obtain ⟨S_22, r_22, h_22, hf⟩ := bd_some hf
        refine r_bi hw (r_runV (rest := []) C hw (m_X12_wrong l D cA ad base fu h_22) mvX12_wrong gw8_121 ⟨rfl, rfl, Nat.le_of_ble_eq_true rfl, Nat.le_of_ble_eq_true rfl⟩ dq_63 ln_63 vc_12 rfl hl.1 rfl (Nat.le_of_ble_eq_true rfl) dX12_isName_22 (Nat.zero_le _) (Nat.zero_le _)) (fun H locs hw => ?_)
        refine lv_if_le (tgt := 32) hx hb dX12_isName_25 (by decide) (fun c_25 => ?_) (fun c_25 => ?_)
        · have hf := if_t hf c_25
          refine lv_iconst (v := (0 : Int32)) hx hb dX12_isName_32 (by decide) ?_
          exact r_zret C hw hr hlocks rfl hf dX12_isName_33
        · have hf := if_f hf c_25
          refine lv_iconst (v := (1 : Int32)) hx hb dX12_isName_28 (by decide) ?_
          refine lv_goto (tgt := 33) hx hb dX12_isName_29 (by decide) ?_
          exact r_zret C hw hr hlocks rfl hf dX12_isName_33
  show W p l e rmX12_isName s m args below meth c s.heap [] 0 0 _ _
  refine lv_aload_n hx hb dX12_isName_0 rfl (lv_at hl 0 rfl) ?_
  refine lv_iconst (v := (0 : Int32)) hx hb dX12_isName_1 (by decide) ?_
  obtain ⟨S_2, e_2, hf⟩ := sI_some hf
  refine r_putI C hw (k := 8) (ty0 := tyX12) dq_63 ln_63 rfl vc_12 inX12 tyX12_ok nmX12 (by decide) rfl rfl gw6_189 rfl rfl dX12_isName_2 e_2 (fun H locs hw => ?_)
  refine lv_iload_n hx hb dX12_isName_5 rfl (lv_at hl 2 rfl) ?_
  refine lv_istore (lv' := [(4, .int x2), (0, .ref (ad 63)), (1, .ref (ad a)), (2, .int x2), (3, .int x3)]) hx hb dX12_isName_6 hl (by decide) rfl (fun ls hl => ?_)
  refine lv_iload_n hx hb dX12_isName_8 rfl (lv_at hl 3 rfl) ?_
  refine lv_istore (lv' := [(5, .int x2), (4, .int x2), (0, .ref (ad 63)), (1, .ref (ad a)), (2, .int x2), (3, .int x3)]) hx hb dX12_isName_9 hl (by decide) rfl (fun ls hl => ?_)
  refine lv_iconst (v := (-1 : Int32)) hx hb dX12_isName_11 (by decide) ?_
  refine lv_istore (lv' := [(6, .int (-1 : Int32)), (5, .int x2), (4, .int x2), (0, .ref (ad 63)), (1, .ref (ad a)), (2, .int x2), (3, .int x3)]) hx hb dX12_isName_12 hl (by decide) rfl (fun ls hl => ?_)
  exact L_14 fu _ _ _ _ _ _ _ _ hf (lv_sub hl [3, 4, 6, 2, 1, 0] rfl) hw
noncomputable def fX12_readName (fu : Nat) (a na : Nat) (x2 : Int32) (S : St) : Option (St × Int32) :=
  bd (fX12_isName fu a na (S.1 63 31) x2 S) fun S_7 r_7 =>
  if r_7 = 0 then
    some (S_7, (-1 : Int32))
  else
    bd (fX12_named fu a na S_7) fun S_17 r_17 =>
    if 0 ≤ r_17 then
      some (S_17, r_17)
    else
      bd (fX12_wrong fu (6 : Int32) S_17) fun S_28 r_28 =>
      some (S_28, r_28)
theorem mvX12_readName : MV yX12_readName cX12_readName 4 (some .int) RX12 2 := ⟨gw8_128, gw8_127, gs_73, gw1_13, by decide +kernel⟩
def rmX12_readName : Room := { frames := 2, cells := 0, slots := 0, locals := 51 }
set_option maxHeartbeats 4000000 in
set_option maxRecDepth 100000 in
theorem m_X12_readName (l : Launch) (D : va_G) (cA : FieldType → ClassId) (ad : Nat → Nat) (base : Nat) (fu : Nat) (a na : Nat) (ha : isBA a na) {S S' : St} {x2 : Int32} {r : Int32} (hf : fX12_readName fu a na x2 S = some (S', r)) : Met l yX12_readName (GC yX12_readName cX12_readName 4 (some .int)) rmX12_readName (va_Pc [.ref (ad 63), .ref (ad a), .int x2] (wd D cA ad base S)) (QI D cA ad base S' r) 0 0 (aB base) := by
  refine Met.ofW (cc := cX12_readName) (maxL := 4) (ret := (some .int)) (by decide) rfl ?_
  intro p e s m args below meth c s₁ B hml hv
  obtain ⟨hargs, hwd⟩ := hv
  have hr := B.returns
  have hlocks := B.notSynchronized
  obtain ⟨C, hw⟩ := CX.of (own := RX12) rfl B hml hwd
  have hx := C.1
  have hb := C.2.1
  have hl := lv_entry ([.ref (ad 63), .ref (ad a), .int x2]) (n := 4) (Nat.le_of_ble_eq_true rfl)
  rw [show entryFrame m args 4 = entryFrame m ([.ref (ad 63), .ref (ad a), .int x2] : List Value).toArray 4 from by rw [hargs], lg_entry_eq]
  generalize (lg_sl ([.ref (ad 63), .ref (ad a), .int x2]) ++ List.replicate (4 - (lg_sl ([.ref (ad 63), .ref (ad a), .int x2])).length) Slot.unset).toArray = ls at hl ⊢
  have hl : lv_has ls 4 [(0, .ref (ad 63)), (1, .ref (ad a)), (2, .int x2)] := hl
  show W p l e rmX12_readName s m args below meth c s.heap [] 0 0 _ _
  refine lv_aload_n hx hb dX12_readName_0 rfl (lv_at hl 0 rfl) ?_
  refine lv_aload_n hx hb dX12_readName_1 rfl (lv_at hl 1 rfl) ?_
  refine lv_aload_n hx hb dX12_readName_2 rfl (lv_at hl 0 rfl) ?_
  refine r_getI C hw (k := 31) dq_63 ln_63 rfl vc_12 inX12 (by decide) rfl gw6_212 dX12_readName_3 ?_
  refine lv_iload_n hx hb dX12_readName_6 rfl (lv_at hl 2 rfl) ?_
  obtain ⟨S_7, r_7, h_7, hf⟩ := bd_some hf
  refine r_bi hw (r_runV (rest := []) C hw (m_X12_isName l D cA ad base fu a na ⟨ha.1, ha.2⟩ h_7) mvX12_isName gw8_129 ⟨rfl, rfl, Nat.le_of_ble_eq_true rfl, Nat.le_of_ble_eq_true rfl⟩ dq_63 ln_63 vc_12 rfl hl.1 rfl (Nat.le_of_ble_eq_true rfl) dX12_readName_7 (Nat.zero_le _) (Nat.zero_le _)) (fun H locs hw => ?_)
  refine lv_if_ne (tgt := 15) hx hb dX12_readName_10 (by decide) (fun c_10 => ?_) (fun c_10 => ?_)
  · have hf := if_f hf c_10
    refine lv_aload_n hx hb dX12_readName_15 rfl (lv_at hl 0 rfl) ?_
    refine lv_aload_n hx hb dX12_readName_16 rfl (lv_at hl 1 rfl) ?_
    obtain ⟨S_17, r_17, h_17, hf⟩ := bd_some hf
    refine r_bi hw (r_runV (rest := []) C hw (m_X12_named l D cA ad base fu a na ⟨ha.1, ha.2⟩ h_17) mvX12_named gw7_205 ⟨rfl, rfl, Nat.le_of_ble_eq_true rfl, Nat.le_of_ble_eq_true rfl⟩ dq_63 ln_63 vc_12 rfl hl.1 rfl (Nat.le_of_ble_eq_true rfl) dX12_readName_17 (Nat.zero_le _) (Nat.zero_le _)) (fun H locs hw => ?_)
    refine lv_istore_n (lv' := [(3, .int r_17), (0, .ref (ad 63)), (1, .ref (ad a)), (2, .int x2)]) hx hb dX12_readName_20 rfl hl (by decide) rfl (fun ls hl => ?_)
    refine lv_iload_n hx hb dX12_readName_21 rfl (lv_at hl 0 rfl) ?_
    refine lv_if_ge (tgt := 34) hx hb dX12_readName_22 (by decide) (fun c_22 => ?_) (fun c_22 => ?_)
    · have hf := if_t hf c_22
      refine lv_iload_n hx hb dX12_readName_34 rfl (lv_at hl 0 rfl) ?_
      exact r_iret C hw hr hlocks hf dX12_readName_35
    · have hf := if_f hf c_22
      refine lv_aload_n hx hb dX12_readName_25 rfl (lv_at hl 1 rfl) ?_
      refine lv_bipush (v := (6 : Int32)) hx hb dX12_readName_26 (by decide) ?_
      obtain ⟨S_28, r_28, h_28, hf⟩ := bd_some hf
      refine r_bi hw (r_runV (rest := []) C hw (m_X12_wrong l D cA ad base fu h_28) mvX12_wrong gw8_121 ⟨rfl, rfl, Nat.le_of_ble_eq_true rfl, Nat.le_of_ble_eq_true rfl⟩ dq_63 ln_63 vc_12 rfl hl.1 rfl (Nat.le_of_ble_eq_true rfl) dX12_readName_28 (Nat.zero_le _) (Nat.zero_le _)) (fun H locs hw => ?_)
      refine lv_goto (tgt := 35) hx hb dX12_readName_31 (by decide) ?_
      exact r_iret C hw hr hlocks hf dX12_readName_35
  · have hf := if_t hf c_10
    refine lv_iconst (v := (-1 : Int32)) hx hb dX12_readName_13 (by decide) ?_
    exact r_iret C hw hr hlocks hf dX12_readName_14
noncomputable def fX12_readInner (fu : Nat) (a na : Nat) (x2 : Int32) (S : St) : Option (St × Int32) :=
  bd (fX12_readName fu a na x2 S) fun S_3 r_3 =>
  if 0 ≤ r_3 then
    some (S_3, r_3)
  else
    if (S_3.1 63 30) = (6 : Int32) then
      some (S_3, r_3)
    else
      sI 63 30 (4 : Int32) S_3 fun S_22 =>
      some (S_22, r_3)
theorem mvX12_readInner : MV yX12_readInner cX12_readInner 4 (some .int) RX12 2 := ⟨gw8_147, gw8_146, gs_77, gw1_13, by decide +kernel⟩
def rmX12_readInner : Room := { frames := 3, cells := 0, slots := 0, locals := 74 }
set_option maxHeartbeats 4000000 in
set_option maxRecDepth 100000 in
theorem m_X12_readInner (l : Launch) (D : va_G) (cA : FieldType → ClassId) (ad : Nat → Nat) (base : Nat) (fu : Nat) (a na : Nat) (ha : isBA a na) {S S' : St} {x2 : Int32} {r : Int32} (hf : fX12_readInner fu a na x2 S = some (S', r)) : Met l yX12_readInner (GC yX12_readInner cX12_readInner 4 (some .int)) rmX12_readInner (va_Pc [.ref (ad 63), .ref (ad a), .int x2] (wd D cA ad base S)) (QI D cA ad base S' r) 0 0 (aB base) := by
  refine Met.ofW (cc := cX12_readInner) (maxL := 4) (ret := (some .int)) (by decide) rfl ?_
  intro p e s m args below meth c s₁ B hml hv
  obtain ⟨hargs, hwd⟩ := hv
  have hr := B.returns
  have hlocks := B.notSynchronized
  obtain ⟨C, hw⟩ := CX.of (own := RX12) rfl B hml hwd
  have hx := C.1
  have hb := C.2.1
  have hl := lv_entry ([.ref (ad 63), .ref (ad a), .int x2]) (n := 4) (Nat.le_of_ble_eq_true rfl)
  rw [show entryFrame m args 4 = entryFrame m ([.ref (ad 63), .ref (ad a), .int x2] : List Value).toArray 4 from by rw [hargs], lg_entry_eq]
  generalize (lg_sl ([.ref (ad 63), .ref (ad a), .int x2]) ++ List.replicate (4 - (lg_sl ([.ref (ad 63), .ref (ad a), .int x2])).length) Slot.unset).toArray = ls at hl ⊢
  have hl : lv_has ls 4 [(0, .ref (ad 63)), (1, .ref (ad a)), (2, .int x2)] := hl
  show W p l e rmX12_readInner s m args below meth c s.heap [] 0 0 _ _
  refine lv_aload_n hx hb dX12_readInner_0 rfl (lv_at hl 0 rfl) ?_
  refine lv_aload_n hx hb dX12_readInner_1 rfl (lv_at hl 1 rfl) ?_
  refine lv_iload_n hx hb dX12_readInner_2 rfl (lv_at hl 2 rfl) ?_
  obtain ⟨S_3, r_3, h_3, hf⟩ := bd_some hf
  refine r_bi hw (r_runV (rest := []) C hw (m_X12_readName l D cA ad base fu a na ⟨ha.1, ha.2⟩ h_3) mvX12_readName gw8_125 ⟨rfl, rfl, Nat.le_of_ble_eq_true rfl, Nat.le_of_ble_eq_true rfl⟩ dq_63 ln_63 vc_12 rfl hl.1 rfl (Nat.le_of_ble_eq_true rfl) dX12_readInner_3 (Nat.zero_le _) (Nat.zero_le _)) (fun H locs hw => ?_)
  refine lv_istore_n (lv' := [(3, .int r_3), (0, .ref (ad 63)), (1, .ref (ad a)), (2, .int x2)]) hx hb dX12_readInner_6 rfl hl (by decide) rfl (fun ls hl => ?_)
  refine lv_iload_n hx hb dX12_readInner_7 rfl (lv_at hl 0 rfl) ?_
  refine lv_if_ge (tgt := 25) hx hb dX12_readInner_8 (by decide) (fun c_8 => ?_) (fun c_8 => ?_)
  · have hf := if_t hf c_8
    refine lv_iload_n hx hb dX12_readInner_25 rfl (lv_at hl 0 rfl) ?_
    exact r_iret C hw hr hlocks hf dX12_readInner_26
  · have hf := if_f hf c_8
    refine lv_aload_n hx hb dX12_readInner_11 rfl (lv_at hl 1 rfl) ?_
    refine r_getI C hw (k := 30) dq_63 ln_63 rfl vc_12 inX12 (by decide) rfl gw6_211 dX12_readInner_12 ?_
    refine lv_bipush (v := (6 : Int32)) hx hb dX12_readInner_15 (by decide) ?_
    refine lv_icmp_eq (tgt := 25) hx hb dX12_readInner_17 (by decide) (fun c_17 => ?_) (fun c_17 => ?_)
    · have hf := if_t hf c_17
      refine lv_iload_n hx hb dX12_readInner_25 rfl (lv_at hl 0 rfl) ?_
      exact r_iret C hw hr hlocks hf dX12_readInner_26
    · have hf := if_f hf c_17
      refine lv_aload_n hx hb dX12_readInner_20 rfl (lv_at hl 1 rfl) ?_
      refine lv_iconst (v := (4 : Int32)) hx hb dX12_readInner_21 (by decide) ?_
      obtain ⟨S_22, e_22, hf⟩ := sI_some hf
      refine r_putI C hw (k := 30) (ty0 := tyX12) dq_63 ln_63 rfl vc_12 inX12 tyX12_ok nmX12 (by decide) rfl rfl gw6_211 rfl rfl dX12_readInner_22 e_22 (fun H locs hw => ?_)
      refine lv_iload_n hx hb dX12_readInner_25 rfl (lv_at hl 0 rfl) ?_
      exact r_iret C hw hr hlocks hf dX12_readInner_26
noncomputable def fX12_readData_182 (fu : Nat) (a na : Nat) (x3 : Int32) (x4 : Int32) (x5 : Int32) (x6 : Int32) (S : St) : Option (St × Int32) :=
  if (S.1 63 30) ≤ 0 then
    if (S.1 63 31) = (x5 + x4) then
      if x3 = (6 : Int32) then
        bd (fX12_four fu a na ((S.1 63 31) - (4 : Int32)) S) fun S_222 r_222 =>
        some (S_222, r_222)
      else
        some (S, x6)
    else
      bd (fX12_wrong fu (4 : Int32) S) fun S_205 r_205 =>
      some (S_205, r_205)
  else
    some (S, (-1 : Int32))
noncomputable def fX12_readData_142 (fu : Nat) (a na : Nat) (x2 : Int32) (x3 : Int32) (x4 : Int32) (x5 : Int32) (S : St) : Option (St × Int32) :=
  bd (fX12_readInner fu a na x2 S) fun S_145 r_145 =>
  if (S_145.1 63 30) = 0 then
    if x3 = (6 : Int32) then
      bd (fX12_readInner fu a na x2 S_145) fun S_166 r_166 =>
      sI 63 31 ((S_166.1 63 31) + (20 : Int32)) S_166 fun S_179 =>
      fX12_readData_182 fu a na x3 x4 x5 r_145 S_179
    else
      fX12_readData_182 fu a na x3 x4 x5 r_145 S_145
  else
    fX12_readData_182 fu a na x3 x4 x5 r_145 S_145
noncomputable def fX12_readData_52 (fu : Nat) (a na : Nat) (x2 : Int32) (x3 : Int32) (x4 : Int32) (x5 : Int32) (S : St) : Option (St × Int32) :=
  if x3 = (1 : Int32) then
    sI 63 31 ((S.1 63 31) + (4 : Int32)) S fun S_64 =>
    bd (fX12_four fu a na x5 S_64) fun S_70 r_70 =>
    some (S_70, r_70)
  else
    if x3 = (16 : Int32) then
      gd (ck x5 na) <|
      if (S.1 a (x5).toNatClampNeg) = (4 : Int32) then
        sI 63 31 ((S.1 63 31) + (5 : Int32)) S fun S_101 =>
        bd (fX12_four fu a na (x5 + (1 : Int32)) S_101) fun S_109 r_109 =>
        some (S_109, r_109)
      else
        bd (fX12_wrong fu (4 : Int32) S) fun S_90 r_90 =>
        some (S_90, r_90)
    else
      if x3 = (2 : Int32) then
        fX12_readData_142 fu a na x2 x3 x4 x5 S
      else
        if x3 = (5 : Int32) then
          fX12_readData_142 fu a na x2 x3 x4 x5 S
        else
          if x3 = (6 : Int32) then
            fX12_readData_142 fu a na x2 x3 x4 x5 S
          else
            sI 63 31 ((S.1 63 31) + x4) S fun S_137 =>
            some (S_137, (0 : Int32))
noncomputable def fX12_readData_46 (fu : Nat) (a na : Nat) (S : St) : Option (St × Int32) :=
  bd (fX12_wrong fu (4 : Int32) S) fun S_48 r_48 =>
  some (S_48, r_48)
noncomputable def fX12_readData_34 (fu : Nat) (a na : Nat) (x2 : Int32) (x3 : Int32) (x4 : Int32) (x5 : Int32) (S : St) : Option (St × Int32) :=
  if x3 = (16 : Int32) then
    if x4 = (5 : Int32) then
      fX12_readData_52 fu a na x2 x3 x4 x5 S
    else
      fX12_readData_46 fu a na S
  else
    fX12_readData_52 fu a na x2 x3 x4 x5 S
noncomputable def fX12_readData (fu : Nat) (a na : Nat) (x2 : Int32) (x3 : Int32) (x4 : Int32) (S : St) : Option (St × Int32) :=
  if ((S.1 63 31) + x4) ≤ x2 then
    if x3 = (1 : Int32) then
      if x4 = (4 : Int32) then
        fX12_readData_34 fu a na x2 x3 x4 (S.1 63 31) S
      else
        fX12_readData_46 fu a na S
    else
      fX12_readData_34 fu a na x2 x3 x4 (S.1 63 31) S
  else
    bd (fX12_wrong fu (3 : Int32) S) fun S_19 r_19 =>
    some (S_19, r_19)
theorem mvX12_readData : MV yX12_readData cX12_readData 8 (some .int) RX12 4 := ⟨gw8_143, gw8_142, gs_76, gw1_13, by decide +kernel⟩
def rmX12_readData : Room := { frames := 4, cells := 0, slots := 0, locals := 97 }
set_option maxHeartbeats 4000000 in
set_option maxRecDepth 100000 in
theorem m_X12_readData (l : Launch) (D : va_G) (cA : FieldType → ClassId) (ad : Nat → Nat) (base : Nat) (fu : Nat) (a na : Nat) (ha : isBA a na) {S S' : St} {x2 : Int32} {x3 : Int32} {x4 : Int32} {r : Int32} (hf : fX12_readData fu a na x2 x3 x4 S = some (S', r)) : Met l yX12_readData (GC yX12_readData cX12_readData 8 (some .int)) rmX12_readData (va_Pc [.ref (ad 63), .ref (ad a), .int x2, .int x3, .int x4] (wd D cA ad base S)) (QI D cA ad base S' r) 0 0 (aB base) := by
  refine Met.ofW (cc := cX12_readData) (maxL := 8) (ret := (some .int)) (by decide) rfl ?_
  intro p e s m args below meth c s₁ B hml hv
  obtain ⟨hargs, hwd⟩ := hv
  have hr := B.returns
  have hlocks := B.notSynchronized
  obtain ⟨C, hw⟩ := CX.of (own := RX12) rfl B hml hwd
  have hx := C.1
  have hb := C.2.1
  have hl := lv_entry ([.ref (ad 63), .ref (ad a), .int x2, .int x3, .int x4]) (n := 8) (Nat.le_of_ble_eq_true rfl)
  rw [show entryFrame m args 8 = entryFrame m ([.ref (ad 63), .ref (ad a), .int x2, .int x3, .int x4] : List Value).toArray 8 from by rw [hargs], lg_entry_eq]
  generalize (lg_sl ([.ref (ad 63), .ref (ad a), .int x2, .int x3, .int x4]) ++ List.replicate (8 - (lg_sl ([.ref (ad 63), .ref (ad a), .int x2, .int x3, .int x4])).length) Slot.unset).toArray = ls at hl ⊢
  have hl : lv_has ls 8 [(0, .ref (ad 63)), (1, .ref (ad a)), (2, .int x2), (3, .int x3), (4, .int x4)] := hl
  have J_182 : ∀ (x3 : Int32) (x4 : Int32) (x5 : Int32) (x6 : Int32) (S : St) (H : Heap) (locs : List Loc) (ls : Array Slot), fX12_readData_182 fu a na x3 x4 x5 x6 S = some (S', r) → lv_has ls 8 [(0, .ref (ad 63)), (1, .ref (ad a)), (3, .int x3), (4, .int x4), (5, .int x5), (6, .int x6)] → WS D cA ad base s S H locs → W p l e rmX12_readData s m args below meth c H locs 0 0 (MQ below (QI D cA ad base S' r) args s 0 0 (aB base)) (F0 m 182 ls []) := by
    intro x3 x4 x5 x6 S H locs ls hf hl hw
    refine lv_aload_n hx hb dX12_readData_182 rfl (lv_at hl 0 rfl) ?_
    refine r_getI C hw (k := 30) dq_63 ln_63 rfl vc_12 inX12 (by decide) rfl gw6_211 dX12_readData_183 ?_
    refine lv_if_le (tgt := 191) hx hb dX12_readData_186 (by decide) (fun c_186 => ?_) (fun c_186 => ?_)
    · have hf := if_t hf c_186
      refine lv_aload_n hx hb dX12_readData_191 rfl (lv_at hl 0 rfl) ?_
      refine r_getI C hw (k := 31) dq_63 ln_63 rfl vc_12 inX12 (by decide) rfl gw6_212 dX12_readData_192 ?_
      refine lv_iload hx hb dX12_readData_195 (lv_at hl 4 rfl) ?_
      refine lv_iload hx hb dX12_readData_197 (lv_at hl 3 rfl) ?_
      refine lv_iadd hx hb dX12_readData_199 ?_
      refine lv_icmp_eq (tgt := 209) hx hb dX12_readData_200 (by decide) (fun c_200 => ?_) (fun c_200 => ?_)
      · have hf := if_t hf c_200
        refine lv_iload_n hx hb dX12_readData_209 rfl (lv_at hl 2 rfl) ?_
        refine lv_bipush (v := (6 : Int32)) hx hb dX12_readData_210 (by decide) ?_
        refine lv_icmp_ne (tgt := 228) hx hb dX12_readData_212 (by decide) (fun c_212 => ?_) (fun c_212 => ?_)
        · have hf := if_f hf c_212
          refine lv_iload hx hb dX12_readData_228 (lv_at hl 5 rfl) ?_
          exact r_iret C hw hr hlocks hf dX12_readData_230
        · have hf := if_t hf c_212
          refine lv_aload_n hx hb dX12_readData_215 rfl (lv_at hl 1 rfl) ?_
          refine lv_aload_n hx hb dX12_readData_216 rfl (lv_at hl 0 rfl) ?_
          refine r_getI C hw (k := 31) dq_63 ln_63 rfl vc_12 inX12 (by decide) rfl gw6_212 dX12_readData_217 ?_
          refine lv_iconst (v := (4 : Int32)) hx hb dX12_readData_220 (by decide) ?_
          refine lv_isub hx hb dX12_readData_221 ?_
          obtain ⟨S_222, r_222, h_222, hf⟩ := bd_some hf
          refine r_bi hw (r_runS (rest := []) C hw (m_X12_four l D cA ad base fu a na ⟨ha.1, ha.2⟩ h_222) msX12_four gw8_137 ⟨rfl, rfl, Nat.le_of_ble_eq_true rfl, Nat.le_of_ble_eq_true rfl⟩ rfl hl.1 rfl (Nat.le_of_ble_eq_true rfl) dX12_readData_222 (Nat.zero_le _) (Nat.zero_le _)) (fun H locs hw => ?_)
          refine lv_goto (tgt := 230) hx hb dX12_readData_225 (by decide) ?_
          exact r_iret C hw hr hlocks hf dX12_readData_230
      · have hf := if_f hf c_200
        refine lv_aload_n hx hb dX12_readData_203 rfl (lv_at hl 0 rfl) ?_
        refine lv_iconst (v := (4 : Int32)) hx hb dX12_readData_204 (by decide) ?_
        obtain ⟨S_205, r_205, h_205, hf⟩ := bd_some hf
        refine r_bi hw (r_runV (rest := []) C hw (m_X12_wrong l D cA ad base fu h_205) mvX12_wrong gw8_121 ⟨rfl, rfl, Nat.le_of_ble_eq_true rfl, Nat.le_of_ble_eq_true rfl⟩ dq_63 ln_63 vc_12 rfl hl.1 rfl (Nat.le_of_ble_eq_true rfl) dX12_readData_205 (Nat.zero_le _) (Nat.zero_le _)) (fun H locs hw => ?_)
        exact r_iret C hw hr hlocks hf dX12_readData_208
    · have hf := if_f hf c_186
      refine lv_iconst (v := (-1 : Int32)) hx hb dX12_readData_189 (by decide) ?_
      exact r_iret C hw hr hlocks hf dX12_readData_190
  have J_142 : ∀ (x2 : Int32) (x3 : Int32) (x4 : Int32) (x5 : Int32) (S : St) (H : Heap) (locs : List Loc) (ls : Array Slot), fX12_readData_142 fu a na x2 x3 x4 x5 S = some (S', r) → lv_has ls 8 [(0, .ref (ad 63)), (1, .ref (ad a)), (2, .int x2), (3, .int x3), (4, .int x4), (5, .int x5)] → WS D cA ad base s S H locs → W p l e rmX12_readData s m args below meth c H locs 0 0 (MQ below (QI D cA ad base S' r) args s 0 0 (aB base)) (F0 m 142 ls []) := by
    intro x2 x3 x4 x5 S H locs ls hf hl hw
    refine lv_aload_n hx hb dX12_readData_142 rfl (lv_at hl 0 rfl) ?_
    refine lv_aload_n hx hb dX12_readData_143 rfl (lv_at hl 1 rfl) ?_
    refine lv_iload_n hx hb dX12_readData_144 rfl (lv_at hl 2 rfl) ?_
    obtain ⟨S_145, r_145, h_145, hf⟩ := bd_some hf
    refine r_bi hw (r_runV (rest := []) C hw (m_X12_readInner l D cA ad base fu a na ⟨ha.1, ha.2⟩ h_145) mvX12_readInner gw8_144 ⟨rfl, rfl, Nat.le_of_ble_eq_true rfl, Nat.le_of_ble_eq_true rfl⟩ dq_63 ln_63 vc_12 rfl hl.1 rfl (Nat.le_of_ble_eq_true rfl) dX12_readData_145 (Nat.zero_le _) (Nat.zero_le _)) (fun H locs hw => ?_)
    refine lv_istore (lv' := [(6, .int r_145), (0, .ref (ad 63)), (1, .ref (ad a)), (2, .int x2), (3, .int x3), (4, .int x4), (5, .int x5)]) hx hb dX12_readData_148 hl (by decide) rfl (fun ls hl => ?_)
    refine lv_aload_n hx hb dX12_readData_150 rfl (lv_at hl 1 rfl) ?_
    refine r_getI C hw (k := 30) dq_63 ln_63 rfl vc_12 inX12 (by decide) rfl gw6_211 dX12_readData_151 ?_
    refine lv_if_ne (tgt := 182) hx hb dX12_readData_154 (by decide) (fun c_154 => ?_) (fun c_154 => ?_)
    · have hf := if_f hf c_154
      exact J_182 _ _ _ _ _ _ _ _ hf (lv_sub hl [1, 2, 4, 5, 6, 0] rfl) hw
    · have hf := if_t hf c_154
      refine lv_iload_n hx hb dX12_readData_157 rfl (lv_at hl 4 rfl) ?_
      refine lv_bipush (v := (6 : Int32)) hx hb dX12_readData_158 (by decide) ?_
      refine lv_icmp_ne (tgt := 182) hx hb dX12_readData_160 (by decide) (fun c_160 => ?_) (fun c_160 => ?_)
      · have hf := if_f hf c_160
        exact J_182 _ _ _ _ _ _ _ _ hf (lv_sub hl [1, 2, 4, 5, 6, 0] rfl) hw
      · have hf := if_t hf c_160
        refine lv_aload_n hx hb dX12_readData_163 rfl (lv_at hl 1 rfl) ?_
        refine lv_aload_n hx hb dX12_readData_164 rfl (lv_at hl 2 rfl) ?_
        refine lv_iload_n hx hb dX12_readData_165 rfl (lv_at hl 3 rfl) ?_
        obtain ⟨S_166, r_166, h_166, hf⟩ := bd_some hf
        refine r_bi hw (r_runV (rest := []) C hw (m_X12_readInner l D cA ad base fu a na ⟨ha.1, ha.2⟩ h_166) mvX12_readInner gw8_144 ⟨rfl, rfl, Nat.le_of_ble_eq_true rfl, Nat.le_of_ble_eq_true rfl⟩ dq_63 ln_63 vc_12 rfl hl.1 rfl (Nat.le_of_ble_eq_true rfl) dX12_readData_166 (Nat.zero_le _) (Nat.zero_le _)) (fun H locs hw => ?_)
        refine lv_istore (lv' := [(7, .int r_166), (6, .int r_145), (0, .ref (ad 63)), (1, .ref (ad a)), (2, .int x2), (3, .int x3), (4, .int x4), (5, .int x5)]) hx hb dX12_readData_169 hl (by decide) rfl (fun ls hl => ?_)
        refine lv_aload_n hx hb dX12_readData_171 rfl (lv_at hl 2 rfl) ?_
        refine lv_dup hx hb dX12_readData_172 rfl ?_
        refine r_getI C hw (k := 31) dq_63 ln_63 rfl vc_12 inX12 (by decide) rfl gw6_212 dX12_readData_173 ?_
        refine lv_bipush (v := (20 : Int32)) hx hb dX12_readData_176 (by decide) ?_
        refine lv_iadd hx hb dX12_readData_178 ?_
        obtain ⟨S_179, e_179, hf⟩ := sI_some hf
        refine r_putI C hw (k := 31) (ty0 := tyX12) dq_63 ln_63 rfl vc_12 inX12 tyX12_ok nmX12 (by decide) rfl rfl gw6_212 rfl rfl dX12_readData_179 e_179 (fun H locs hw => ?_)
        exact J_182 _ _ _ _ _ _ _ _ hf (lv_sub hl [2, 3, 5, 6, 7, 1] rfl) hw
  have J_52 : ∀ (x2 : Int32) (x3 : Int32) (x4 : Int32) (x5 : Int32) (S : St) (H : Heap) (locs : List Loc) (ls : Array Slot), fX12_readData_52 fu a na x2 x3 x4 x5 S = some (S', r) → lv_has ls 8 [(0, .ref (ad 63)), (1, .ref (ad a)), (2, .int x2), (3, .int x3), (4, .int x4), (5, .int x5)] → WS D cA ad base s S H locs → W p l e rmX12_readData s m args below meth c H locs 0 0 (MQ below (QI D cA ad base S' r) args s 0 0 (aB base)) (F0 m 52 ls []) := by
    intro x2 x3 x4 x5 S H locs ls hf hl hw
    refine lv_iload_n hx hb dX12_readData_52 rfl (lv_at hl 3 rfl) ?_
    refine lv_iconst (v := (1 : Int32)) hx hb dX12_readData_53 (by decide) ?_
    refine lv_icmp_ne (tgt := 74) hx hb dX12_readData_54 (by decide) (fun c_54 => ?_) (fun c_54 => ?_)
    · have hf := if_f hf c_54
      refine lv_iload_n hx hb dX12_readData_74 rfl (lv_at hl 3 rfl) ?_
      refine lv_bipush (v := (16 : Int32)) hx hb dX12_readData_75 (by decide) ?_
      refine lv_icmp_ne (tgt := 113) hx hb dX12_readData_77 (by decide) (fun c_77 => ?_) (fun c_77 => ?_)
      · have hf := if_f hf c_77
        refine lv_iload_n hx hb dX12_readData_113 rfl (lv_at hl 3 rfl) ?_
        refine lv_iconst (v := (2 : Int32)) hx hb dX12_readData_114 (by decide) ?_
        refine lv_icmp_eq (tgt := 142) hx hb dX12_readData_115 (by decide) (fun c_115 => ?_) (fun c_115 => ?_)
        · have hf := if_t hf c_115
          exact J_142 _ _ _ _ _ _ _ _ hf (lv_sub hl [0, 1, 2, 3, 4, 5] rfl) hw
        · have hf := if_f hf c_115
          refine lv_iload_n hx hb dX12_readData_118 rfl (lv_at hl 3 rfl) ?_
          refine lv_iconst (v := (5 : Int32)) hx hb dX12_readData_119 (by decide) ?_
          refine lv_icmp_eq (tgt := 142) hx hb dX12_readData_120 (by decide) (fun c_120 => ?_) (fun c_120 => ?_)
          · have hf := if_t hf c_120
            exact J_142 _ _ _ _ _ _ _ _ hf (lv_sub hl [0, 1, 2, 3, 4, 5] rfl) hw
          · have hf := if_f hf c_120
            refine lv_iload_n hx hb dX12_readData_123 rfl (lv_at hl 3 rfl) ?_
            refine lv_bipush (v := (6 : Int32)) hx hb dX12_readData_124 (by decide) ?_
            refine lv_icmp_eq (tgt := 142) hx hb dX12_readData_126 (by decide) (fun c_126 => ?_) (fun c_126 => ?_)
            · have hf := if_t hf c_126
              exact J_142 _ _ _ _ _ _ _ _ hf (lv_sub hl [0, 1, 2, 3, 4, 5] rfl) hw
            · have hf := if_f hf c_126
              refine lv_aload_n hx hb dX12_readData_129 rfl (lv_at hl 0 rfl) ?_
              refine lv_dup hx hb dX12_readData_130 rfl ?_
              refine r_getI C hw (k := 31) dq_63 ln_63 rfl vc_12 inX12 (by decide) rfl gw6_212 dX12_readData_131 ?_
              refine lv_iload hx hb dX12_readData_134 (lv_at hl 4 rfl) ?_
              refine lv_iadd hx hb dX12_readData_136 ?_
              obtain ⟨S_137, e_137, hf⟩ := sI_some hf
              refine r_putI C hw (k := 31) (ty0 := tyX12) dq_63 ln_63 rfl vc_12 inX12 tyX12_ok nmX12 (by decide) rfl rfl gw6_212 rfl rfl dX12_readData_137 e_137 (fun H locs hw => ?_)
              refine lv_iconst (v := (0 : Int32)) hx hb dX12_readData_140 (by decide) ?_
              exact r_iret C hw hr hlocks hf dX12_readData_141
      · have hf := if_t hf c_77
        refine lv_aload_n hx hb dX12_readData_80 rfl (lv_at hl 1 rfl) ?_
        refine lv_iload hx hb dX12_readData_81 (lv_at hl 5 rfl) ?_
        obtain ⟨z_83, hf⟩ := gd_some hf
        refine r_bald C hw (x := a) ha.1 ha.2 z_83 dX12_readData_83 ?_
        refine lv_iconst (v := (4 : Int32)) hx hb dX12_readData_84 (by decide) ?_
        refine lv_icmp_eq (tgt := 94) hx hb dX12_readData_85 (by decide) (fun c_85 => ?_) (fun c_85 => ?_)
        · have hf := if_t hf c_85
          refine lv_aload_n hx hb dX12_readData_94 rfl (lv_at hl 0 rfl) ?_
          refine lv_dup hx hb dX12_readData_95 rfl ?_
          refine r_getI C hw (k := 31) dq_63 ln_63 rfl vc_12 inX12 (by decide) rfl gw6_212 dX12_readData_96 ?_
          refine lv_iconst (v := (5 : Int32)) hx hb dX12_readData_99 (by decide) ?_
          refine lv_iadd hx hb dX12_readData_100 ?_
          obtain ⟨S_101, e_101, hf⟩ := sI_some hf
          refine r_putI C hw (k := 31) (ty0 := tyX12) dq_63 ln_63 rfl vc_12 inX12 tyX12_ok nmX12 (by decide) rfl rfl gw6_212 rfl rfl dX12_readData_101 e_101 (fun H locs hw => ?_)
          refine lv_aload_n hx hb dX12_readData_104 rfl (lv_at hl 1 rfl) ?_
          refine lv_iload hx hb dX12_readData_105 (lv_at hl 5 rfl) ?_
          refine lv_iconst (v := (1 : Int32)) hx hb dX12_readData_107 (by decide) ?_
          refine lv_iadd hx hb dX12_readData_108 ?_
          obtain ⟨S_109, r_109, h_109, hf⟩ := bd_some hf
          refine r_bi hw (r_runS (rest := []) C hw (m_X12_four l D cA ad base fu a na ⟨ha.1, ha.2⟩ h_109) msX12_four gw8_137 ⟨rfl, rfl, Nat.le_of_ble_eq_true rfl, Nat.le_of_ble_eq_true rfl⟩ rfl hl.1 rfl (Nat.le_of_ble_eq_true rfl) dX12_readData_109 (Nat.zero_le _) (Nat.zero_le _)) (fun H locs hw => ?_)
          exact r_iret C hw hr hlocks hf dX12_readData_112
        · have hf := if_f hf c_85
          refine lv_aload_n hx hb dX12_readData_88 rfl (lv_at hl 0 rfl) ?_
          refine lv_iconst (v := (4 : Int32)) hx hb dX12_readData_89 (by decide) ?_
          obtain ⟨S_90, r_90, h_90, hf⟩ := bd_some hf
          refine r_bi hw (r_runV (rest := []) C hw (m_X12_wrong l D cA ad base fu h_90) mvX12_wrong gw8_121 ⟨rfl, rfl, Nat.le_of_ble_eq_true rfl, Nat.le_of_ble_eq_true rfl⟩ dq_63 ln_63 vc_12 rfl hl.1 rfl (Nat.le_of_ble_eq_true rfl) dX12_readData_90 (Nat.zero_le _) (Nat.zero_le _)) (fun H locs hw => ?_)
          exact r_iret C hw hr hlocks hf dX12_readData_93
    · have hf := if_t hf c_54
      refine lv_aload_n hx hb dX12_readData_57 rfl (lv_at hl 0 rfl) ?_
      refine lv_dup hx hb dX12_readData_58 rfl ?_
      refine r_getI C hw (k := 31) dq_63 ln_63 rfl vc_12 inX12 (by decide) rfl gw6_212 dX12_readData_59 ?_
      refine lv_iconst (v := (4 : Int32)) hx hb dX12_readData_62 (by decide) ?_
      refine lv_iadd hx hb dX12_readData_63 ?_
      obtain ⟨S_64, e_64, hf⟩ := sI_some hf
      refine r_putI C hw (k := 31) (ty0 := tyX12) dq_63 ln_63 rfl vc_12 inX12 tyX12_ok nmX12 (by decide) rfl rfl gw6_212 rfl rfl dX12_readData_64 e_64 (fun H locs hw => ?_)
      refine lv_aload_n hx hb dX12_readData_67 rfl (lv_at hl 1 rfl) ?_
      refine lv_iload hx hb dX12_readData_68 (lv_at hl 5 rfl) ?_
      obtain ⟨S_70, r_70, h_70, hf⟩ := bd_some hf
      refine r_bi hw (r_runS (rest := []) C hw (m_X12_four l D cA ad base fu a na ⟨ha.1, ha.2⟩ h_70) msX12_four gw8_137 ⟨rfl, rfl, Nat.le_of_ble_eq_true rfl, Nat.le_of_ble_eq_true rfl⟩ rfl hl.1 rfl (Nat.le_of_ble_eq_true rfl) dX12_readData_70 (Nat.zero_le _) (Nat.zero_le _)) (fun H locs hw => ?_)
      exact r_iret C hw hr hlocks hf dX12_readData_73
  have J_46 : ∀ (S : St) (H : Heap) (locs : List Loc) (ls : Array Slot), fX12_readData_46 fu a na S = some (S', r) → lv_has ls 8 [(0, .ref (ad 63))] → WS D cA ad base s S H locs → W p l e rmX12_readData s m args below meth c H locs 0 0 (MQ below (QI D cA ad base S' r) args s 0 0 (aB base)) (F0 m 46 ls []) := by
    intro  S H locs ls hf hl hw
    refine lv_aload_n hx hb dX12_readData_46 rfl (lv_at hl 0 rfl) ?_
    refine lv_iconst (v := (4 : Int32)) hx hb dX12_readData_47 (by decide) ?_
    obtain ⟨S_48, r_48, h_48, hf⟩ := bd_some hf
    refine r_bi hw (r_runV (rest := []) C hw (m_X12_wrong l D cA ad base fu h_48) mvX12_wrong gw8_121 ⟨rfl, rfl, Nat.le_of_ble_eq_true rfl, Nat.le_of_ble_eq_true rfl⟩ dq_63 ln_63 vc_12 rfl hl.1 rfl (Nat.le_of_ble_eq_true rfl) dX12_readData_48 (Nat.zero_le _) (Nat.zero_le _)) (fun H locs hw => ?_)
    exact r_iret C hw hr hlocks hf dX12_readData_51
  have J_34 : ∀ (x2 : Int32) (x3 : Int32) (x4 : Int32) (x5 : Int32) (S : St) (H : Heap) (locs : List Loc) (ls : Array Slot), fX12_readData_34 fu a na x2 x3 x4 x5 S = some (S', r) → lv_has ls 8 [(0, .ref (ad 63)), (1, .ref (ad a)), (2, .int x2), (3, .int x3), (4, .int x4), (5, .int x5)] → WS D cA ad base s S H locs → W p l e rmX12_readData s m args below meth c H locs 0 0 (MQ below (QI D cA ad base S' r) args s 0 0 (aB base)) (F0 m 34 ls []) := by
    intro x2 x3 x4 x5 S H locs ls hf hl hw
    refine lv_iload_n hx hb dX12_readData_34 rfl (lv_at hl 3 rfl) ?_
    refine lv_bipush (v := (16 : Int32)) hx hb dX12_readData_35 (by decide) ?_
    refine lv_icmp_ne (tgt := 52) hx hb dX12_readData_37 (by decide) (fun c_37 => ?_) (fun c_37 => ?_)
    · have hf := if_f hf c_37
      exact J_52 _ _ _ _ _ _ _ _ hf (lv_sub hl [0, 1, 2, 3, 4, 5] rfl) hw
    · have hf := if_t hf c_37
      refine lv_iload hx hb dX12_readData_40 (lv_at hl 4 rfl) ?_
      refine lv_iconst (v := (5 : Int32)) hx hb dX12_readData_42 (by decide) ?_
      refine lv_icmp_eq (tgt := 52) hx hb dX12_readData_43 (by decide) (fun c_43 => ?_) (fun c_43 => ?_)
      · have hf := if_t hf c_43
        exact J_52 _ _ _ _ _ _ _ _ hf (lv_sub hl [0, 1, 2, 3, 4, 5] rfl) hw
      · have hf := if_f hf c_43
        exact J_46 _ _ _ _ hf (lv_sub hl [0] rfl) hw
  show W p l e rmX12_readData s m args below meth c s.heap [] 0 0 _ _
  refine lv_aload_n hx hb dX12_readData_0 rfl (lv_at hl 0 rfl) ?_
  refine r_getI C hw (k := 31) dq_63 ln_63 rfl vc_12 inX12 (by decide) rfl gw6_212 dX12_readData_1 ?_
  refine lv_istore (lv' := [(5, .int (S.1 63 31)), (0, .ref (ad 63)), (1, .ref (ad a)), (2, .int x2), (3, .int x3), (4, .int x4)]) hx hb dX12_readData_4 hl (by decide) rfl (fun ls hl => ?_)
  refine lv_aload_n hx hb dX12_readData_6 rfl (lv_at hl 1 rfl) ?_
  refine r_getI C hw (k := 31) dq_63 ln_63 rfl vc_12 inX12 (by decide) rfl gw6_212 dX12_readData_7 ?_
  refine lv_iload hx hb dX12_readData_10 (lv_at hl 5 rfl) ?_
  refine lv_iadd hx hb dX12_readData_12 ?_
  refine lv_iload_n hx hb dX12_readData_13 rfl (lv_at hl 3 rfl) ?_
  refine lv_icmp_le (tgt := 23) hx hb dX12_readData_14 (by decide) (fun c_14 => ?_) (fun c_14 => ?_)
  · have hf := if_t hf c_14
    refine lv_iload_n hx hb dX12_readData_23 rfl (lv_at hl 4 rfl) ?_
    refine lv_iconst (v := (1 : Int32)) hx hb dX12_readData_24 (by decide) ?_
    refine lv_icmp_ne (tgt := 34) hx hb dX12_readData_25 (by decide) (fun c_25 => ?_) (fun c_25 => ?_)
    · have hf := if_f hf c_25
      exact J_34 _ _ _ _ _ _ _ _ hf (lv_sub hl [1, 2, 3, 4, 5, 0] rfl) hw
    · have hf := if_t hf c_25
      refine lv_iload hx hb dX12_readData_28 (lv_at hl 5 rfl) ?_
      refine lv_iconst (v := (4 : Int32)) hx hb dX12_readData_30 (by decide) ?_
      refine lv_icmp_ne (tgt := 46) hx hb dX12_readData_31 (by decide) (fun c_31 => ?_) (fun c_31 => ?_)
      · have hf := if_f hf c_31
        exact J_46 _ _ _ _ hf (lv_sub hl [1] rfl) hw
      · have hf := if_t hf c_31
        exact J_34 _ _ _ _ _ _ _ _ hf (lv_sub hl [1, 2, 3, 4, 5, 0] rfl) hw
  · have hf := if_f hf c_14
    refine lv_aload_n hx hb dX12_readData_17 rfl (lv_at hl 1 rfl) ?_
    refine lv_iconst (v := (3 : Int32)) hx hb dX12_readData_18 (by decide) ?_
    obtain ⟨S_19, r_19, h_19, hf⟩ := bd_some hf
    refine r_bi hw (r_runV (rest := []) C hw (m_X12_wrong l D cA ad base fu h_19) mvX12_wrong gw8_121 ⟨rfl, rfl, Nat.le_of_ble_eq_true rfl, Nat.le_of_ble_eq_true rfl⟩ dq_63 ln_63 vc_12 rfl hl.1 rfl (Nat.le_of_ble_eq_true rfl) dX12_readData_19 (Nat.zero_le _) (Nat.zero_le _)) (fun H locs hw => ?_)
    exact r_iret C hw hr hlocks hf dX12_readData_22
noncomputable def fX12_readRecord_132 (fu : Nat) (a na : Nat) (x3 : Int32) (x4 : Int32) (x5 : Int32) (x7 : Int32) (x9 : Int32) (S : St) : Option (St × Int32) :=
  gd (ck (S.1 63 42) 100) <|
  sI 85 ((S.1 63 42)).toNatClampNeg x3 S fun S_141 =>
  gd (ck (S_141.1 63 42) 100) <|
  sI 86 ((S_141.1 63 42)).toNatClampNeg x4 S_141 fun S_152 =>
  gd (ck (S_152.1 63 42) 100) <|
  sI 87 ((S_152.1 63 42)).toNatClampNeg x5 S_152 fun S_163 =>
  gd (ck (S_163.1 63 42) 100) <|
  sI 88 ((S_163.1 63 42)).toNatClampNeg x9 S_163 fun S_174 =>
  gd (ck (S_174.1 63 42) 100) <|
  sI 89 ((S_174.1 63 42)).toNatClampNeg x7 S_174 fun S_185 =>
  sI 63 42 ((S_185.1 63 42) + (1 : Int32)) S_185 fun S_193 =>
  some (S_193, (0 : Int32))
noncomputable def fX12_readRecord (fu : Nat) (a na : Nat) (x2 : Int32) (x3 : Int32) (S : St) : Option (St × Int32) :=
  bd (fX12_readName fu a na x2 S) fun S_3 r_3 =>
  if (S_3.1 63 30) ≤ 0 then
    if ((S_3.1 63 31) + (10 : Int32)) ≤ x2 then
      bd (fX12_two fu a na (S_3.1 63 31) S_3) fun S_38 r_38 =>
      bd (fX12_two fu a na ((S_38.1 63 31) + (2 : Int32)) S_38) fun S_50 r_50 =>
      bd (fX12_four fu a na ((S_50.1 63 31) + (4 : Int32)) S_50) fun S_62 r_62 =>
      bd (fX12_two fu a na ((S_62.1 63 31) + (8 : Int32)) S_62) fun S_75 r_75 =>
      sI 63 31 ((S_75.1 63 31) + (10 : Int32)) S_75 fun S_88 =>
      bd (fX12_readData fu a na x2 r_38 r_75 S_88) fun S_98 r_98 =>
      if 0 < (S_98.1 63 30) then
        some (S_98, (0 : Int32))
      else
        if r_50 = (1 : Int32) then
          bd (fX12_isType fu r_38 S_98) fun S_118 r_118 =>
          if r_118 = 0 then
            if r_38 = (6 : Int32) then
              fX12_readRecord_132 fu a na x3 r_3 r_38 r_62 r_98 S_118
            else
              some (S_118, (0 : Int32))
          else
            fX12_readRecord_132 fu a na x3 r_3 r_38 r_62 r_98 S_118
        else
          some (S_98, (0 : Int32))
    else
      sI 63 30 (3 : Int32) S_3 fun S_29 =>
      some (S_29, (0 : Int32))
  else
    some (S_3, (0 : Int32))
theorem mvX12_readRecord : MV yX12_readRecord cX12_readRecord 10 none RX12 3 := ⟨gw8_136, gw8_135, gs_75, gw1_13, by decide +kernel⟩
def rmX12_readRecord : Room := { frames := 5, cells := 0, slots := 0, locals := 124 }
set_option maxHeartbeats 4000000 in
set_option maxRecDepth 100000 in
theorem m_X12_readRecord (l : Launch) (D : va_G) (cA : FieldType → ClassId) (ad : Nat → Nat) (base : Nat) (fu : Nat) (a na : Nat) (ha : isBA a na) {S S' : St} {x2 : Int32} {x3 : Int32} {r : Int32} (hf : fX12_readRecord fu a na x2 x3 S = some (S', r)) : Met l yX12_readRecord (GC yX12_readRecord cX12_readRecord 10 none) rmX12_readRecord (va_Pc [.ref (ad 63), .ref (ad a), .int x2, .int x3] (wd D cA ad base S)) (QV D cA ad base S') 0 0 (aB base) := by
  refine Met.ofW (cc := cX12_readRecord) (maxL := 10) (ret := none) (by decide) rfl ?_
  intro p e s m args below meth c s₁ B hml hv
  obtain ⟨hargs, hwd⟩ := hv
  have hr := B.returns
  have hlocks := B.notSynchronized
  obtain ⟨C, hw⟩ := CX.of (own := RX12) rfl B hml hwd
  have hx := C.1
  have hb := C.2.1
  have hl := lv_entry ([.ref (ad 63), .ref (ad a), .int x2, .int x3]) (n := 10) (Nat.le_of_ble_eq_true rfl)
  rw [show entryFrame m args 10 = entryFrame m ([.ref (ad 63), .ref (ad a), .int x2, .int x3] : List Value).toArray 10 from by rw [hargs], lg_entry_eq]
  generalize (lg_sl ([.ref (ad 63), .ref (ad a), .int x2, .int x3]) ++ List.replicate (10 - (lg_sl ([.ref (ad 63), .ref (ad a), .int x2, .int x3])).length) Slot.unset).toArray = ls at hl ⊢
  have hl : lv_has ls 10 [(0, .ref (ad 63)), (1, .ref (ad a)), (2, .int x2), (3, .int x3)] := hl
  have J_132 : ∀ (x3 : Int32) (x4 : Int32) (x5 : Int32) (x7 : Int32) (x9 : Int32) (S : St) (H : Heap) (locs : List Loc) (ls : Array Slot), fX12_readRecord_132 fu a na x3 x4 x5 x7 x9 S = some (S', r) → lv_has ls 10 [(0, .ref (ad 63)), (3, .int x3), (4, .int x4), (5, .int x5), (7, .int x7), (9, .int x9)] → WS D cA ad base s S H locs → W p l e rmX12_readRecord s m args below meth c H locs 0 0 (MQ below (QV D cA ad base S') args s 0 0 (aB base)) (F0 m 132 ls []) := by
    intro x3 x4 x5 x7 x9 S H locs ls hf hl hw
    refine lv_aload_n hx hb dX12_readRecord_132 rfl (lv_at hl 0 rfl) ?_
    refine r_getR C hw (k := 37) (r := 85) dq_63 ln_63 rfl vc_12 inX12 (by decide) rfl gw6_218 dX12_readRecord_133 ?_
    refine lv_aload_n hx hb dX12_readRecord_136 rfl (lv_at hl 0 rfl) ?_
    refine r_getI C hw (k := 42) dq_63 ln_63 rfl vc_12 inX12 (by decide) rfl gw6_223 dX12_readRecord_137 ?_
    refine lv_iload_n hx hb dX12_readRecord_140 rfl (lv_at hl 1 rfl) ?_
    obtain ⟨z_141, hf⟩ := gd_some hf
    obtain ⟨S_141, e_141, hf⟩ := sI_some hf
    refine r_iast C hw (x := 85) dq_85 ln_85 z_141 dX12_readRecord_141 e_141 (fun H locs hw => ?_)
    refine lv_aload_n hx hb dX12_readRecord_142 rfl (lv_at hl 0 rfl) ?_
    refine r_getR C hw (k := 38) (r := 86) dq_63 ln_63 rfl vc_12 inX12 (by decide) rfl gw6_219 dX12_readRecord_143 ?_
    refine lv_aload_n hx hb dX12_readRecord_146 rfl (lv_at hl 0 rfl) ?_
    refine r_getI C hw (k := 42) dq_63 ln_63 rfl vc_12 inX12 (by decide) rfl gw6_223 dX12_readRecord_147 ?_
    refine lv_iload hx hb dX12_readRecord_150 (lv_at hl 2 rfl) ?_
    obtain ⟨z_152, hf⟩ := gd_some hf
    obtain ⟨S_152, e_152, hf⟩ := sI_some hf
    refine r_iast C hw (x := 86) dq_86 ln_86 z_152 dX12_readRecord_152 e_152 (fun H locs hw => ?_)
    refine lv_aload_n hx hb dX12_readRecord_153 rfl (lv_at hl 0 rfl) ?_
    refine r_getR C hw (k := 39) (r := 87) dq_63 ln_63 rfl vc_12 inX12 (by decide) rfl gw6_220 dX12_readRecord_154 ?_
    refine lv_aload_n hx hb dX12_readRecord_157 rfl (lv_at hl 0 rfl) ?_
    refine r_getI C hw (k := 42) dq_63 ln_63 rfl vc_12 inX12 (by decide) rfl gw6_223 dX12_readRecord_158 ?_
    refine lv_iload hx hb dX12_readRecord_161 (lv_at hl 3 rfl) ?_
    obtain ⟨z_163, hf⟩ := gd_some hf
    obtain ⟨S_163, e_163, hf⟩ := sI_some hf
    refine r_iast C hw (x := 87) dq_87 ln_87 z_163 dX12_readRecord_163 e_163 (fun H locs hw => ?_)
    refine lv_aload_n hx hb dX12_readRecord_164 rfl (lv_at hl 0 rfl) ?_
    refine r_getR C hw (k := 40) (r := 88) dq_63 ln_63 rfl vc_12 inX12 (by decide) rfl gw6_221 dX12_readRecord_165 ?_
    refine lv_aload_n hx hb dX12_readRecord_168 rfl (lv_at hl 0 rfl) ?_
    refine r_getI C hw (k := 42) dq_63 ln_63 rfl vc_12 inX12 (by decide) rfl gw6_223 dX12_readRecord_169 ?_
    refine lv_iload hx hb dX12_readRecord_172 (lv_at hl 5 rfl) ?_
    obtain ⟨z_174, hf⟩ := gd_some hf
    obtain ⟨S_174, e_174, hf⟩ := sI_some hf
    refine r_iast C hw (x := 88) dq_88 ln_88 z_174 dX12_readRecord_174 e_174 (fun H locs hw => ?_)
    refine lv_aload_n hx hb dX12_readRecord_175 rfl (lv_at hl 0 rfl) ?_
    refine r_getR C hw (k := 41) (r := 89) dq_63 ln_63 rfl vc_12 inX12 (by decide) rfl gw6_222 dX12_readRecord_176 ?_
    refine lv_aload_n hx hb dX12_readRecord_179 rfl (lv_at hl 0 rfl) ?_
    refine r_getI C hw (k := 42) dq_63 ln_63 rfl vc_12 inX12 (by decide) rfl gw6_223 dX12_readRecord_180 ?_
    refine lv_iload hx hb dX12_readRecord_183 (lv_at hl 4 rfl) ?_
    obtain ⟨z_185, hf⟩ := gd_some hf
    obtain ⟨S_185, e_185, hf⟩ := sI_some hf
    refine r_iast C hw (x := 89) dq_89 ln_89 z_185 dX12_readRecord_185 e_185 (fun H locs hw => ?_)
    refine lv_aload_n hx hb dX12_readRecord_186 rfl (lv_at hl 0 rfl) ?_
    refine lv_dup hx hb dX12_readRecord_187 rfl ?_
    refine r_getI C hw (k := 42) dq_63 ln_63 rfl vc_12 inX12 (by decide) rfl gw6_223 dX12_readRecord_188 ?_
    refine lv_iconst (v := (1 : Int32)) hx hb dX12_readRecord_191 (by decide) ?_
    refine lv_iadd hx hb dX12_readRecord_192 ?_
    obtain ⟨S_193, e_193, hf⟩ := sI_some hf
    refine r_putI C hw (k := 42) (ty0 := tyX12) dq_63 ln_63 rfl vc_12 inX12 tyX12_ok nmX12 (by decide) rfl rfl gw6_223 rfl rfl dX12_readRecord_193 e_193 (fun H locs hw => ?_)
    exact r_vret C hw hr hlocks hf dX12_readRecord_196
  show W p l e rmX12_readRecord s m args below meth c s.heap [] 0 0 _ _
  refine lv_aload_n hx hb dX12_readRecord_0 rfl (lv_at hl 0 rfl) ?_
  refine lv_aload_n hx hb dX12_readRecord_1 rfl (lv_at hl 1 rfl) ?_
  refine lv_iload_n hx hb dX12_readRecord_2 rfl (lv_at hl 2 rfl) ?_
  obtain ⟨S_3, r_3, h_3, hf⟩ := bd_some hf
  refine r_bi hw (r_runV (rest := []) C hw (m_X12_readName l D cA ad base fu a na ⟨ha.1, ha.2⟩ h_3) mvX12_readName gw8_125 ⟨rfl, rfl, Nat.le_of_ble_eq_true rfl, Nat.le_of_ble_eq_true rfl⟩ dq_63 ln_63 vc_12 rfl hl.1 rfl (Nat.le_of_ble_eq_true rfl) dX12_readRecord_3 (Nat.zero_le _) (Nat.zero_le _)) (fun H locs hw => ?_)
  refine lv_istore (lv' := [(4, .int r_3), (0, .ref (ad 63)), (1, .ref (ad a)), (2, .int x2), (3, .int x3)]) hx hb dX12_readRecord_6 hl (by decide) rfl (fun ls hl => ?_)
  refine lv_aload_n hx hb dX12_readRecord_8 rfl (lv_at hl 1 rfl) ?_
  refine r_getI C hw (k := 30) dq_63 ln_63 rfl vc_12 inX12 (by decide) rfl gw6_211 dX12_readRecord_9 ?_
  refine lv_if_le (tgt := 16) hx hb dX12_readRecord_12 (by decide) (fun c_12 => ?_) (fun c_12 => ?_)
  · have hf := if_t hf c_12
    refine lv_aload_n hx hb dX12_readRecord_16 rfl (lv_at hl 1 rfl) ?_
    refine r_getI C hw (k := 31) dq_63 ln_63 rfl vc_12 inX12 (by decide) rfl gw6_212 dX12_readRecord_17 ?_
    refine lv_bipush (v := (10 : Int32)) hx hb dX12_readRecord_20 (by decide) ?_
    refine lv_iadd hx hb dX12_readRecord_22 ?_
    refine lv_iload_n hx hb dX12_readRecord_23 rfl (lv_at hl 3 rfl) ?_
    refine lv_icmp_le (tgt := 33) hx hb dX12_readRecord_24 (by decide) (fun c_24 => ?_) (fun c_24 => ?_)
    · have hf := if_t hf c_24
      refine lv_aload_n hx hb dX12_readRecord_33 rfl (lv_at hl 2 rfl) ?_
      refine lv_aload_n hx hb dX12_readRecord_34 rfl (lv_at hl 1 rfl) ?_
      refine r_getI C hw (k := 31) dq_63 ln_63 rfl vc_12 inX12 (by decide) rfl gw6_212 dX12_readRecord_35 ?_
      obtain ⟨S_38, r_38, h_38, hf⟩ := bd_some hf
      refine r_bi hw (r_runS (rest := []) C hw (m_X12_two l D cA ad base fu a na ⟨ha.1, ha.2⟩ h_38) msX12_two gw8_118 ⟨rfl, rfl, Nat.le_of_ble_eq_true rfl, Nat.le_of_ble_eq_true rfl⟩ rfl hl.1 rfl (Nat.le_of_ble_eq_true rfl) dX12_readRecord_38 (Nat.zero_le _) (Nat.zero_le _)) (fun H locs hw => ?_)
      refine lv_istore (lv' := [(5, .int r_38), (4, .int r_3), (0, .ref (ad 63)), (1, .ref (ad a)), (2, .int x2), (3, .int x3)]) hx hb dX12_readRecord_41 hl (by decide) rfl (fun ls hl => ?_)
      refine lv_aload_n hx hb dX12_readRecord_43 rfl (lv_at hl 3 rfl) ?_
      refine lv_aload_n hx hb dX12_readRecord_44 rfl (lv_at hl 2 rfl) ?_
      refine r_getI C hw (k := 31) dq_63 ln_63 rfl vc_12 inX12 (by decide) rfl gw6_212 dX12_readRecord_45 ?_
      refine lv_iconst (v := (2 : Int32)) hx hb dX12_readRecord_48 (by decide) ?_
      refine lv_iadd hx hb dX12_readRecord_49 ?_
      obtain ⟨S_50, r_50, h_50, hf⟩ := bd_some hf
      refine r_bi hw (r_runS (rest := []) C hw (m_X12_two l D cA ad base fu a na ⟨ha.1, ha.2⟩ h_50) msX12_two gw8_118 ⟨rfl, rfl, Nat.le_of_ble_eq_true rfl, Nat.le_of_ble_eq_true rfl⟩ rfl hl.1 rfl (Nat.le_of_ble_eq_true rfl) dX12_readRecord_50 (Nat.zero_le _) (Nat.zero_le _)) (fun H locs hw => ?_)
      refine lv_istore (lv' := [(6, .int r_50), (5, .int r_38), (4, .int r_3), (0, .ref (ad 63)), (1, .ref (ad a)), (2, .int x2), (3, .int x3)]) hx hb dX12_readRecord_53 hl (by decide) rfl (fun ls hl => ?_)
      refine lv_aload_n hx hb dX12_readRecord_55 rfl (lv_at hl 4 rfl) ?_
      refine lv_aload_n hx hb dX12_readRecord_56 rfl (lv_at hl 3 rfl) ?_
      refine r_getI C hw (k := 31) dq_63 ln_63 rfl vc_12 inX12 (by decide) rfl gw6_212 dX12_readRecord_57 ?_
      refine lv_iconst (v := (4 : Int32)) hx hb dX12_readRecord_60 (by decide) ?_
      refine lv_iadd hx hb dX12_readRecord_61 ?_
      obtain ⟨S_62, r_62, h_62, hf⟩ := bd_some hf
      refine r_bi hw (r_runS (rest := []) C hw (m_X12_four l D cA ad base fu a na ⟨ha.1, ha.2⟩ h_62) msX12_four gw8_137 ⟨rfl, rfl, Nat.le_of_ble_eq_true rfl, Nat.le_of_ble_eq_true rfl⟩ rfl hl.1 rfl (Nat.le_of_ble_eq_true rfl) dX12_readRecord_62 (Nat.zero_le _) (Nat.zero_le _)) (fun H locs hw => ?_)
      refine lv_istore (lv' := [(7, .int r_62), (6, .int r_50), (5, .int r_38), (4, .int r_3), (0, .ref (ad 63)), (1, .ref (ad a)), (2, .int x2), (3, .int x3)]) hx hb dX12_readRecord_65 hl (by decide) rfl (fun ls hl => ?_)
      refine lv_aload_n hx hb dX12_readRecord_67 rfl (lv_at hl 5 rfl) ?_
      refine lv_aload_n hx hb dX12_readRecord_68 rfl (lv_at hl 4 rfl) ?_
      refine r_getI C hw (k := 31) dq_63 ln_63 rfl vc_12 inX12 (by decide) rfl gw6_212 dX12_readRecord_69 ?_
      refine lv_bipush (v := (8 : Int32)) hx hb dX12_readRecord_72 (by decide) ?_
      refine lv_iadd hx hb dX12_readRecord_74 ?_
      obtain ⟨S_75, r_75, h_75, hf⟩ := bd_some hf
      refine r_bi hw (r_runS (rest := []) C hw (m_X12_two l D cA ad base fu a na ⟨ha.1, ha.2⟩ h_75) msX12_two gw8_118 ⟨rfl, rfl, Nat.le_of_ble_eq_true rfl, Nat.le_of_ble_eq_true rfl⟩ rfl hl.1 rfl (Nat.le_of_ble_eq_true rfl) dX12_readRecord_75 (Nat.zero_le _) (Nat.zero_le _)) (fun H locs hw => ?_)
      refine lv_istore (lv' := [(8, .int r_75), (7, .int r_62), (6, .int r_50), (5, .int r_38), (4, .int r_3), (0, .ref (ad 63)), (1, .ref (ad a)), (2, .int x2), (3, .int x3)]) hx hb dX12_readRecord_78 hl (by decide) rfl (fun ls hl => ?_)
      refine lv_aload_n hx hb dX12_readRecord_80 rfl (lv_at hl 5 rfl) ?_
      refine lv_dup hx hb dX12_readRecord_81 rfl ?_
      refine r_getI C hw (k := 31) dq_63 ln_63 rfl vc_12 inX12 (by decide) rfl gw6_212 dX12_readRecord_82 ?_
      refine lv_bipush (v := (10 : Int32)) hx hb dX12_readRecord_85 (by decide) ?_
      refine lv_iadd hx hb dX12_readRecord_87 ?_
      obtain ⟨S_88, e_88, hf⟩ := sI_some hf
      refine r_putI C hw (k := 31) (ty0 := tyX12) dq_63 ln_63 rfl vc_12 inX12 tyX12_ok nmX12 (by decide) rfl rfl gw6_212 rfl rfl dX12_readRecord_88 e_88 (fun H locs hw => ?_)
      refine lv_aload_n hx hb dX12_readRecord_91 rfl (lv_at hl 5 rfl) ?_
      refine lv_aload_n hx hb dX12_readRecord_92 rfl (lv_at hl 6 rfl) ?_
      refine lv_iload_n hx hb dX12_readRecord_93 rfl (lv_at hl 7 rfl) ?_
      refine lv_iload hx hb dX12_readRecord_94 (lv_at hl 3 rfl) ?_
      refine lv_iload hx hb dX12_readRecord_96 (lv_at hl 0 rfl) ?_
      obtain ⟨S_98, r_98, h_98, hf⟩ := bd_some hf
      refine r_bi hw (r_runV (rest := []) C hw (m_X12_readData l D cA ad base fu a na ⟨ha.1, ha.2⟩ h_98) mvX12_readData gw8_140 ⟨rfl, rfl, Nat.le_of_ble_eq_true rfl, Nat.le_of_ble_eq_true rfl⟩ dq_63 ln_63 vc_12 rfl hl.1 rfl (Nat.le_of_ble_eq_true rfl) dX12_readRecord_98 (Nat.zero_le _) (Nat.zero_le _)) (fun H locs hw => ?_)
      refine lv_istore (lv' := [(9, .int r_98), (8, .int r_75), (7, .int r_62), (6, .int r_50), (5, .int r_38), (4, .int r_3), (0, .ref (ad 63)), (1, .ref (ad a)), (2, .int x2), (3, .int x3)]) hx hb dX12_readRecord_101 hl (by decide) rfl (fun ls hl => ?_)
      refine lv_aload_n hx hb dX12_readRecord_103 rfl (lv_at hl 6 rfl) ?_
      refine r_getI C hw (k := 30) dq_63 ln_63 rfl vc_12 inX12 (by decide) rfl gw6_211 dX12_readRecord_104 ?_
      refine lv_if_gt (tgt := 131) hx hb dX12_readRecord_107 (by decide) (fun c_107 => ?_) (fun c_107 => ?_)
      · have hf := if_t hf c_107
        exact r_vret C hw hr hlocks hf dX12_readRecord_131
      · have hf := if_f hf c_107
        refine lv_iload hx hb dX12_readRecord_110 (lv_at hl 3 rfl) ?_
        refine lv_iconst (v := (1 : Int32)) hx hb dX12_readRecord_112 (by decide) ?_
        refine lv_icmp_ne (tgt := 131) hx hb dX12_readRecord_113 (by decide) (fun c_113 => ?_) (fun c_113 => ?_)
        · have hf := if_f hf c_113
          exact r_vret C hw hr hlocks hf dX12_readRecord_131
        · have hf := if_t hf c_113
          refine lv_iload hx hb dX12_readRecord_116 (lv_at hl 4 rfl) ?_
          obtain ⟨S_118, r_118, h_118, hf⟩ := bd_some hf
          refine r_bi hw (r_runS (rest := []) C hw (m_X12_isType l D cA ad base fu h_118) msX12_isType gw8_9 ⟨rfl, rfl, Nat.le_of_ble_eq_true rfl, Nat.le_of_ble_eq_true rfl⟩ rfl hl.1 rfl (Nat.le_of_ble_eq_true rfl) dX12_readRecord_118 (Nat.zero_le _) (Nat.zero_le _)) (fun H locs hw => ?_)
          refine lv_if_ne (tgt := 132) hx hb dX12_readRecord_121 (by decide) (fun c_121 => ?_) (fun c_121 => ?_)
          · have hf := if_f hf c_121
            exact J_132 _ _ _ _ _ _ _ _ _ hf (lv_sub hl [6, 9, 5, 4, 2, 0] rfl) hw
          · have hf := if_t hf c_121
            refine lv_iload hx hb dX12_readRecord_124 (lv_at hl 4 rfl) ?_
            refine lv_bipush (v := (6 : Int32)) hx hb dX12_readRecord_126 (by decide) ?_
            refine lv_icmp_eq (tgt := 132) hx hb dX12_readRecord_128 (by decide) (fun c_128 => ?_) (fun c_128 => ?_)
            · have hf := if_t hf c_128
              exact J_132 _ _ _ _ _ _ _ _ _ hf (lv_sub hl [6, 9, 5, 4, 2, 0] rfl) hw
            · have hf := if_f hf c_128
              exact r_vret C hw hr hlocks hf dX12_readRecord_131
    · have hf := if_f hf c_24
      refine lv_aload_n hx hb dX12_readRecord_27 rfl (lv_at hl 1 rfl) ?_
      refine lv_iconst (v := (3 : Int32)) hx hb dX12_readRecord_28 (by decide) ?_
      obtain ⟨S_29, e_29, hf⟩ := sI_some hf
      refine r_putI C hw (k := 30) (ty0 := tyX12) dq_63 ln_63 rfl vc_12 inX12 tyX12_ok nmX12 (by decide) rfl rfl gw6_211 rfl rfl dX12_readRecord_29 e_29 (fun H locs hw => ?_)
      exact r_vret C hw hr hlocks hf dX12_readRecord_32
  · have hf := if_f hf c_12
    exact r_vret C hw hr hlocks hf dX12_readRecord_15
noncomputable def fX12_reads_25 (fu : Nat) (a na : Nat) (S : St) : Option (St × Int32) :=
  bd (fX12_wrong fu (1 : Int32) S) fun S_27 r_27 =>
  if r_27 ≤ 0 then
    some (S_27, (0 : Int32))
  else
    some (S_27, (1 : Int32))
noncomputable def fX12_reads_212 (fu : Nat) (a na : Nat) (S : St) : Option (St × Int32) :=
  if (S.1 63 30) = 0 then
    some (S, (1 : Int32))
  else
    some (S, (0 : Int32))
noncomputable def fX12_reads_186 (fu : Nat) (a na : Nat) (k_144 : Int32 → Int32 → St → Option (St × Int32)) (x2 : Int32) (x3 : Int32) (S : St) : Option (St × Int32) :=
  k_144 x2 (x3 + (1 : Int32)) S
noncomputable def fX12_reads_161 (fu : Nat) (a na : Nat) (k_144 : Int32 → Int32 → St → Option (St × Int32)) (n : Nat) : Int32 → Int32 → Int32 → St → Option (St × Int32) :=
  Nat.rec (motive := fun _ => Int32 → Int32 → Int32 → St → Option (St × Int32)) (fun _ _ _ _ => none) (fun _ k_161 x2 x3 x4 S =>
    if x4 ≤ 0 then
      fX12_reads_186 fu a na k_144 x2 x3 S
    else
      if (S.1 63 30) = 0 then
        bd (fX12_readRecord fu a na x2 x3 S) fun S_177 _ =>
        k_161 x2 x3 (x4 + (-1 : Int32)) S_177
      else
        fX12_reads_186 fu a na k_144 x2 x3 S) n
theorem fX12_reads_161_s (fu : Nat) (a na : Nat) (k_144 : Int32 → Int32 → St → Option (St × Int32)) (n : Nat) (x2 : Int32) (x3 : Int32) (x4 : Int32) (S : St) : fX12_reads_161 fu a na k_144 (n + 1) x2 x3 x4 S = (
    if x4 ≤ 0 then
      fX12_reads_186 fu a na k_144 x2 x3 S
    else
      if (S.1 63 30) = 0 then
        bd (fX12_readRecord fu a na x2 x3 S) fun S_177 _ =>
        (fX12_reads_161 fu a na k_144 n) x2 x3 (x4 + (-1 : Int32)) S_177
      else
        fX12_reads_186 fu a na k_144 x2 x3 S) := rfl
noncomputable def fX12_reads_144 (fu : Nat) (a na : Nat) (n : Nat) : Int32 → Int32 → St → Option (St × Int32) :=
  Nat.rec (motive := fun _ => Int32 → Int32 → St → Option (St × Int32)) (fun _ _ _ => none) (fun _ k_144 x2 x3 S =>
    if (3 : Int32) ≤ x3 then
      if (S.1 63 30) = 0 then
        if x2 ≤ (S.1 63 31) then
          fX12_reads_212 fu a na S
        else
          sI 63 30 (5 : Int32) S fun S_209 =>
          fX12_reads_212 fu a na S_209
      else
        fX12_reads_212 fu a na S
    else
      bd (fX12_two fu a na ((6 : Int32) + ((2 : Int32) * x3)) S) fun S_156 r_156 =>
      fX12_reads_161 fu a na k_144 fu x2 x3 r_156 S_156) n
theorem fX12_reads_144_s (fu : Nat) (a na : Nat) (n : Nat) (x2 : Int32) (x3 : Int32) (S : St) : fX12_reads_144 fu a na (n + 1) x2 x3 S = (
    if (3 : Int32) ≤ x3 then
      if (S.1 63 30) = 0 then
        if x2 ≤ (S.1 63 31) then
          fX12_reads_212 fu a na S
        else
          sI 63 30 (5 : Int32) S fun S_209 =>
          fX12_reads_212 fu a na S_209
      else
        fX12_reads_212 fu a na S
    else
      bd (fX12_two fu a na ((6 : Int32) + ((2 : Int32) * x3)) S) fun S_156 r_156 =>
      fX12_reads_161 fu a na (fX12_reads_144 fu a na n) fu x2 x3 r_156 S_156) := rfl
noncomputable def fX12_reads (fu : Nat) (a na : Nat) (x2 : Int32) (S : St) : Option (St × Int32) :=
  sI 63 30 (0 : Int32) S fun S_2 =>
  sI 63 42 (0 : Int32) S_2 fun S_7 =>
  if x2 < (12 : Int32) then
    fX12_reads_25 fu a na S_7
  else
    bd (fX12_two fu a na (4 : Int32) S_7) fun S_18 r_18 =>
    if r_18 = (1 : Int32) then
      bd (fX12_two fu a na (0 : Int32) S_18) fun S_42 r_42 =>
      sI 63 36 r_42 S_42 fun S_45 =>
      bd (fX12_two fu a na (2 : Int32) S_45) fun S_51 r_51 =>
      sI 63 35 r_51 S_51 fun S_54 =>
      sI 63 31 (12 : Int32) S_54 fun S_60 =>
      bd (fX12_readName fu a na x2 S_60) fun S_67 r_67 =>
      sI 63 32 r_67 S_67 fun S_70 =>
      if (S_70.1 63 30) ≤ 0 then
        if ((S_70.1 63 31) + (4 : Int32)) ≤ x2 then
          bd (fX12_two fu a na (S_70.1 63 31) S_70) fun S_112 r_112 =>
          sI 63 33 r_112 S_112 fun S_115 =>
          bd (fX12_two fu a na ((S_115.1 63 31) + (2 : Int32)) S_115) fun S_126 r_126 =>
          sI 63 34 r_126 S_126 fun S_129 =>
          sI 63 31 ((S_129.1 63 31) + (4 : Int32)) S_129 fun S_139 =>
          fX12_reads_144 fu a na fu x2 (0 : Int32) S_139
        else
          bd (fX12_wrong fu (3 : Int32) S_70) fun S_94 r_94 =>
          if r_94 ≤ 0 then
            some (S_94, (0 : Int32))
          else
            some (S_94, (1 : Int32))
      else
        some (S_70, (0 : Int32))
    else
      fX12_reads_25 fu a na S_18
theorem mvX12_reads : MV yX12_reads cX12_reads 5 (some .boolean) RX12 2 := ⟨gw8_117, gw8_116, gs_71, gw1_13, by decide +kernel⟩
def rmX12_reads : Room := { frames := 6, cells := 0, slots := 0, locals := 153 }
set_option maxHeartbeats 4000000 in
set_option maxRecDepth 100000 in
theorem m_X12_reads (l : Launch) (D : va_G) (cA : FieldType → ClassId) (ad : Nat → Nat) (base : Nat) (fu : Nat) (a na : Nat) (ha : isBA a na) {S S' : St} {x2 : Int32} {r : Int32} (hf : fX12_reads fu a na x2 S = some (S', r)) : Met l yX12_reads (GC yX12_reads cX12_reads 5 (some .boolean)) rmX12_reads (va_Pc [.ref (ad 63), .ref (ad a), .int x2] (wd D cA ad base S)) (QI D cA ad base S' r) 0 0 (aB base) := by
  refine Met.ofW (cc := cX12_reads) (maxL := 5) (ret := (some .boolean)) (by decide) rfl ?_
  intro p e s m args below meth c s₁ B hml hv
  obtain ⟨hargs, hwd⟩ := hv
  have hr := B.returns
  have hlocks := B.notSynchronized
  obtain ⟨C, hw⟩ := CX.of (own := RX12) rfl B hml hwd
  have hx := C.1
  have hb := C.2.1
  have hl := lv_entry ([.ref (ad 63), .ref (ad a), .int x2]) (n := 5) (Nat.le_of_ble_eq_true rfl)
  rw [show entryFrame m args 5 = entryFrame m ([.ref (ad 63), .ref (ad a), .int x2] : List Value).toArray 5 from by rw [hargs], lg_entry_eq]
  generalize (lg_sl ([.ref (ad 63), .ref (ad a), .int x2]) ++ List.replicate (5 - (lg_sl ([.ref (ad 63), .ref (ad a), .int x2])).length) Slot.unset).toArray = ls at hl ⊢
  have hl : lv_has ls 5 [(0, .ref (ad 63)), (1, .ref (ad a)), (2, .int x2)] := hl
  have J_25 : ∀ (S : St) (H : Heap) (locs : List Loc) (ls : Array Slot), fX12_reads_25 fu a na S = some (S', r) → lv_has ls 5 [(0, .ref (ad 63))] → WS D cA ad base s S H locs → W p l e rmX12_reads s m args below meth c H locs 0 0 (MQ below (QI D cA ad base S' r) args s 0 0 (aB base)) (F0 m 25 ls []) := by
    intro  S H locs ls hf hl hw
    refine lv_aload_n hx hb dX12_reads_25 rfl (lv_at hl 0 rfl) ?_
    refine lv_iconst (v := (1 : Int32)) hx hb dX12_reads_26 (by decide) ?_
    obtain ⟨S_27, r_27, h_27, hf⟩ := bd_some hf
    refine r_bi hw (r_runV (rest := []) C hw (m_X12_wrong l D cA ad base fu h_27) mvX12_wrong gw8_121 ⟨rfl, rfl, Nat.le_of_ble_eq_true rfl, Nat.le_of_ble_eq_true rfl⟩ dq_63 ln_63 vc_12 rfl hl.1 rfl (Nat.le_of_ble_eq_true rfl) dX12_reads_27 (Nat.zero_le _) (Nat.zero_le _)) (fun H locs hw => ?_)
    refine lv_if_le (tgt := 37) hx hb dX12_reads_30 (by decide) (fun c_30 => ?_) (fun c_30 => ?_)
    · have hf := if_t hf c_30
      refine lv_iconst (v := (0 : Int32)) hx hb dX12_reads_37 (by decide) ?_
      exact r_zret C hw hr hlocks rfl hf dX12_reads_38
    · have hf := if_f hf c_30
      refine lv_iconst (v := (1 : Int32)) hx hb dX12_reads_33 (by decide) ?_
      refine lv_goto (tgt := 38) hx hb dX12_reads_34 (by decide) ?_
      exact r_zret C hw hr hlocks rfl hf dX12_reads_38
  have J_212 : ∀ (S : St) (H : Heap) (locs : List Loc) (ls : Array Slot), fX12_reads_212 fu a na S = some (S', r) → lv_has ls 5 [(0, .ref (ad 63))] → WS D cA ad base s S H locs → W p l e rmX12_reads s m args below meth c H locs 0 0 (MQ below (QI D cA ad base S' r) args s 0 0 (aB base)) (F0 m 212 ls []) := by
    intro  S H locs ls hf hl hw
    refine lv_aload_n hx hb dX12_reads_212 rfl (lv_at hl 0 rfl) ?_
    refine r_getI C hw (k := 30) dq_63 ln_63 rfl vc_12 inX12 (by decide) rfl gw6_211 dX12_reads_213 ?_
    refine lv_if_ne (tgt := 223) hx hb dX12_reads_216 (by decide) (fun c_216 => ?_) (fun c_216 => ?_)
    · have hf := if_f hf c_216
      refine lv_iconst (v := (0 : Int32)) hx hb dX12_reads_223 (by decide) ?_
      exact r_zret C hw hr hlocks rfl hf dX12_reads_224
    · have hf := if_t hf c_216
      refine lv_iconst (v := (1 : Int32)) hx hb dX12_reads_219 (by decide) ?_
      refine lv_goto (tgt := 224) hx hb dX12_reads_220 (by decide) ?_
      exact r_zret C hw hr hlocks rfl hf dX12_reads_224
  have L_144 : ∀ (n_144 : Nat) (x2 : Int32) (x3 : Int32) (S : St) (H : Heap) (locs : List Loc) (ls : Array Slot), fX12_reads_144 fu a na n_144 x2 x3 S = some (S', r) → lv_has ls 5 [(0, .ref (ad 63)), (1, .ref (ad a)), (2, .int x2), (3, .int x3)] → WS D cA ad base s S H locs → W p l e rmX12_reads s m args below meth c H locs 0 0 (MQ below (QI D cA ad base S' r) args s 0 0 (aB base)) (F0 m 144 ls []) := by
    intro n_144
    induction n_144 with
    | zero =>
      intro x2 x3 S H locs ls hf hl hw
      exact (no_none hf).elim
    | succ n_144 ih_144 =>
      have J_186 : ∀ (x2 : Int32) (x3 : Int32) (S : St) (H : Heap) (locs : List Loc) (ls : Array Slot), fX12_reads_186 fu a na (fX12_reads_144 fu a na n_144) x2 x3 S = some (S', r) → lv_has ls 5 [(0, .ref (ad 63)), (1, .ref (ad a)), (2, .int x2), (3, .int x3)] → WS D cA ad base s S H locs → W p l e rmX12_reads s m args below meth c H locs 0 0 (MQ below (QI D cA ad base S' r) args s 0 0 (aB base)) (F0 m 186 ls []) := by
        intro x2 x3 S H locs ls hf hl hw
        refine lv_iinc (v := (x3 + (1 : Int32))) (lv' := [(3, .int (x3 + (1 : Int32))), (0, .ref (ad 63)), (1, .ref (ad a)), (2, .int x2)]) hx hb dX12_reads_186 hl (k := 3) rfl rfl (by decide) rfl (fun ls hl => ?_)
        refine lv_goto (tgt := 144) hx hb dX12_reads_189 (by decide) ?_
        exact ih_144 _ _ _ _ _ _ hf (lv_sub hl [1, 2, 3, 0] rfl) hw
      have L_161 : ∀ (n_161 : Nat) (x2 : Int32) (x3 : Int32) (x4 : Int32) (S : St) (H : Heap) (locs : List Loc) (ls : Array Slot), fX12_reads_161 fu a na (fX12_reads_144 fu a na n_144) n_161 x2 x3 x4 S = some (S', r) → lv_has ls 5 [(0, .ref (ad 63)), (1, .ref (ad a)), (2, .int x2), (3, .int x3), (4, .int x4)] → WS D cA ad base s S H locs → W p l e rmX12_reads s m args below meth c H locs 0 0 (MQ below (QI D cA ad base S' r) args s 0 0 (aB base)) (F0 m 161 ls []) := by
        intro n_161
        induction n_161 with
        | zero =>
          intro x2 x3 x4 S H locs ls hf hl hw
          exact (no_none hf).elim
        | succ n_161 ih_161 =>
          intro x2 x3 x4 S H locs ls hf hl hw
          rw [fX12_reads_161_s] at hf
          refine lv_iload hx hb dX12_reads_161 (lv_at hl 4 rfl) ?_
          refine lv_if_le (tgt := 186) hx hb dX12_reads_163 (by decide) (fun c_163 => ?_) (fun c_163 => ?_)
          · have hf := if_t hf c_163
            exact J_186 _ _ _ _ _ _ hf (lv_sub hl [0, 1, 2, 3] rfl) hw
          · have hf := if_f hf c_163
            refine lv_aload_n hx hb dX12_reads_166 rfl (lv_at hl 0 rfl) ?_
            refine r_getI C hw (k := 30) dq_63 ln_63 rfl vc_12 inX12 (by decide) rfl gw6_211 dX12_reads_167 ?_
            refine lv_if_ne (tgt := 186) hx hb dX12_reads_170 (by decide) (fun c_170 => ?_) (fun c_170 => ?_)
            · have hf := if_f hf c_170
              exact J_186 _ _ _ _ _ _ hf (lv_sub hl [0, 1, 2, 3] rfl) hw
            · have hf := if_t hf c_170
              refine lv_aload_n hx hb dX12_reads_173 rfl (lv_at hl 0 rfl) ?_
              refine lv_aload_n hx hb dX12_reads_174 rfl (lv_at hl 1 rfl) ?_
              refine lv_iload_n hx hb dX12_reads_175 rfl (lv_at hl 2 rfl) ?_
              refine lv_iload_n hx hb dX12_reads_176 rfl (lv_at hl 3 rfl) ?_
              obtain ⟨S_177, r_177, h_177, hf⟩ := bd_some hf
              refine r_bv hw (r_runV (rest := []) C hw (m_X12_readRecord l D cA ad base fu a na ⟨ha.1, ha.2⟩ h_177) mvX12_readRecord gw8_133 ⟨rfl, rfl, Nat.le_of_ble_eq_true rfl, Nat.le_of_ble_eq_true rfl⟩ dq_63 ln_63 vc_12 rfl hl.1 rfl (Nat.le_of_ble_eq_true rfl) dX12_reads_177 (Nat.zero_le _) (Nat.zero_le _)) (fun H locs hw => ?_)
              refine lv_iinc (v := (x4 + (-1 : Int32))) (lv' := [(4, .int (x4 + (-1 : Int32))), (0, .ref (ad 63)), (1, .ref (ad a)), (2, .int x2), (3, .int x3)]) hx hb dX12_reads_180 hl (k := 4) rfl rfl (by decide) rfl (fun ls hl => ?_)
              refine lv_goto (tgt := 161) hx hb dX12_reads_183 (by decide) ?_
              exact ih_161 _ _ _ _ _ _ _ hf (lv_sub hl [1, 2, 3, 4, 0] rfl) hw
      intro x2 x3 S H locs ls hf hl hw
      rw [fX12_reads_144_s] at hf
      refine lv_iload_n hx hb dX12_reads_144 rfl (lv_at hl 3 rfl) ?_
      refine lv_iconst (v := (3 : Int32)) hx hb dX12_reads_145 (by decide) ?_
      refine lv_icmp_ge (tgt := 192) hx hb dX12_reads_146 (by decide) (fun c_146 => ?_) (fun c_146 => ?_)
      · have hf := if_t hf c_146
        refine lv_aload_n hx hb dX12_reads_192 rfl (lv_at hl 0 rfl) ?_
        refine r_getI C hw (k := 30) dq_63 ln_63 rfl vc_12 inX12 (by decide) rfl gw6_211 dX12_reads_193 ?_
        refine lv_if_ne (tgt := 212) hx hb dX12_reads_196 (by decide) (fun c_196 => ?_) (fun c_196 => ?_)
        · have hf := if_f hf c_196
          exact J_212 _ _ _ _ hf (lv_sub hl [0] rfl) hw
        · have hf := if_t hf c_196
          refine lv_aload_n hx hb dX12_reads_199 rfl (lv_at hl 0 rfl) ?_
          refine r_getI C hw (k := 31) dq_63 ln_63 rfl vc_12 inX12 (by decide) rfl gw6_212 dX12_reads_200 ?_
          refine lv_iload_n hx hb dX12_reads_203 rfl (lv_at hl 2 rfl) ?_
          refine lv_icmp_ge (tgt := 212) hx hb dX12_reads_204 (by decide) (fun c_204 => ?_) (fun c_204 => ?_)
          · have hf := if_t hf c_204
            exact J_212 _ _ _ _ hf (lv_sub hl [0] rfl) hw
          · have hf := if_f hf c_204
            refine lv_aload_n hx hb dX12_reads_207 rfl (lv_at hl 0 rfl) ?_
            refine lv_iconst (v := (5 : Int32)) hx hb dX12_reads_208 (by decide) ?_
            obtain ⟨S_209, e_209, hf⟩ := sI_some hf
            refine r_putI C hw (k := 30) (ty0 := tyX12) dq_63 ln_63 rfl vc_12 inX12 tyX12_ok nmX12 (by decide) rfl rfl gw6_211 rfl rfl dX12_reads_209 e_209 (fun H locs hw => ?_)
            exact J_212 _ _ _ _ hf (lv_sub hl [0] rfl) hw
      · have hf := if_f hf c_146
        refine lv_aload_n hx hb dX12_reads_149 rfl (lv_at hl 1 rfl) ?_
        refine lv_bipush (v := (6 : Int32)) hx hb dX12_reads_150 (by decide) ?_
        refine lv_iconst (v := (2 : Int32)) hx hb dX12_reads_152 (by decide) ?_
        refine lv_iload_n hx hb dX12_reads_153 rfl (lv_at hl 3 rfl) ?_
        refine lv_imul hx hb dX12_reads_154 ?_
        refine lv_iadd hx hb dX12_reads_155 ?_
        obtain ⟨S_156, r_156, h_156, hf⟩ := bd_some hf
        refine r_bi hw (r_runS (rest := []) C hw (m_X12_two l D cA ad base fu a na ⟨ha.1, ha.2⟩ h_156) msX12_two gw8_118 ⟨rfl, rfl, Nat.le_of_ble_eq_true rfl, Nat.le_of_ble_eq_true rfl⟩ rfl hl.1 rfl (Nat.le_of_ble_eq_true rfl) dX12_reads_156 (Nat.zero_le _) (Nat.zero_le _)) (fun H locs hw => ?_)
        refine lv_istore (lv' := [(4, .int r_156), (0, .ref (ad 63)), (1, .ref (ad a)), (2, .int x2), (3, .int x3)]) hx hb dX12_reads_159 hl (by decide) rfl (fun ls hl => ?_)
        exact L_161 fu _ _ _ _ _ _ _ hf (lv_sub hl [1, 2, 3, 4, 0] rfl) hw
  show W p l e rmX12_reads s m args below meth c s.heap [] 0 0 _ _
  refine lv_aload_n hx hb dX12_reads_0 rfl (lv_at hl 0 rfl) ?_
  refine lv_iconst (v := (0 : Int32)) hx hb dX12_reads_1 (by decide) ?_
  obtain ⟨S_2, e_2, hf⟩ := sI_some hf
  refine r_putI C hw (k := 30) (ty0 := tyX12) dq_63 ln_63 rfl vc_12 inX12 tyX12_ok nmX12 (by decide) rfl rfl gw6_211 rfl rfl dX12_reads_2 e_2 (fun H locs hw => ?_)
  refine lv_aload_n hx hb dX12_reads_5 rfl (lv_at hl 0 rfl) ?_
  refine lv_iconst (v := (0 : Int32)) hx hb dX12_reads_6 (by decide) ?_
  obtain ⟨S_7, e_7, hf⟩ := sI_some hf
  refine r_putI C hw (k := 42) (ty0 := tyX12) dq_63 ln_63 rfl vc_12 inX12 tyX12_ok nmX12 (by decide) rfl rfl gw6_223 rfl rfl dX12_reads_7 e_7 (fun H locs hw => ?_)
  refine lv_iload_n hx hb dX12_reads_10 rfl (lv_at hl 2 rfl) ?_
  refine lv_bipush (v := (12 : Int32)) hx hb dX12_reads_11 (by decide) ?_
  refine lv_icmp_lt (tgt := 25) hx hb dX12_reads_13 (by decide) (fun c_13 => ?_) (fun c_13 => ?_)
  · have hf := if_t hf c_13
    exact J_25 _ _ _ _ hf (lv_sub hl [0] rfl) hw
  · have hf := if_f hf c_13
    refine lv_aload_n hx hb dX12_reads_16 rfl (lv_at hl 1 rfl) ?_
    refine lv_iconst (v := (4 : Int32)) hx hb dX12_reads_17 (by decide) ?_
    obtain ⟨S_18, r_18, h_18, hf⟩ := bd_some hf
    refine r_bi hw (r_runS (rest := []) C hw (m_X12_two l D cA ad base fu a na ⟨ha.1, ha.2⟩ h_18) msX12_two gw8_118 ⟨rfl, rfl, Nat.le_of_ble_eq_true rfl, Nat.le_of_ble_eq_true rfl⟩ rfl hl.1 rfl (Nat.le_of_ble_eq_true rfl) dX12_reads_18 (Nat.zero_le _) (Nat.zero_le _)) (fun H locs hw => ?_)
    refine lv_iconst (v := (1 : Int32)) hx hb dX12_reads_21 (by decide) ?_
    refine lv_icmp_eq (tgt := 39) hx hb dX12_reads_22 (by decide) (fun c_22 => ?_) (fun c_22 => ?_)
    · have hf := if_t hf c_22
      refine lv_aload_n hx hb dX12_reads_39 rfl (lv_at hl 0 rfl) ?_
      refine lv_aload_n hx hb dX12_reads_40 rfl (lv_at hl 1 rfl) ?_
      refine lv_iconst (v := (0 : Int32)) hx hb dX12_reads_41 (by decide) ?_
      obtain ⟨S_42, r_42, h_42, hf⟩ := bd_some hf
      refine r_bi hw (r_runS (rest := [.ref (ad 63)]) C hw (m_X12_two l D cA ad base fu a na ⟨ha.1, ha.2⟩ h_42) msX12_two gw8_118 ⟨rfl, rfl, Nat.le_of_ble_eq_true rfl, Nat.le_of_ble_eq_true rfl⟩ rfl hl.1 rfl (Nat.le_of_ble_eq_true rfl) dX12_reads_42 (Nat.zero_le _) (Nat.zero_le _)) (fun H locs hw => ?_)
      obtain ⟨S_45, e_45, hf⟩ := sI_some hf
      refine r_putI C hw (k := 36) (ty0 := tyX12) dq_63 ln_63 rfl vc_12 inX12 tyX12_ok nmX12 (by decide) rfl rfl gw6_217 rfl rfl dX12_reads_45 e_45 (fun H locs hw => ?_)
      refine lv_aload_n hx hb dX12_reads_48 rfl (lv_at hl 0 rfl) ?_
      refine lv_aload_n hx hb dX12_reads_49 rfl (lv_at hl 1 rfl) ?_
      refine lv_iconst (v := (2 : Int32)) hx hb dX12_reads_50 (by decide) ?_
      obtain ⟨S_51, r_51, h_51, hf⟩ := bd_some hf
      refine r_bi hw (r_runS (rest := [.ref (ad 63)]) C hw (m_X12_two l D cA ad base fu a na ⟨ha.1, ha.2⟩ h_51) msX12_two gw8_118 ⟨rfl, rfl, Nat.le_of_ble_eq_true rfl, Nat.le_of_ble_eq_true rfl⟩ rfl hl.1 rfl (Nat.le_of_ble_eq_true rfl) dX12_reads_51 (Nat.zero_le _) (Nat.zero_le _)) (fun H locs hw => ?_)
      obtain ⟨S_54, e_54, hf⟩ := sI_some hf
      refine r_putI C hw (k := 35) (ty0 := tyX12) dq_63 ln_63 rfl vc_12 inX12 tyX12_ok nmX12 (by decide) rfl rfl gw6_216 rfl rfl dX12_reads_54 e_54 (fun H locs hw => ?_)
      refine lv_aload_n hx hb dX12_reads_57 rfl (lv_at hl 0 rfl) ?_
      refine lv_bipush (v := (12 : Int32)) hx hb dX12_reads_58 (by decide) ?_
      obtain ⟨S_60, e_60, hf⟩ := sI_some hf
      refine r_putI C hw (k := 31) (ty0 := tyX12) dq_63 ln_63 rfl vc_12 inX12 tyX12_ok nmX12 (by decide) rfl rfl gw6_212 rfl rfl dX12_reads_60 e_60 (fun H locs hw => ?_)
      refine lv_aload_n hx hb dX12_reads_63 rfl (lv_at hl 0 rfl) ?_
      refine lv_aload_n hx hb dX12_reads_64 rfl (lv_at hl 0 rfl) ?_
      refine lv_aload_n hx hb dX12_reads_65 rfl (lv_at hl 1 rfl) ?_
      refine lv_iload_n hx hb dX12_reads_66 rfl (lv_at hl 2 rfl) ?_
      obtain ⟨S_67, r_67, h_67, hf⟩ := bd_some hf
      refine r_bi hw (r_runV (rest := [.ref (ad 63)]) C hw (m_X12_readName l D cA ad base fu a na ⟨ha.1, ha.2⟩ h_67) mvX12_readName gw8_125 ⟨rfl, rfl, Nat.le_of_ble_eq_true rfl, Nat.le_of_ble_eq_true rfl⟩ dq_63 ln_63 vc_12 rfl hl.1 rfl (Nat.le_of_ble_eq_true rfl) dX12_reads_67 (Nat.zero_le _) (Nat.zero_le _)) (fun H locs hw => ?_)
      obtain ⟨S_70, e_70, hf⟩ := sI_some hf
      refine r_putI C hw (k := 32) (ty0 := tyX12) dq_63 ln_63 rfl vc_12 inX12 tyX12_ok nmX12 (by decide) rfl rfl gw6_213 rfl rfl dX12_reads_70 e_70 (fun H locs hw => ?_)
      refine lv_aload_n hx hb dX12_reads_73 rfl (lv_at hl 0 rfl) ?_
      refine r_getI C hw (k := 30) dq_63 ln_63 rfl vc_12 inX12 (by decide) rfl gw6_211 dX12_reads_74 ?_
      refine lv_if_le (tgt := 82) hx hb dX12_reads_77 (by decide) (fun c_77 => ?_) (fun c_77 => ?_)
      · have hf := if_t hf c_77
        refine lv_aload_n hx hb dX12_reads_82 rfl (lv_at hl 0 rfl) ?_
        refine r_getI C hw (k := 31) dq_63 ln_63 rfl vc_12 inX12 (by decide) rfl gw6_212 dX12_reads_83 ?_
        refine lv_iconst (v := (4 : Int32)) hx hb dX12_reads_86 (by decide) ?_
        refine lv_iadd hx hb dX12_reads_87 ?_
        refine lv_iload_n hx hb dX12_reads_88 rfl (lv_at hl 2 rfl) ?_
        refine lv_icmp_le (tgt := 106) hx hb dX12_reads_89 (by decide) (fun c_89 => ?_) (fun c_89 => ?_)
        · have hf := if_t hf c_89
          refine lv_aload_n hx hb dX12_reads_106 rfl (lv_at hl 0 rfl) ?_
          refine lv_aload_n hx hb dX12_reads_107 rfl (lv_at hl 1 rfl) ?_
          refine lv_aload_n hx hb dX12_reads_108 rfl (lv_at hl 0 rfl) ?_
          refine r_getI C hw (k := 31) dq_63 ln_63 rfl vc_12 inX12 (by decide) rfl gw6_212 dX12_reads_109 ?_
          obtain ⟨S_112, r_112, h_112, hf⟩ := bd_some hf
          refine r_bi hw (r_runS (rest := [.ref (ad 63)]) C hw (m_X12_two l D cA ad base fu a na ⟨ha.1, ha.2⟩ h_112) msX12_two gw8_118 ⟨rfl, rfl, Nat.le_of_ble_eq_true rfl, Nat.le_of_ble_eq_true rfl⟩ rfl hl.1 rfl (Nat.le_of_ble_eq_true rfl) dX12_reads_112 (Nat.zero_le _) (Nat.zero_le _)) (fun H locs hw => ?_)
          obtain ⟨S_115, e_115, hf⟩ := sI_some hf
          refine r_putI C hw (k := 33) (ty0 := tyX12) dq_63 ln_63 rfl vc_12 inX12 tyX12_ok nmX12 (by decide) rfl rfl gw6_214 rfl rfl dX12_reads_115 e_115 (fun H locs hw => ?_)
          refine lv_aload_n hx hb dX12_reads_118 rfl (lv_at hl 0 rfl) ?_
          refine lv_aload_n hx hb dX12_reads_119 rfl (lv_at hl 1 rfl) ?_
          refine lv_aload_n hx hb dX12_reads_120 rfl (lv_at hl 0 rfl) ?_
          refine r_getI C hw (k := 31) dq_63 ln_63 rfl vc_12 inX12 (by decide) rfl gw6_212 dX12_reads_121 ?_
          refine lv_iconst (v := (2 : Int32)) hx hb dX12_reads_124 (by decide) ?_
          refine lv_iadd hx hb dX12_reads_125 ?_
          obtain ⟨S_126, r_126, h_126, hf⟩ := bd_some hf
          refine r_bi hw (r_runS (rest := [.ref (ad 63)]) C hw (m_X12_two l D cA ad base fu a na ⟨ha.1, ha.2⟩ h_126) msX12_two gw8_118 ⟨rfl, rfl, Nat.le_of_ble_eq_true rfl, Nat.le_of_ble_eq_true rfl⟩ rfl hl.1 rfl (Nat.le_of_ble_eq_true rfl) dX12_reads_126 (Nat.zero_le _) (Nat.zero_le _)) (fun H locs hw => ?_)
          obtain ⟨S_129, e_129, hf⟩ := sI_some hf
          refine r_putI C hw (k := 34) (ty0 := tyX12) dq_63 ln_63 rfl vc_12 inX12 tyX12_ok nmX12 (by decide) rfl rfl gw6_215 rfl rfl dX12_reads_129 e_129 (fun H locs hw => ?_)
          refine lv_aload_n hx hb dX12_reads_132 rfl (lv_at hl 0 rfl) ?_
          refine lv_dup hx hb dX12_reads_133 rfl ?_
          refine r_getI C hw (k := 31) dq_63 ln_63 rfl vc_12 inX12 (by decide) rfl gw6_212 dX12_reads_134 ?_
          refine lv_iconst (v := (4 : Int32)) hx hb dX12_reads_137 (by decide) ?_
          refine lv_iadd hx hb dX12_reads_138 ?_
          obtain ⟨S_139, e_139, hf⟩ := sI_some hf
          refine r_putI C hw (k := 31) (ty0 := tyX12) dq_63 ln_63 rfl vc_12 inX12 tyX12_ok nmX12 (by decide) rfl rfl gw6_212 rfl rfl dX12_reads_139 e_139 (fun H locs hw => ?_)
          refine lv_iconst (v := (0 : Int32)) hx hb dX12_reads_142 (by decide) ?_
          refine lv_istore_n (lv' := [(3, .int (0 : Int32)), (0, .ref (ad 63)), (1, .ref (ad a)), (2, .int x2)]) hx hb dX12_reads_143 rfl hl (by decide) rfl (fun ls hl => ?_)
          exact L_144 fu _ _ _ _ _ _ hf (lv_sub hl [1, 2, 3, 0] rfl) hw
        · have hf := if_f hf c_89
          refine lv_aload_n hx hb dX12_reads_92 rfl (lv_at hl 0 rfl) ?_
          refine lv_iconst (v := (3 : Int32)) hx hb dX12_reads_93 (by decide) ?_
          obtain ⟨S_94, r_94, h_94, hf⟩ := bd_some hf
          refine r_bi hw (r_runV (rest := []) C hw (m_X12_wrong l D cA ad base fu h_94) mvX12_wrong gw8_121 ⟨rfl, rfl, Nat.le_of_ble_eq_true rfl, Nat.le_of_ble_eq_true rfl⟩ dq_63 ln_63 vc_12 rfl hl.1 rfl (Nat.le_of_ble_eq_true rfl) dX12_reads_94 (Nat.zero_le _) (Nat.zero_le _)) (fun H locs hw => ?_)
          refine lv_if_le (tgt := 104) hx hb dX12_reads_97 (by decide) (fun c_97 => ?_) (fun c_97 => ?_)
          · have hf := if_t hf c_97
            refine lv_iconst (v := (0 : Int32)) hx hb dX12_reads_104 (by decide) ?_
            exact r_zret C hw hr hlocks rfl hf dX12_reads_105
          · have hf := if_f hf c_97
            refine lv_iconst (v := (1 : Int32)) hx hb dX12_reads_100 (by decide) ?_
            refine lv_goto (tgt := 105) hx hb dX12_reads_101 (by decide) ?_
            exact r_zret C hw hr hlocks rfl hf dX12_reads_105
      · have hf := if_f hf c_77
        refine lv_iconst (v := (0 : Int32)) hx hb dX12_reads_80 (by decide) ?_
        exact r_zret C hw hr hlocks rfl hf dX12_reads_81
    · have hf := if_f hf c_22
      exact J_25 _ _ _ _ hf (lv_sub hl [0] rfl) hw
noncomputable def fX12_parse_25 (fu : Nat) (n : Nat) : Int32 → St → Option (St × Int32) :=
  Nat.rec (motive := fun _ => Int32 → St → Option (St × Int32)) (fun _ _ => none) (fun _ k_25 x2 S =>
    if (S.1 63 42) ≤ x2 then
      sI 63 44 (S.1 63 42) S fun S_122 =>
      some (S_122, (S_122.1 63 42))
    else
      gd (ck x2 100) <|
      gd (ck ((5 : Int32) * x2) 500) <|
      sI 90 (((5 : Int32) * x2)).toNatClampNeg (S.1 85 (x2).toNatClampNeg) S fun S_46 =>
      gd (ck x2 100) <|
      gd (ck (((5 : Int32) * x2) + (1 : Int32)) 500) <|
      sI 90 ((((5 : Int32) * x2) + (1 : Int32))).toNatClampNeg (S_46.1 86 (x2).toNatClampNeg) S_46 fun S_62 =>
      gd (ck x2 100) <|
      gd (ck (((5 : Int32) * x2) + (2 : Int32)) 500) <|
      sI 90 ((((5 : Int32) * x2) + (2 : Int32))).toNatClampNeg (S_62.1 87 (x2).toNatClampNeg) S_62 fun S_78 =>
      gd (ck x2 100) <|
      gd (ck (((5 : Int32) * x2) + (3 : Int32)) 500) <|
      sI 90 ((((5 : Int32) * x2) + (3 : Int32))).toNatClampNeg (S_78.1 88 (x2).toNatClampNeg) S_78 fun S_94 =>
      gd (ck x2 100) <|
      gd (ck (((5 : Int32) * x2) + (4 : Int32)) 500) <|
      sI 90 ((((5 : Int32) * x2) + (4 : Int32))).toNatClampNeg (S_94.1 89 (x2).toNatClampNeg) S_94 fun S_110 =>
      k_25 (x2 + (1 : Int32)) S_110) n
theorem fX12_parse_25_s (fu : Nat) (n : Nat) (x2 : Int32) (S : St) : fX12_parse_25 fu (n + 1) x2 S = (
    if (S.1 63 42) ≤ x2 then
      sI 63 44 (S.1 63 42) S fun S_122 =>
      some (S_122, (S_122.1 63 42))
    else
      gd (ck x2 100) <|
      gd (ck ((5 : Int32) * x2) 500) <|
      sI 90 (((5 : Int32) * x2)).toNatClampNeg (S.1 85 (x2).toNatClampNeg) S fun S_46 =>
      gd (ck x2 100) <|
      gd (ck (((5 : Int32) * x2) + (1 : Int32)) 500) <|
      sI 90 ((((5 : Int32) * x2) + (1 : Int32))).toNatClampNeg (S_46.1 86 (x2).toNatClampNeg) S_46 fun S_62 =>
      gd (ck x2 100) <|
      gd (ck (((5 : Int32) * x2) + (2 : Int32)) 500) <|
      sI 90 ((((5 : Int32) * x2) + (2 : Int32))).toNatClampNeg (S_62.1 87 (x2).toNatClampNeg) S_62 fun S_78 =>
      gd (ck x2 100) <|
      gd (ck (((5 : Int32) * x2) + (3 : Int32)) 500) <|
      sI 90 ((((5 : Int32) * x2) + (3 : Int32))).toNatClampNeg (S_78.1 88 (x2).toNatClampNeg) S_78 fun S_94 =>
      gd (ck x2 100) <|
      gd (ck (((5 : Int32) * x2) + (4 : Int32)) 500) <|
      sI 90 ((((5 : Int32) * x2) + (4 : Int32))).toNatClampNeg (S_94.1 89 (x2).toNatClampNeg) S_94 fun S_110 =>
      (fX12_parse_25 fu n) (x2 + (1 : Int32)) S_110) := rfl
noncomputable def fX12_parse (fu : Nat) (S : St) : Option (St × Int32) :=
  bd (fX12_used fu S) fun S_1 r_1 =>
  bd (fX12_reads fu 70 1040 r_1 S_1) fun S_11 r_11 =>
  if r_11 = 0 then
    some (S_11, (-(S_11.1 63 30)))
  else
    fX12_parse_25 fu fu (0 : Int32) S_11
theorem mvX12_parse : MV yX12_parse cX12_parse 3 (some .int) RX12 0 := ⟨gw8_113, gw8_111, gw8_112, gw1_13, by decide +kernel⟩
def rmX12_parse : Room := { frames := 7, cells := 0, slots := 0, locals := 177 }
set_option maxHeartbeats 4000000 in
set_option maxRecDepth 100000 in
theorem m_X12_parse (l : Launch) (D : va_G) (cA : FieldType → ClassId) (ad : Nat → Nat) (base : Nat) (fu : Nat) {S S' : St} {r : Int32} (hf : fX12_parse fu S = some (S', r)) : Met l yX12_parse (GC yX12_parse cX12_parse 3 (some .int)) rmX12_parse (va_Pc [.ref (ad 63)] (wd D cA ad base S)) (QI D cA ad base S' r) 0 0 (aB base) := by
  refine Met.ofW (cc := cX12_parse) (maxL := 3) (ret := (some .int)) (by decide) rfl ?_
  intro p e s m args below meth c s₁ B hml hv
  obtain ⟨hargs, hwd⟩ := hv
  have hr := B.returns
  have hlocks := B.notSynchronized
  obtain ⟨C, hw⟩ := CX.of (own := RX12) rfl B hml hwd
  have hx := C.1
  have hb := C.2.1
  have hl := lv_entry ([.ref (ad 63)]) (n := 3) (Nat.le_of_ble_eq_true rfl)
  rw [show entryFrame m args 3 = entryFrame m ([.ref (ad 63)] : List Value).toArray 3 from by rw [hargs], lg_entry_eq]
  generalize (lg_sl ([.ref (ad 63)]) ++ List.replicate (3 - (lg_sl ([.ref (ad 63)])).length) Slot.unset).toArray = ls at hl ⊢
  have hl : lv_has ls 3 [(0, .ref (ad 63))] := hl
  have L_25 : ∀ (n_25 : Nat) (x2 : Int32) (S : St) (H : Heap) (locs : List Loc) (ls : Array Slot), fX12_parse_25 fu n_25 x2 S = some (S', r) → lv_has ls 3 [(0, .ref (ad 63)), (2, .int x2)] → WS D cA ad base s S H locs → W p l e rmX12_parse s m args below meth c H locs 0 0 (MQ below (QI D cA ad base S' r) args s 0 0 (aB base)) (F0 m 25 ls []) := by
    intro n_25
    induction n_25 with
    | zero =>
      intro x2 S H locs ls hf hl hw
      exact (no_none hf).elim
    | succ n_25 ih_25 =>
      intro x2 S H locs ls hf hl hw
      rw [fX12_parse_25_s] at hf
      refine lv_iload_n hx hb dX12_parse_25 rfl (lv_at hl 1 rfl) ?_
      refine lv_aload_n hx hb dX12_parse_26 rfl (lv_at hl 0 rfl) ?_
      refine r_getI C hw (k := 42) dq_63 ln_63 rfl vc_12 inX12 (by decide) rfl gw6_223 dX12_parse_27 ?_
      refine lv_icmp_ge (tgt := 117) hx hb dX12_parse_30 (by decide) (fun c_30 => ?_) (fun c_30 => ?_)
      · have hf := if_t hf c_30
        refine lv_aload_n hx hb dX12_parse_117 rfl (lv_at hl 0 rfl) ?_
        refine lv_aload_n hx hb dX12_parse_118 rfl (lv_at hl 0 rfl) ?_
        refine r_getI C hw (k := 42) dq_63 ln_63 rfl vc_12 inX12 (by decide) rfl gw6_223 dX12_parse_119 ?_
        obtain ⟨S_122, e_122, hf⟩ := sI_some hf
        refine r_putI C hw (k := 44) (ty0 := tyX12) dq_63 ln_63 rfl vc_12 inX12 tyX12_ok nmX12 (by decide) rfl rfl gw6_225 rfl rfl dX12_parse_122 e_122 (fun H locs hw => ?_)
        refine lv_aload_n hx hb dX12_parse_125 rfl (lv_at hl 0 rfl) ?_
        refine r_getI C hw (k := 42) dq_63 ln_63 rfl vc_12 inX12 (by decide) rfl gw6_223 dX12_parse_126 ?_
        exact r_iret C hw hr hlocks hf dX12_parse_129
      · have hf := if_f hf c_30
        refine lv_aload_n hx hb dX12_parse_33 rfl (lv_at hl 0 rfl) ?_
        refine r_getR C hw (k := 43) (r := 90) dq_63 ln_63 rfl vc_12 inX12 (by decide) rfl gw6_224 dX12_parse_34 ?_
        refine lv_iconst (v := (5 : Int32)) hx hb dX12_parse_37 (by decide) ?_
        refine lv_iload_n hx hb dX12_parse_38 rfl (lv_at hl 1 rfl) ?_
        refine lv_imul hx hb dX12_parse_39 ?_
        refine lv_aload_n hx hb dX12_parse_40 rfl (lv_at hl 0 rfl) ?_
        refine r_getR C hw (k := 37) (r := 85) dq_63 ln_63 rfl vc_12 inX12 (by decide) rfl gw6_218 dX12_parse_41 ?_
        refine lv_iload_n hx hb dX12_parse_44 rfl (lv_at hl 1 rfl) ?_
        obtain ⟨z_45, hf⟩ := gd_some hf
        refine r_iald C hw (x := 85) dq_85 ln_85 z_45 dX12_parse_45 ?_
        obtain ⟨z_46, hf⟩ := gd_some hf
        obtain ⟨S_46, e_46, hf⟩ := sI_some hf
        refine r_iast C hw (x := 90) dq_90 ln_90 z_46 dX12_parse_46 e_46 (fun H locs hw => ?_)
        refine lv_aload_n hx hb dX12_parse_47 rfl (lv_at hl 0 rfl) ?_
        refine r_getR C hw (k := 43) (r := 90) dq_63 ln_63 rfl vc_12 inX12 (by decide) rfl gw6_224 dX12_parse_48 ?_
        refine lv_iconst (v := (5 : Int32)) hx hb dX12_parse_51 (by decide) ?_
        refine lv_iload_n hx hb dX12_parse_52 rfl (lv_at hl 1 rfl) ?_
        refine lv_imul hx hb dX12_parse_53 ?_
        refine lv_iconst (v := (1 : Int32)) hx hb dX12_parse_54 (by decide) ?_
        refine lv_iadd hx hb dX12_parse_55 ?_
        refine lv_aload_n hx hb dX12_parse_56 rfl (lv_at hl 0 rfl) ?_
        refine r_getR C hw (k := 38) (r := 86) dq_63 ln_63 rfl vc_12 inX12 (by decide) rfl gw6_219 dX12_parse_57 ?_
        refine lv_iload_n hx hb dX12_parse_60 rfl (lv_at hl 1 rfl) ?_
        obtain ⟨z_61, hf⟩ := gd_some hf
        refine r_iald C hw (x := 86) dq_86 ln_86 z_61 dX12_parse_61 ?_
        obtain ⟨z_62, hf⟩ := gd_some hf
        obtain ⟨S_62, e_62, hf⟩ := sI_some hf
        refine r_iast C hw (x := 90) dq_90 ln_90 z_62 dX12_parse_62 e_62 (fun H locs hw => ?_)
        refine lv_aload_n hx hb dX12_parse_63 rfl (lv_at hl 0 rfl) ?_
        refine r_getR C hw (k := 43) (r := 90) dq_63 ln_63 rfl vc_12 inX12 (by decide) rfl gw6_224 dX12_parse_64 ?_
        refine lv_iconst (v := (5 : Int32)) hx hb dX12_parse_67 (by decide) ?_
        refine lv_iload_n hx hb dX12_parse_68 rfl (lv_at hl 1 rfl) ?_
        refine lv_imul hx hb dX12_parse_69 ?_
        refine lv_iconst (v := (2 : Int32)) hx hb dX12_parse_70 (by decide) ?_
        refine lv_iadd hx hb dX12_parse_71 ?_
        refine lv_aload_n hx hb dX12_parse_72 rfl (lv_at hl 0 rfl) ?_
        refine r_getR C hw (k := 39) (r := 87) dq_63 ln_63 rfl vc_12 inX12 (by decide) rfl gw6_220 dX12_parse_73 ?_
        refine lv_iload_n hx hb dX12_parse_76 rfl (lv_at hl 1 rfl) ?_
        obtain ⟨z_77, hf⟩ := gd_some hf
        refine r_iald C hw (x := 87) dq_87 ln_87 z_77 dX12_parse_77 ?_
        obtain ⟨z_78, hf⟩ := gd_some hf
        obtain ⟨S_78, e_78, hf⟩ := sI_some hf
        refine r_iast C hw (x := 90) dq_90 ln_90 z_78 dX12_parse_78 e_78 (fun H locs hw => ?_)
        refine lv_aload_n hx hb dX12_parse_79 rfl (lv_at hl 0 rfl) ?_
        refine r_getR C hw (k := 43) (r := 90) dq_63 ln_63 rfl vc_12 inX12 (by decide) rfl gw6_224 dX12_parse_80 ?_
        refine lv_iconst (v := (5 : Int32)) hx hb dX12_parse_83 (by decide) ?_
        refine lv_iload_n hx hb dX12_parse_84 rfl (lv_at hl 1 rfl) ?_
        refine lv_imul hx hb dX12_parse_85 ?_
        refine lv_iconst (v := (3 : Int32)) hx hb dX12_parse_86 (by decide) ?_
        refine lv_iadd hx hb dX12_parse_87 ?_
        refine lv_aload_n hx hb dX12_parse_88 rfl (lv_at hl 0 rfl) ?_
        refine r_getR C hw (k := 40) (r := 88) dq_63 ln_63 rfl vc_12 inX12 (by decide) rfl gw6_221 dX12_parse_89 ?_
        refine lv_iload_n hx hb dX12_parse_92 rfl (lv_at hl 1 rfl) ?_
        obtain ⟨z_93, hf⟩ := gd_some hf
        refine r_iald C hw (x := 88) dq_88 ln_88 z_93 dX12_parse_93 ?_
        obtain ⟨z_94, hf⟩ := gd_some hf
        obtain ⟨S_94, e_94, hf⟩ := sI_some hf
        refine r_iast C hw (x := 90) dq_90 ln_90 z_94 dX12_parse_94 e_94 (fun H locs hw => ?_)
        refine lv_aload_n hx hb dX12_parse_95 rfl (lv_at hl 0 rfl) ?_
        refine r_getR C hw (k := 43) (r := 90) dq_63 ln_63 rfl vc_12 inX12 (by decide) rfl gw6_224 dX12_parse_96 ?_
        refine lv_iconst (v := (5 : Int32)) hx hb dX12_parse_99 (by decide) ?_
        refine lv_iload_n hx hb dX12_parse_100 rfl (lv_at hl 1 rfl) ?_
        refine lv_imul hx hb dX12_parse_101 ?_
        refine lv_iconst (v := (4 : Int32)) hx hb dX12_parse_102 (by decide) ?_
        refine lv_iadd hx hb dX12_parse_103 ?_
        refine lv_aload_n hx hb dX12_parse_104 rfl (lv_at hl 0 rfl) ?_
        refine r_getR C hw (k := 41) (r := 89) dq_63 ln_63 rfl vc_12 inX12 (by decide) rfl gw6_222 dX12_parse_105 ?_
        refine lv_iload_n hx hb dX12_parse_108 rfl (lv_at hl 1 rfl) ?_
        obtain ⟨z_109, hf⟩ := gd_some hf
        refine r_iald C hw (x := 89) dq_89 ln_89 z_109 dX12_parse_109 ?_
        obtain ⟨z_110, hf⟩ := gd_some hf
        obtain ⟨S_110, e_110, hf⟩ := sI_some hf
        refine r_iast C hw (x := 90) dq_90 ln_90 z_110 dX12_parse_110 e_110 (fun H locs hw => ?_)
        refine lv_iinc (v := (x2 + (1 : Int32))) (lv' := [(2, .int (x2 + (1 : Int32))), (0, .ref (ad 63))]) hx hb dX12_parse_111 hl (k := 1) rfl rfl (by decide) rfl (fun ls hl => ?_)
        refine lv_goto (tgt := 25) hx hb dX12_parse_114 (by decide) ?_
        exact ih_25 _ _ _ _ _ hf (lv_sub hl [1, 0] rfl) hw
  show W p l e rmX12_parse s m args below meth c s.heap [] 0 0 _ _
  refine lv_aload_n hx hb dX12_parse_0 rfl (lv_at hl 0 rfl) ?_
  obtain ⟨S_1, r_1, h_1, hf⟩ := bd_some hf
  refine r_bi hw (r_runV (rest := []) C hw (m_X12_used l D cA ad base fu h_1) mvX12_used gw7_182 ⟨rfl, rfl, Nat.le_of_ble_eq_true rfl, Nat.le_of_ble_eq_true rfl⟩ dq_63 ln_63 vc_12 rfl hl.1 rfl (Nat.le_of_ble_eq_true rfl) dX12_parse_1 (Nat.zero_le _) (Nat.zero_le _)) (fun H locs hw => ?_)
  refine lv_istore_n (lv' := [(1, .int r_1), (0, .ref (ad 63))]) hx hb dX12_parse_4 rfl hl (by decide) rfl (fun ls hl => ?_)
  refine lv_aload_n hx hb dX12_parse_5 rfl (lv_at hl 1 rfl) ?_
  refine lv_aload_n hx hb dX12_parse_6 rfl (lv_at hl 1 rfl) ?_
  refine r_getR C hw (k := 9) (r := 70) dq_63 ln_63 rfl vc_12 inX12 (by decide) rfl gw6_190 dX12_parse_7 ?_
  refine lv_iload_n hx hb dX12_parse_10 rfl (lv_at hl 0 rfl) ?_
  obtain ⟨S_11, r_11, h_11, hf⟩ := bd_some hf
  refine r_bi hw (r_runV (rest := []) C hw (m_X12_reads l D cA ad base fu 70 1040 ⟨dq_70, ln_70⟩ h_11) mvX12_reads gw8_114 ⟨rfl, rfl, Nat.le_of_ble_eq_true rfl, Nat.le_of_ble_eq_true rfl⟩ dq_63 ln_63 vc_12 rfl hl.1 rfl (Nat.le_of_ble_eq_true rfl) dX12_parse_11 (Nat.zero_le _) (Nat.zero_le _)) (fun H locs hw => ?_)
  refine lv_if_ne (tgt := 23) hx hb dX12_parse_14 (by decide) (fun c_14 => ?_) (fun c_14 => ?_)
  · have hf := if_f hf c_14
    refine lv_iconst (v := (0 : Int32)) hx hb dX12_parse_23 (by decide) ?_
    refine lv_istore_n (lv' := [(2, .int (0 : Int32)), (1, .int r_1), (0, .ref (ad 63))]) hx hb dX12_parse_24 rfl hl (by decide) rfl (fun ls hl => ?_)
    exact L_25 fu _ _ _ _ _ hf (lv_sub hl [2, 0] rfl) hw
  · have hf := if_t hf c_14
    refine lv_aload_n hx hb dX12_parse_17 rfl (lv_at hl 1 rfl) ?_
    refine r_getI C hw (k := 30) dq_63 ln_63 rfl vc_12 inX12 (by decide) rfl gw6_211 dX12_parse_18 ?_
    refine lv_ineg hx hb dX12_parse_21 ?_
    exact r_iret C hw hr hlocks hf dX12_parse_22
noncomputable def fX12_parsed_32 (fu : Nat) (x1 : Int32) (x2 : Int32) (t0 : Int32) (S : St) : Option (St × Int32) :=
  bd (fX12_throwsIf fu t0 (1 : Int32) S) fun S_33 r_33 =>
  if r_33 = 0 then
    gd (ck (((5 : Int32) * x1) + x2) 500) <|
    some (S_33, (S_33.1 90 ((((5 : Int32) * x1) + x2)).toNatClampNeg))
  else
    some (S_33, (0 : Int32))
noncomputable def fX12_parsed_27 (fu : Nat) (x1 : Int32) (x2 : Int32) (S : St) : Option (St × Int32) :=
  fX12_parsed_32 fu x1 x2 (1 : Int32) S
noncomputable def fX12_parsed (fu : Nat) (x1 : Int32) (x2 : Int32) (S : St) : Option (St × Int32) :=
  sI 63 0 (0 : Int32) S fun S_2 =>
  if x1 < 0 then
    fX12_parsed_27 fu x1 x2 S_2
  else
    if (S_2.1 63 44) ≤ x1 then
      fX12_parsed_27 fu x1 x2 S_2
    else
      if x2 < 0 then
        fX12_parsed_27 fu x1 x2 S_2
      else
        if x2 ≤ (4 : Int32) then
          fX12_parsed_32 fu x1 x2 (0 : Int32) S_2
        else
          fX12_parsed_27 fu x1 x2 S_2
theorem mvX12_parsed : MV yX12_parsed cX12_parsed 3 (some .int) RX12 2 := ⟨gw8_151, gw8_149, gw8_150, gw1_13, by decide +kernel⟩
def rmX12_parsed : Room := { frames := 1, cells := 0, slots := 0, locals := 22 }
set_option maxHeartbeats 4000000 in
set_option maxRecDepth 100000 in
theorem m_X12_parsed (l : Launch) (D : va_G) (cA : FieldType → ClassId) (ad : Nat → Nat) (base : Nat) (fu : Nat) {S S' : St} {x1 : Int32} {x2 : Int32} {r : Int32} (hf : fX12_parsed fu x1 x2 S = some (S', r)) : Met l yX12_parsed (GC yX12_parsed cX12_parsed 3 (some .int)) rmX12_parsed (va_Pc [.ref (ad 63), .int x1, .int x2] (wd D cA ad base S)) (QI D cA ad base S' r) 0 0 (aB base) := by
  refine Met.ofW (cc := cX12_parsed) (maxL := 3) (ret := (some .int)) (by decide) rfl ?_
  intro p e s m args below meth c s₁ B hml hv
  obtain ⟨hargs, hwd⟩ := hv
  have hr := B.returns
  have hlocks := B.notSynchronized
  obtain ⟨C, hw⟩ := CX.of (own := RX12) rfl B hml hwd
  have hx := C.1
  have hb := C.2.1
  have hl := lv_entry ([.ref (ad 63), .int x1, .int x2]) (n := 3) (Nat.le_of_ble_eq_true rfl)
  rw [show entryFrame m args 3 = entryFrame m ([.ref (ad 63), .int x1, .int x2] : List Value).toArray 3 from by rw [hargs], lg_entry_eq]
  generalize (lg_sl ([.ref (ad 63), .int x1, .int x2]) ++ List.replicate (3 - (lg_sl ([.ref (ad 63), .int x1, .int x2])).length) Slot.unset).toArray = ls at hl ⊢
  have hl : lv_has ls 3 [(0, .ref (ad 63)), (1, .int x1), (2, .int x2)] := hl
  have J_32 : ∀ (x1 : Int32) (x2 : Int32) (t0 : Int32) (S : St) (H : Heap) (locs : List Loc) (ls : Array Slot), fX12_parsed_32 fu x1 x2 t0 S = some (S', r) → lv_has ls 3 [(0, .ref (ad 63)), (1, .int x1), (2, .int x2)] → WS D cA ad base s S H locs → W p l e rmX12_parsed s m args below meth c H locs 0 0 (MQ below (QI D cA ad base S' r) args s 0 0 (aB base)) (F0 m 32 ls [.int t0, .ref (ad 63)]) := by
    intro x1 x2 t0 S H locs ls hf hl hw
    refine lv_iconst (v := (1 : Int32)) hx hb dX12_parsed_32 (by decide) ?_
    obtain ⟨S_33, r_33, h_33, hf⟩ := bd_some hf
    refine r_bi hw (r_runV (rest := []) C hw (m_X12_throwsIf l D cA ad base fu h_33) mvX12_throwsIf gw7_193 ⟨rfl, rfl, Nat.le_of_ble_eq_true rfl, Nat.le_of_ble_eq_true rfl⟩ dq_63 ln_63 vc_12 rfl hl.1 rfl (Nat.le_of_ble_eq_true rfl) dX12_parsed_33 (Nat.zero_le _) (Nat.zero_le _)) (fun H locs hw => ?_)
    refine lv_if_eq (tgt := 43) hx hb dX12_parsed_36 (by decide) (fun c_36 => ?_) (fun c_36 => ?_)
    · have hf := if_t hf c_36
      refine lv_aload_n hx hb dX12_parsed_43 rfl (lv_at hl 0 rfl) ?_
      refine r_getR C hw (k := 43) (r := 90) dq_63 ln_63 rfl vc_12 inX12 (by decide) rfl gw6_224 dX12_parsed_44 ?_
      refine lv_iconst (v := (5 : Int32)) hx hb dX12_parsed_47 (by decide) ?_
      refine lv_iload_n hx hb dX12_parsed_48 rfl (lv_at hl 1 rfl) ?_
      refine lv_imul hx hb dX12_parsed_49 ?_
      refine lv_iload_n hx hb dX12_parsed_50 rfl (lv_at hl 2 rfl) ?_
      refine lv_iadd hx hb dX12_parsed_51 ?_
      obtain ⟨z_52, hf⟩ := gd_some hf
      refine r_iald C hw (x := 90) dq_90 ln_90 z_52 dX12_parsed_52 ?_
      exact r_iret C hw hr hlocks hf dX12_parsed_53
    · have hf := if_f hf c_36
      refine lv_iconst (v := (0 : Int32)) hx hb dX12_parsed_39 (by decide) ?_
      refine lv_goto (tgt := 53) hx hb dX12_parsed_40 (by decide) ?_
      exact r_iret C hw hr hlocks hf dX12_parsed_53
  have J_27 : ∀ (x1 : Int32) (x2 : Int32) (S : St) (H : Heap) (locs : List Loc) (ls : Array Slot), fX12_parsed_27 fu x1 x2 S = some (S', r) → lv_has ls 3 [(0, .ref (ad 63)), (1, .int x1), (2, .int x2)] → WS D cA ad base s S H locs → W p l e rmX12_parsed s m args below meth c H locs 0 0 (MQ below (QI D cA ad base S' r) args s 0 0 (aB base)) (F0 m 27 ls [.ref (ad 63)]) := by
    intro x1 x2 S H locs ls hf hl hw
    refine lv_iconst (v := (1 : Int32)) hx hb dX12_parsed_27 (by decide) ?_
    refine lv_goto (tgt := 32) hx hb dX12_parsed_28 (by decide) ?_
    exact J_32 _ _ _ _ _ _ _ hf (lv_sub hl [0, 1, 2] rfl) hw
  show W p l e rmX12_parsed s m args below meth c s.heap [] 0 0 _ _
  refine lv_aload_n hx hb dX12_parsed_0 rfl (lv_at hl 0 rfl) ?_
  refine lv_iconst (v := (0 : Int32)) hx hb dX12_parsed_1 (by decide) ?_
  obtain ⟨S_2, e_2, hf⟩ := sI_some hf
  refine r_putI C hw (k := 0) (ty0 := tyX12) dq_63 ln_63 rfl vc_12 inX12 tyX12_ok nmX12 (by decide) rfl rfl gw6_181 rfl rfl dX12_parsed_2 e_2 (fun H locs hw => ?_)
  refine lv_aload_n hx hb dX12_parsed_5 rfl (lv_at hl 0 rfl) ?_
  refine lv_iload_n hx hb dX12_parsed_6 rfl (lv_at hl 1 rfl) ?_
  refine lv_if_lt (tgt := 27) hx hb dX12_parsed_7 (by decide) (fun c_7 => ?_) (fun c_7 => ?_)
  · have hf := if_t hf c_7
    exact J_27 _ _ _ _ _ _ hf (lv_sub hl [0, 1, 2] rfl) hw
  · have hf := if_f hf c_7
    refine lv_iload_n hx hb dX12_parsed_10 rfl (lv_at hl 1 rfl) ?_
    refine lv_aload_n hx hb dX12_parsed_11 rfl (lv_at hl 0 rfl) ?_
    refine r_getI C hw (k := 44) dq_63 ln_63 rfl vc_12 inX12 (by decide) rfl gw6_225 dX12_parsed_12 ?_
    refine lv_icmp_ge (tgt := 27) hx hb dX12_parsed_15 (by decide) (fun c_15 => ?_) (fun c_15 => ?_)
    · have hf := if_t hf c_15
      exact J_27 _ _ _ _ _ _ hf (lv_sub hl [0, 1, 2] rfl) hw
    · have hf := if_f hf c_15
      refine lv_iload_n hx hb dX12_parsed_18 rfl (lv_at hl 2 rfl) ?_
      refine lv_if_lt (tgt := 27) hx hb dX12_parsed_19 (by decide) (fun c_19 => ?_) (fun c_19 => ?_)
      · have hf := if_t hf c_19
        exact J_27 _ _ _ _ _ _ hf (lv_sub hl [0, 1, 2] rfl) hw
      · have hf := if_f hf c_19
        refine lv_iload_n hx hb dX12_parsed_22 rfl (lv_at hl 2 rfl) ?_
        refine lv_iconst (v := (4 : Int32)) hx hb dX12_parsed_23 (by decide) ?_
        refine lv_icmp_le (tgt := 31) hx hb dX12_parsed_24 (by decide) (fun c_24 => ?_) (fun c_24 => ?_)
        · have hf := if_t hf c_24
          refine lv_iconst (v := (0 : Int32)) hx hb dX12_parsed_31 (by decide) ?_
          exact J_32 _ _ _ _ _ _ _ hf (lv_sub hl [0, 1, 2] rfl) hw
        · have hf := if_f hf c_24
          exact J_27 _ _ _ _ _ _ hf (lv_sub hl [0, 1, 2] rfl) hw
