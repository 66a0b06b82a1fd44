theorem s_fX12_noServer (fu : Nat) (hfu : 1000000000000000000 ≤ fu) (x1 : Int32) (S : St) (I_S : Inv S) : Sp (fX12_noServer fu x1 S) S (fun r => ((r.toInt = 0 ∧ 0 ≤ (x1).toInt ∧ (x1).toInt < (S.1 63 23).toInt ∨ r.toInt = 1))) := by
  unfold fX12_noServer
  have h1 := i32 x1
  refine Sp.i (fun c_h2 => ?_) (fun c_h2 => ?_)
  · have h3 := lt_iv rfl li_0 c_h2
    unfold fX12_noServer_12
    have h4 := b_63_23 I_S
    have h5 : ((1 : Int32)).toInt = 1 := li_1
    exact Sp.so (by omega)
  · have h6 := nlt_iv rfl li_0 c_h2
    have h7 := b_63_23 I_S
    refine Sp.i (fun c_h8 => ?_) (fun c_h8 => ?_)
    · have h9 := lt_iv rfl rfl c_h8
      have h10 := b_63_23 I_S
      have h11 : ((0 : Int32)).toInt = 0 := li_0
      exact Sp.so (by omega)
    · have h12 := nlt_iv rfl rfl c_h8
      unfold fX12_noServer_12
      have h13 := b_63_23 I_S
      have h14 : ((1 : Int32)).toInt = 1 := li_1
      exact Sp.so (by omega)
theorem s_fX12_serve (fu : Nat) (hfu : 1000000000000000000 ≤ fu) (x1 : Int32) (x2 : Int32) (x3 : Int32) (S : St) (I_S : Inv S) : Sf (fX12_serve fu x1 x2 x3 S) (fun U r => Inv U ∧ Fr [(63, 1), (80, 0)] S U ∧ (True)) := by
  unfold fX12_serve
  have F_S : Fr [(63, 1), (80, 0)] S S := Fr.refl _ _
  refine Sf.w I_S F_S rfl (i32 _).1 (i32 _).2 (fun S_2 I_S_2 F_S_2 v_S_2 f_S_2 l_S_2 => ?_)
  have h1 := ti_eq (f_S_2 63 14 (fun _ e => absurd e (by decide)))
  have h2 := ti_eq (f_S_2 63 23 (fun _ e => absurd e (by decide)))
  have h3 := i32 x1
  have h4 := b_63_23 I_S_2
  refine Sf.bp (s_fX12_noServer fu hfu x1 S_2 I_S_2) (fun r_8 p_r_8 => ?_)
  have h5 := i32 r_8
  refine Sf.i (fun c_h6 => ?_) (fun c_h6 => ?_)
  · have h7 := eq_iv rfl li_0 c_h6
    have h8 := i32 x2
    have h9 := b_63_14 I_S_2
    refine Sf.bp (s_fX12_noZone fu hfu x2 S_2 I_S_2) (fun r_16 p_r_16 => ?_)
    have h10 := i32 r_16
    refine Sf.i (fun c_h11 => ?_) (fun c_h11 => ?_)
    · have h12 := eq_iv rfl li_0 c_h11
      unfold fX12_serve_27
      have h13 : ((0 : Int32)).toInt = 0 := li_0
      have h14 : ((1 : Int32)).toInt = 1 := li_1
      refine Sf.b (s_fX12_throwsIf fu hfu (0 : Int32) (1 : Int32) S_2 I_S_2 (by omega) (by omega)) (fun S_28 r_28 p_r_28 => ?_)
      obtain ⟨I_S_28, G_S_28, p_r_28⟩ := p_r_28
      have F_S_28 := Fr.tr F_S_2 G_S_28 rfl
      have h15 := ti_eq (G_S_28 63 14 rfl)
      have h16 := ti_eq (G_S_28 63 23 rfl)
      have h17 := i32 r_28
      refine Sf.i (fun c_h18 => ?_) (fun c_h18 => ?_)
      · have h19 := eq_iv rfl li_0 c_h18
        try have h20 : (((12 : Int32) * x1)).toInt = (12) * (x1).toInt := mul_iv li_12 rfl (by omega) (by omega)
        try have h21 : ((((12 : Int32) * x1) + x2)).toInt = (((12 : Int32) * x1)).toInt + (x2).toInt := add_iv rfl rfl (by omega) (by omega)
        refine Sf.g (ck_iv (by omega) (by omega)) ?_
        refine Sf.g (ck_iv (by omega) (by omega)) ?_
        have h22 := vpb x3
        refine Sf.w I_S_28 F_S_28 rfl (show ((0) : Int) ≤ ((vp_nar .boolean x3)).toInt by omega) (show ((vp_nar .boolean x3)).toInt ≤ (1 : Int) by omega) (fun S_60 I_S_60 F_S_60 v_S_60 f_S_60 l_S_60 => ?_)
        have h23 := ti_eq (f_S_60 63 14 (fun e => absurd e (by decide)))
        have h24 := ti_eq (f_S_60 63 23 (fun e => absurd e (by decide)))
        have h25 : (S_60.1 80 (((((12 : Int32) * x1) + x2)).toNatClampNeg)).toInt = ((vp_nar .boolean x3)).toInt := eq_iv rfl rfl v_S_60
        have h26 := a_80 I_S_28 (((((12 : Int32) * x1) + x2)).toNatClampNeg)
        have h27 := i32 x3
        refine Sf.i (fun c_h28 => ?_) (fun c_h28 => ?_)
        · have h29 := eq_iv rfl rfl c_h28
          exact Sf.so ⟨I_S_60, F_S_60, trivial⟩
        · have h30 := neq_iv rfl rfl c_h28
          exact Sf.so ⟨I_S_60, F_S_60, trivial⟩
      · have h31 := neq_iv rfl li_0 c_h18
        exact Sf.so ⟨I_S_28, F_S_28, trivial⟩
    · have h32 := neq_iv rfl li_0 c_h11
      unfold fX12_serve_22
      unfold fX12_serve_27
      have h33 : ((1 : Int32)).toInt = 1 := li_1
      refine Sf.b (s_fX12_throwsIf fu hfu (1 : Int32) (1 : Int32) S_2 I_S_2 (by omega) (by omega)) (fun S_28 r_28 p_r_28 => ?_)
      obtain ⟨I_S_28, G_S_28, p_r_28⟩ := p_r_28
      have F_S_28 := Fr.tr F_S_2 G_S_28 rfl
      have h34 := ti_eq (G_S_28 63 14 rfl)
      have h35 := ti_eq (G_S_28 63 23 rfl)
      have h36 := i32 r_28
      refine Sf.i (fun c_h37 => ?_) (fun c_h37 => ?_)
      · have h38 := eq_iv rfl li_0 c_h37
        try have h39 : (((12 : Int32) * x1)).toInt = (12) * (x1).toInt := mul_iv li_12 rfl (by omega) (by omega)
        try have h40 : ((((12 : Int32) * x1) + x2)).toInt = (((12 : Int32) * x1)).toInt + (x2).toInt := add_iv rfl rfl (by omega) (by omega)
        refine Sf.g (ck_iv (by omega) (by omega)) ?_
        refine Sf.g (ck_iv (by omega) (by omega)) ?_
        have h41 := vpb x3
        refine Sf.w I_S_28 F_S_28 rfl (show ((0) : Int) ≤ ((vp_nar .boolean x3)).toInt by omega) (show ((vp_nar .boolean x3)).toInt ≤ (1 : Int) by omega) (fun S_60 I_S_60 F_S_60 v_S_60 f_S_60 l_S_60 => ?_)
        have h42 := ti_eq (f_S_60 63 14 (fun e => absurd e (by decide)))
        have h43 := ti_eq (f_S_60 63 23 (fun e => absurd e (by decide)))
        have h44 : (S_60.1 80 (((((12 : Int32) * x1) + x2)).toNatClampNeg)).toInt = ((vp_nar .boolean x3)).toInt := eq_iv rfl rfl v_S_60
        have h45 := a_80 I_S_28 (((((12 : Int32) * x1) + x2)).toNatClampNeg)
        have h46 := i32 x3
        refine Sf.i (fun c_h47 => ?_) (fun c_h47 => ?_)
        · have h48 := eq_iv rfl rfl c_h47
          exact Sf.so ⟨I_S_60, F_S_60, trivial⟩
        · have h49 := neq_iv rfl rfl c_h47
          exact Sf.so ⟨I_S_60, F_S_60, trivial⟩
      · have h50 := neq_iv rfl li_0 c_h37
        exact Sf.so ⟨I_S_28, F_S_28, trivial⟩
  · have h51 := neq_iv rfl li_0 c_h6
    unfold fX12_serve_22
    unfold fX12_serve_27
    have h52 : ((1 : Int32)).toInt = 1 := li_1
    refine Sf.b (s_fX12_throwsIf fu hfu (1 : Int32) (1 : Int32) S_2 I_S_2 (by omega) (by omega)) (fun S_28 r_28 p_r_28 => ?_)
    obtain ⟨I_S_28, G_S_28, p_r_28⟩ := p_r_28
    have F_S_28 := Fr.tr F_S_2 G_S_28 rfl
    have h53 := ti_eq (G_S_28 63 14 rfl)
    have h54 := ti_eq (G_S_28 63 23 rfl)
    have h55 := i32 r_28
    refine Sf.i (fun c_h56 => ?_) (fun c_h56 => ?_)
    · have h57 := eq_iv rfl li_0 c_h56
      have h58 := i32 x2
      try have h59 : (((12 : Int32) * x1)).toInt = (12) * (x1).toInt := mul_iv li_12 rfl (by omega) (by omega)
      try have h60 : ((((12 : Int32) * x1) + x2)).toInt = (((12 : Int32) * x1)).toInt + (x2).toInt := add_iv rfl rfl (by omega) (by omega)
      refine Sf.g (ck_iv (by omega) (by omega)) ?_
      refine Sf.g (ck_iv (by omega) (by omega)) ?_
      have h61 := vpb x3
      refine Sf.w I_S_28 F_S_28 rfl (show ((0) : Int) ≤ ((vp_nar .boolean x3)).toInt by omega) (show ((vp_nar .boolean x3)).toInt ≤ (1 : Int) by omega) (fun S_60 I_S_60 F_S_60 v_S_60 f_S_60 l_S_60 => ?_)
      have h62 := ti_eq (f_S_60 63 14 (fun e => absurd e (by decide)))
      have h63 := ti_eq (f_S_60 63 23 (fun e => absurd e (by decide)))
      have h64 : (S_60.1 80 (((((12 : Int32) * x1) + x2)).toNatClampNeg)).toInt = ((vp_nar .boolean x3)).toInt := eq_iv rfl rfl v_S_60
      have h65 := a_80 I_S_28 (((((12 : Int32) * x1) + x2)).toNatClampNeg)
      have h66 := i32 x3
      refine Sf.i (fun c_h67 => ?_) (fun c_h67 => ?_)
      · have h68 := eq_iv rfl rfl c_h67
        exact Sf.so ⟨I_S_60, F_S_60, trivial⟩
      · have h69 := neq_iv rfl rfl c_h67
        exact Sf.so ⟨I_S_60, F_S_60, trivial⟩
    · have h70 := neq_iv rfl li_0 c_h56
      exact Sf.so ⟨I_S_28, F_S_28, trivial⟩
theorem s_fX12_hint (fu : Nat) (hfu : 1000000000000000000 ≤ fu) (x1 : Int32) (S : St) (I_S : Inv S) : Sf (fX12_hint fu x1 S) (fun U r => Inv U ∧ Fr [(63, 1), (63, 26), (81, 0)] S U ∧ (True)) := by
  unfold fX12_hint
  have F_S : Fr [(63, 1), (63, 26), (81, 0)] S S := Fr.refl _ _
  refine Sf.w I_S F_S rfl (i32 _).1 (i32 _).2 (fun S_2 I_S_2 F_S_2 v_S_2 f_S_2 l_S_2 => ?_)
  have h1 := ti_eq (f_S_2 63 25 (fun _ e => absurd e (by decide)))
  have h2 := b_63_25 I_S_2
  refine Sf.i (fun c_h3 => ?_) (fun c_h3 => ?_)
  · have h4 := eq_iv rfl li_4 c_h3
    exact Sf.so ⟨I_S_2, F_S_2, trivial⟩
  · have h5 := neq_iv rfl li_4 c_h3
    refine Sf.g (ck_iv (by omega) (by omega)) ?_
    have h6 := i32 x1
    refine Sf.w I_S_2 F_S_2 rfl (i32 _).1 (i32 _).2 (fun S_24 I_S_24 F_S_24 v_S_24 f_S_24 l_S_24 => ?_)
    have h7 := ti_eq (f_S_24 63 25 (fun e => absurd e (by decide)))
    have h8 : (S_24.1 81 (((S_2.1 63 25)).toNatClampNeg)).toInt = (x1).toInt := eq_iv rfl rfl v_S_24
    have h9 : (S_24.1 81 (((S_24.1 63 25)).toNatClampNeg)).toInt = (x1).toInt := by rw [f_S_24 63 25 (fun e => absurd e (by decide))]; exact eq_iv rfl rfl v_S_24
    have h10 := b_63_25 I_S_24
    try have h11 : (((S_24.1 63 25) + (1 : Int32))).toInt = ((S_24.1 63 25)).toInt + (1) := add_iv rfl li_1 (by omega) (by omega)
    refine Sf.w I_S_24 F_S_24 rfl (show ((0) : Int) ≤ (((S_24.1 63 25) + (1 : Int32))).toInt by omega) (show (((S_24.1 63 25) + (1 : Int32))).toInt ≤ (4 : Int) by omega) (fun S_32 I_S_32 F_S_32 v_S_32 f_S_32 l_S_32 => ?_)
    have h12 := eq_iv rfl rfl v_S_32
    have h13 : (S_32.1 81 (((S_2.1 63 25)).toNatClampNeg)).toInt = (S_24.1 81 (((S_2.1 63 25)).toNatClampNeg)).toInt := ti_eq (f_S_32 81 (((S_2.1 63 25)).toNatClampNeg) (fun e => absurd e (by decide)))
    have h14 : (S_32.1 81 (((S_24.1 63 25)).toNatClampNeg)).toInt = (S_24.1 81 (((S_24.1 63 25)).toNatClampNeg)).toInt := ti_eq (f_S_32 81 (((S_24.1 63 25)).toNatClampNeg) (fun e => absurd e (by decide)))
    exact Sf.so ⟨I_S_32, F_S_32, trivial⟩
theorem s_fX12_tick (fu : Nat) (hfu : 1000000000000000000 ≤ fu) (x1 : Int32) (S : St) (I_S : Inv S) : Sf (fX12_tick fu x1 S) (fun U r => Inv U ∧ Fr [(63, 1), (63, 52)] S U ∧ (True)) := by
  unfold fX12_tick
  have F_S : Fr [(63, 1), (63, 52)] S S := Fr.refl _ _
  refine Sf.w I_S F_S rfl (i32 _).1 (i32 _).2 (fun S_2 I_S_2 F_S_2 v_S_2 f_S_2 l_S_2 => ?_)
  have h1 := ti_eq (f_S_2 63 51 (fun _ e => absurd e (by decide)))
  have h2 := i32 x1
  refine Sf.i (fun c_h3 => ?_) (fun c_h3 => ?_)
  · have h4 := lt_iv rfl li_0 c_h3
    unfold fX12_tick_16
    unfold fX12_tick_21
    have h5 : ((1 : Int32)).toInt = 1 := li_1
    refine Sf.b (s_fX12_throwsIf fu hfu (1 : Int32) (1 : Int32) S_2 I_S_2 (by omega) (by omega)) (fun S_22 r_22 p_r_22 => ?_)
    obtain ⟨I_S_22, G_S_22, p_r_22⟩ := p_r_22
    have F_S_22 := Fr.tr F_S_2 G_S_22 rfl
    have h6 := ti_eq (G_S_22 63 51 rfl)
    have h7 := i32 r_22
    refine Sf.i (fun c_h8 => ?_) (fun c_h8 => ?_)
    · have h9 := eq_iv rfl li_0 c_h8
      try have h10 : (((S_22.1 63 51) + x1)).toInt = ((S_22.1 63 51)).toInt + (x1).toInt := add_iv rfl rfl (by omega) (by omega)
      refine Sf.w I_S_22 F_S_22 rfl (i32 _).1 (i32 _).2 (fun S_37 I_S_37 F_S_37 v_S_37 f_S_37 l_S_37 => ?_)
      have h11 := eq_iv rfl rfl v_S_37
      exact Sf.so ⟨I_S_37, F_S_37, trivial⟩
    · have h12 := neq_iv rfl li_0 c_h8
      exact Sf.so ⟨I_S_22, F_S_22, trivial⟩
  · have h13 := nlt_iv rfl li_0 c_h3
    refine Sf.i (fun c_h14 => ?_) (fun c_h14 => ?_)
    · have h15 := le_iv rfl li_100000 c_h14
      unfold fX12_tick_21
      have h16 : ((0 : Int32)).toInt = 0 := li_0
      have h17 : ((1 : Int32)).toInt = 1 := li_1
      refine Sf.b (s_fX12_throwsIf fu hfu (0 : Int32) (1 : Int32) S_2 I_S_2 (by omega) (by omega)) (fun S_22 r_22 p_r_22 => ?_)
      obtain ⟨I_S_22, G_S_22, p_r_22⟩ := p_r_22
      have F_S_22 := Fr.tr F_S_2 G_S_22 rfl
      have h18 := ti_eq (G_S_22 63 51 rfl)
      have h19 := i32 r_22
      refine Sf.i (fun c_h20 => ?_) (fun c_h20 => ?_)
      · have h21 := eq_iv rfl li_0 c_h20
        try have h22 : (((S_22.1 63 51) + x1)).toInt = ((S_22.1 63 51)).toInt + (x1).toInt := add_iv rfl rfl (by omega) (by omega)
        refine Sf.w I_S_22 F_S_22 rfl (i32 _).1 (i32 _).2 (fun S_37 I_S_37 F_S_37 v_S_37 f_S_37 l_S_37 => ?_)
        have h23 := eq_iv rfl rfl v_S_37
        exact Sf.so ⟨I_S_37, F_S_37, trivial⟩
      · have h24 := neq_iv rfl li_0 c_h20
        exact Sf.so ⟨I_S_22, F_S_22, trivial⟩
    · have h25 := nle_iv rfl li_100000 c_h14
      unfold fX12_tick_16
      unfold fX12_tick_21
      have h26 : ((1 : Int32)).toInt = 1 := li_1
      refine Sf.b (s_fX12_throwsIf fu hfu (1 : Int32) (1 : Int32) S_2 I_S_2 (by omega) (by omega)) (fun S_22 r_22 p_r_22 => ?_)
      obtain ⟨I_S_22, G_S_22, p_r_22⟩ := p_r_22
      have F_S_22 := Fr.tr F_S_2 G_S_22 rfl
      have h27 := ti_eq (G_S_22 63 51 rfl)
      have h28 := i32 r_22
      refine Sf.i (fun c_h29 => ?_) (fun c_h29 => ?_)
      · have h30 := eq_iv rfl li_0 c_h29
        try have h31 : (((S_22.1 63 51) + x1)).toInt = ((S_22.1 63 51)).toInt + (x1).toInt := add_iv rfl rfl (by omega) (by omega)
        refine Sf.w I_S_22 F_S_22 rfl (i32 _).1 (i32 _).2 (fun S_37 I_S_37 F_S_37 v_S_37 f_S_37 l_S_37 => ?_)
        have h32 := eq_iv rfl rfl v_S_37
        exact Sf.so ⟨I_S_37, F_S_37, trivial⟩
      · have h33 := neq_iv rfl li_0 c_h29
        exact Sf.so ⟨I_S_22, F_S_22, trivial⟩
theorem s_fX12_zoneFor_5 (fu : Nat) (hfu : 1000000000000000000 ≤ fu) : ∀ (n : Nat) (x1 : Int32) (x2 : Int32) (x3 : Int32) (x4 : Int32) (S : St), Inv S → (0 ≤ (x1).toInt) → ((x1).toInt < 12) → (0 ≤ (x2).toInt) → ((x2).toInt ≤ 299) → (-1 ≤ (x3).toInt) → ((x3).toInt < (S.1 63 14).toInt) → (0 ≤ (x4).toInt) → (12 - (x4).toInt).toNat < n → Sp (fX12_zoneFor_5 fu n x1 x2 x3 x4 S) S (fun r => (-1 ≤ r.toInt) ∧ (r.toInt < (S.1 63 14).toInt)) := by
  intro n
  induction n with
  | zero => intro x1 x2 x3 x4 S I_S g0 g1 g2 g3 g4 g5 g6 hm; exact absurd hm (Nat.not_lt_zero _)
  | succ n ih =>
    intro x1 x2 x3 x4 S I_S g0 g1 g2 g3 g4 g5 g6 hm
    rw [fX12_zoneFor_5_s]
    have h1 := b_63_14 I_S
    have h2 := b_63_14 I_S
    have h3 := i32 x4
    refine Sp.i (fun c_h4 => ?_) (fun c_h4 => ?_)
    · have h5 := le_iv rfl rfl c_h4
      have h6 := i32 x3
      have h7 := b_63_14 I_S
      exact Sp.so (by omega)
    · have h8 := nle_iv rfl rfl c_h4
      have h9 := i32 x1
      try have h10 : (((12 : Int32) * x1)).toInt = (12) * (x1).toInt := mul_iv li_12 rfl (by omega) (by omega)
      try have h11 : ((((12 : Int32) * x1) + x4)).toInt = (((12 : Int32) * x1)).toInt + (x4).toInt := add_iv rfl rfl (by omega) (by omega)
      refine Sp.g (ck_iv (by omega) (by omega)) ?_
      have h12 := a_80 I_S (((((12 : Int32) * x1) + x4)).toNatClampNeg)
      refine Sp.i (fun c_h13 => ?_) (fun c_h13 => ?_)
      · have h14 := eq_iv rfl li_0 c_h13
        unfold fX12_zoneFor_77
        have h15 := i32 x2
        have h16 := i32 x3
        try have h17 : ((x4 + (1 : Int32))).toInt = (x4).toInt + (1) := add_iv rfl li_1 (by omega) (by omega)
        refine Sp.mono (ih x1 x2 x3 (x4 + (1 : Int32)) S I_S (by omega) (by omega) (by omega) (by omega) (by omega) (by omega) (by omega) (by omega)) (fun r p_h18 => ?_)
        exact by omega
      · have h19 := neq_iv rfl li_0 c_h13
        refine Sp.g (ck_iv (by omega) (by omega)) ?_
        have h20 := i32 x2
        have h21 := a_72 I_S ((x4).toNatClampNeg)
        refine Sp.b (s_fX12_isIn fu hfu x2 (S.1 72 ((x4).toNatClampNeg)) S I_S (by omega) (by omega) (by omega) (by omega)) (fun r_38 p_r_38 => ?_)
        have h22 := i32 r_38
        refine Sp.i (fun c_h23 => ?_) (fun c_h23 => ?_)
        · have h24 := eq_iv rfl li_0 c_h23
          unfold fX12_zoneFor_77
          have h25 := i32 x3
          try have h26 : ((x4 + (1 : Int32))).toInt = (x4).toInt + (1) := add_iv rfl li_1 (by omega) (by omega)
          refine Sp.mono (ih x1 x2 x3 (x4 + (1 : Int32)) S I_S (by omega) (by omega) (by omega) (by omega) (by omega) (by omega) (by omega) (by omega)) (fun r p_h27 => ?_)
          exact by omega
        · have h28 := neq_iv rfl li_0 c_h23
          have h29 := i32 x3
          refine Sp.i (fun c_h30 => ?_) (fun c_h30 => ?_)
          · have h31 := lt_iv rfl li_0 c_h30
            unfold fX12_zoneFor_74
            unfold fX12_zoneFor_77
            try have h32 : ((x4 + (1 : Int32))).toInt = (x4).toInt + (1) := add_iv rfl li_1 (by omega) (by omega)
            refine Sp.mono (ih x1 x2 x4 (x4 + (1 : Int32)) S I_S (by omega) (by omega) (by omega) (by omega) (by omega) (by omega) (by omega) (by omega)) (fun r p_h33 => ?_)
            exact by omega
          · have h34 := nlt_iv rfl li_0 c_h30
            refine Sp.g (ck_iv (by omega) (by omega)) ?_
            refine Sp.g (ck_iv (by omega) (by omega)) ?_
            refine Sp.g (ck_iv (by omega) (by omega)) ?_
            have h35 := a_72 I_S ((x3).toNatClampNeg)
            refine Sp.g (ck_iv (by omega) (by omega)) ?_
            try have h36 := cl_iv (x := (S.1 72 ((x3).toNatClampNeg))) (by omega)
            have h37 := a_67 I_S (((S.1 72 ((x3).toNatClampNeg))).toNatClampNeg)
            try have h38 := cl_iv (x := (S.1 72 ((x4).toNatClampNeg))) (by omega)
            have h39 := a_67 I_S (((S.1 72 ((x4).toNatClampNeg))).toNatClampNeg)
            refine Sp.i (fun c_h40 => ?_) (fun c_h40 => ?_)
            · have h41 := le_iv rfl rfl c_h40
              unfold fX12_zoneFor_77
              try have h42 : ((x4 + (1 : Int32))).toInt = (x4).toInt + (1) := add_iv rfl li_1 (by omega) (by omega)
              refine Sp.mono (ih x1 x2 x3 (x4 + (1 : Int32)) S I_S (by omega) (by omega) (by omega) (by omega) (by omega) (by omega) (by omega) (by omega)) (fun r p_h43 => ?_)
              exact by omega
            · have h44 := nle_iv rfl rfl c_h40
              unfold fX12_zoneFor_74
              unfold fX12_zoneFor_77
              try have h45 : ((x4 + (1 : Int32))).toInt = (x4).toInt + (1) := add_iv rfl li_1 (by omega) (by omega)
              refine Sp.mono (ih x1 x2 x4 (x4 + (1 : Int32)) S I_S (by omega) (by omega) (by omega) (by omega) (by omega) (by omega) (by omega) (by omega)) (fun r p_h46 => ?_)
              exact by omega
theorem s_fX12_zoneFor (fu : Nat) (hfu : 1000000000000000000 ≤ fu) (x1 : Int32) (x2 : Int32) (S : St) (I_S : Inv S) (g0 : 0 ≤ (x1).toInt) (g1 : (x1).toInt < 12) (g2 : 0 ≤ (x2).toInt) (g3 : (x2).toInt ≤ 299) : Sp (fX12_zoneFor fu x1 x2 S) S (fun r => (-1 ≤ r.toInt) ∧ (r.toInt < (S.1 63 14).toInt)) := by
  unfold fX12_zoneFor
  have h1 := i32 x1
  have h2 := i32 x2
  have h3 : ((-1 : Int32)).toInt = -1 := li_m1
  have h4 : ((0 : Int32)).toInt = 0 := li_0
  have h5 := b_63_14 I_S
  refine Sp.mono (s_fX12_zoneFor_5 fu hfu fu x1 x2 (-1 : Int32) (0 : Int32) S I_S (by omega) (by omega) (by omega) (by omega) (by omega) (by omega) (by omega) (by omega)) (fun r p_h6 => ?_)
  exact by omega
theorem s_fX12_cutOf_5 (fu : Nat) (hfu : 1000000000000000000 ≤ fu) : ∀ (n : Nat) (x1 : Int32) (x2 : Int32) (x3 : Int32) (x4 : Int32) (S : St), Inv S → (0 ≤ (x1).toInt) → ((x1).toInt < 12) → (0 ≤ (x2).toInt) → ((x2).toInt ≤ 299) → (-1 ≤ (x3).toInt) → ((x3).toInt ≤ 299) → (0 ≤ (x4).toInt) → (150 - (x4).toInt).toNat < n → Sp (fX12_cutOf_5 fu n x1 x2 x3 x4 S) S (fun r => (-1 ≤ r.toInt) ∧ (r.toInt ≤ 299)) := by
  intro n
  induction n with
  | zero => intro x1 x2 x3 x4 S I_S g0 g1 g2 g3 g4 g5 g6 hm; exact absurd hm (Nat.not_lt_zero _)
  | succ n ih =>
    intro x1 x2 x3 x4 S I_S g0 g1 g2 g3 g4 g5 g6 hm
    rw [fX12_cutOf_5_s]
    have h1 := b_63_20 I_S
    have h2 := i32 x4
    refine Sp.i (fun c_h3 => ?_) (fun c_h3 => ?_)
    · have h4 := le_iv rfl rfl c_h3
      have h5 := i32 x3
      exact Sp.so (by omega)
    · have h6 := nle_iv rfl rfl c_h3
      refine Sp.g (ck_iv (by omega) (by omega)) ?_
      have h7 := a_74 I_S ((x4).toNatClampNeg)
      have h8 := i32 x1
      refine Sp.i (fun c_h9 => ?_) (fun c_h9 => ?_)
      · have h10 := eq_iv rfl rfl c_h9
        refine Sp.g (ck_iv (by omega) (by omega)) ?_
        refine Sp.i (fun c_h11 => ?_) (fun c_h11 => ?_)
        · have h12 := eq_iv rfl li_2 c_h11
          refine Sp.g (ck_iv (by omega) (by omega)) ?_
          refine Sp.g (ck_iv (by omega) (by omega)) ?_
          have h13 := a_72 I_S ((x1).toNatClampNeg)
          have h14 := a_75 I_S ((x4).toNatClampNeg)
          refine Sp.i (fun c_h15 => ?_) (fun c_h15 => ?_)
          · have h16 := eq_iv rfl rfl c_h15
            unfold fX12_cutOf_103
            have h17 := i32 x2
            have h18 := i32 x3
            try have h19 : ((x4 + (1 : Int32))).toInt = (x4).toInt + (1) := add_iv rfl li_1 (by omega) (by omega)
            refine Sp.mono (ih x1 x2 x3 (x4 + (1 : Int32)) S I_S (by omega) (by omega) (by omega) (by omega) (by omega) (by omega) (by omega) (by omega)) (fun r p_h20 => ?_)
            exact by omega
          · have h21 := neq_iv rfl rfl c_h15
            refine Sp.g (ck_iv (by omega) (by omega)) ?_
            have h22 := i32 x2
            refine Sp.b (s_fX12_isIn fu hfu x2 (S.1 75 ((x4).toNatClampNeg)) S I_S (by omega) (by omega) (by omega) (by omega)) (fun r_61 p_r_61 => ?_)
            have h23 := i32 r_61
            refine Sp.i (fun c_h24 => ?_) (fun c_h24 => ?_)
            · have h25 := eq_iv rfl li_0 c_h24
              unfold fX12_cutOf_103
              have h26 := i32 x3
              try have h27 : ((x4 + (1 : Int32))).toInt = (x4).toInt + (1) := add_iv rfl li_1 (by omega) (by omega)
              refine Sp.mono (ih x1 x2 x3 (x4 + (1 : Int32)) S I_S (by omega) (by omega) (by omega) (by omega) (by omega) (by omega) (by omega) (by omega)) (fun r p_h28 => ?_)
              exact by omega
            · have h29 := neq_iv rfl li_0 c_h24
              have h30 := i32 x3
              refine Sp.i (fun c_h31 => ?_) (fun c_h31 => ?_)
              · have h32 := lt_iv rfl li_0 c_h31
                unfold fX12_cutOf_95
                refine Sp.g (ck_iv (by omega) (by omega)) ?_
                unfold fX12_cutOf_103
                try have h33 : ((x4 + (1 : Int32))).toInt = (x4).toInt + (1) := add_iv rfl li_1 (by omega) (by omega)
                refine Sp.mono (ih x1 x2 (S.1 75 ((x4).toNatClampNeg)) (x4 + (1 : Int32)) S I_S (by omega) (by omega) (by omega) (by omega) (by omega) (by omega) (by omega) (by omega)) (fun r p_h34 => ?_)
                exact by omega
              · have h35 := nlt_iv rfl li_0 c_h31
                refine Sp.g (ck_iv (by omega) (by omega)) ?_
                refine Sp.g (ck_iv (by omega) (by omega)) ?_
                refine Sp.g (ck_iv (by omega) (by omega)) ?_
                try have h36 := cl_iv (x := (S.1 75 ((x4).toNatClampNeg))) (by omega)
                have h37 := a_67 I_S (((S.1 75 ((x4).toNatClampNeg))).toNatClampNeg)
                try have h38 := cl_iv (x := x3) (by omega)
                have h39 := a_67 I_S ((x3).toNatClampNeg)
                refine Sp.i (fun c_h40 => ?_) (fun c_h40 => ?_)
                · have h41 := le_iv rfl rfl c_h40
                  unfold fX12_cutOf_103
                  try have h42 : ((x4 + (1 : Int32))).toInt = (x4).toInt + (1) := add_iv rfl li_1 (by omega) (by omega)
                  refine Sp.mono (ih x1 x2 x3 (x4 + (1 : Int32)) S I_S (by omega) (by omega) (by omega) (by omega) (by omega) (by omega) (by omega) (by omega)) (fun r p_h43 => ?_)
                  exact by omega
                · have h44 := nle_iv rfl rfl c_h40
                  unfold fX12_cutOf_95
                  refine Sp.g (ck_iv (by omega) (by omega)) ?_
                  unfold fX12_cutOf_103
                  try have h45 : ((x4 + (1 : Int32))).toInt = (x4).toInt + (1) := add_iv rfl li_1 (by omega) (by omega)
                  refine Sp.mono (ih x1 x2 (S.1 75 ((x4).toNatClampNeg)) (x4 + (1 : Int32)) S I_S (by omega) (by omega) (by omega) (by omega) (by omega) (by omega) (by omega) (by omega)) (fun r p_h46 => ?_)
                  exact by omega
        · have h47 := neq_iv rfl li_2 c_h11
          unfold fX12_cutOf_103
          have h48 := i32 x2
          have h49 := i32 x3
          try have h50 : ((x4 + (1 : Int32))).toInt = (x4).toInt + (1) := add_iv rfl li_1 (by omega) (by omega)
          refine Sp.mono (ih x1 x2 x3 (x4 + (1 : Int32)) S I_S (by omega) (by omega) (by omega) (by omega) (by omega) (by omega) (by omega) (by omega)) (fun r p_h51 => ?_)
          exact by omega
      · have h52 := neq_iv rfl rfl c_h9
        unfold fX12_cutOf_103
        have h53 := i32 x2
        have h54 := i32 x3
        try have h55 : ((x4 + (1 : Int32))).toInt = (x4).toInt + (1) := add_iv rfl li_1 (by omega) (by omega)
        refine Sp.mono (ih x1 x2 x3 (x4 + (1 : Int32)) S I_S (by omega) (by omega) (by omega) (by omega) (by omega) (by omega) (by omega) (by omega)) (fun r p_h56 => ?_)
        exact by omega
theorem s_fX12_cutOf (fu : Nat) (hfu : 1000000000000000000 ≤ fu) (x1 : Int32) (x2 : Int32) (S : St) (I_S : Inv S) (g0 : 0 ≤ (x1).toInt) (g1 : (x1).toInt < 12) (g2 : 0 ≤ (x2).toInt) (g3 : (x2).toInt ≤ 299) : Sp (fX12_cutOf fu x1 x2 S) S (fun r => (-1 ≤ r.toInt) ∧ (r.toInt ≤ 299)) := by
  unfold fX12_cutOf
  have h1 := i32 x1
  have h2 := i32 x2
  have h3 : ((-1 : Int32)).toInt = -1 := li_m1
  have h4 : ((0 : Int32)).toInt = 0 := li_0
  refine Sp.mono (s_fX12_cutOf_5 fu hfu fu x1 x2 (-1 : Int32) (0 : Int32) S I_S (by omega) (by omega) (by omega) (by omega) (by omega) (by omega) (by omega) (by omega)) (fun r p_h5 => ?_)
  exact by omega
