theorem s_fX12_anew_9 (fu : Nat) (hfu : 1000000000000000000 ≤ fu) : ∀ (n : Nat) (x1 : Int32) (x2 : Int32) (S : St), Inv S → (0 ≤ (x1).toInt) → ((x1).toInt < 4) → (0 ≤ (x2).toInt) → (300 - (x2).toInt).toNat < n → Sf (fX12_anew_9 fu n x1 x2 S) (fun U r => Inv U ∧ Fr [(103, 0)] S U ∧ (True) ∧ U.2 = S.2 ∧ (AN (x1).toInt S U)) := by
  intro n
  induction n with
  | zero => intro x1 x2 S I_S g0 g1 g2 hm; exact absurd hm (Nat.not_lt_zero _)
  | succ n ih =>
    intro x1 x2 S I_S g0 g1 g2 hm
    rw [fX12_anew_9_s]
    have F_S : Fr [(103, 0)] S S := Fr.refl _ _
    have L_S : S.2 = S.2 := rfl
    have h1 := i32 x2
    refine Sf.i (fun c_h2 => ?_) (fun c_h2 => ?_)
    · have h3 := le_iv li_300 rfl c_h2
      exact Sf.so ⟨I_S, F_S, trivial, L_S, (by first | exact fun b _ => rfl | exact AN_step f_S_28 (by omega) (by omega) AN_U)⟩
    · have h4 := nle_iv li_300 rfl c_h2
      have h5 := i32 x1
      try have h6 : (((300 : Int32) * x1)).toInt = (300) * (x1).toInt := mul_iv li_300 rfl (by omega) (by omega)
      try have h7 : ((((300 : Int32) * x1) + x2)).toInt = (((300 : Int32) * x1)).toInt + (x2).toInt := add_iv rfl rfl (by omega) (by omega)
      refine Sf.g (ck_iv (by omega) (by omega)) ?_
      have h8 := vpb (0 : Int32)
      refine Sf.w I_S F_S rfl (show ((0) : Int) ≤ ((vp_nar .boolean (0 : Int32))).toInt by omega) (show ((vp_nar .boolean (0 : Int32))).toInt ≤ (1 : Int) by omega) (fun S_28 I_S_28 F_S_28 v_S_28 f_S_28 l_S_28 => ?_)
      have h9 : (S_28.1 103 (((((300 : Int32) * x1) + x2)).toNatClampNeg)).toInt = ((vp_nar .boolean (0 : Int32))).toInt := eq_iv rfl rfl v_S_28
      have L_S_28 := l_S_28.trans L_S
      have hc1 := cl_iv (x := ((300 : Int32) * x1) + x2) (by omega)
      try have h10 : ((x2 + (1 : Int32))).toInt = (x2).toInt + (1) := add_iv rfl li_1 (by omega) (by omega)
      refine Sf.mono (ih x1 (x2 + (1 : Int32)) S_28 I_S_28 (by omega) (by omega) (by omega) (by omega)) (fun U r p_h11 => ?_)
      obtain ⟨I_U, G_U, p_h11, L0_U, AN_U⟩ := p_h11
      have L_U := L0_U.trans L_S_28
      exact ⟨I_U, Fr.tr F_S_28 G_U rfl, trivial, L_U, (by first | exact fun b _ => rfl | exact AN_step f_S_28 (by omega) (by omega) AN_U)⟩
theorem s_fX12_anew (fu : Nat) (hfu : 1000000000000000000 ≤ fu) (x1 : Int32) (S : St) (I_S : Inv S) (TQ_S : TQ S) (g0 : 0 ≤ (x1).toInt) (g1 : (x1).toInt < 4) : Sf (fX12_anew fu x1 S) (fun U r => Inv U ∧ Fr [(102, 0), (103, 0)] S U ∧ (((U.1 102 ((x1).toNatClampNeg)).toInt = 0)) ∧ TQ U ∧ U.2 = S.2 ∧ (AN (x1).toInt S U)) := by
  unfold fX12_anew
  have F_S : Fr [(102, 0), (103, 0)] S S := Fr.refl _ _
  have L_S : S.2 = S.2 := rfl
  have h1 := i32 x1
  refine Sf.g (ck_iv (by omega) (by omega)) ?_
  refine Sf.w I_S F_S rfl (show ((0) : Int) ≤ ((0 : Int32)).toInt by rw [li_0]; omega) (show ((0 : Int32)).toInt ≤ (40 : Int) by rw [li_0]; omega) (fun S_6 I_S_6 F_S_6 v_S_6 f_S_6 l_S_6 => ?_)
  have h2 : (S_6.1 102 ((x1).toNatClampNeg)).toInt = (0) := eq_iv rfl li_0 v_S_6
  have L_S_6 := l_S_6.trans L_S
  have hq := b_63_65 I_S
  have TQ_S_6 : TQ S_6 := TQ_w TQ_S f_S_6 (by omega)
  have h3 : ((0 : Int32)).toInt = 0 := li_0
  refine Sf.mono (s_fX12_anew_9 fu hfu fu x1 (0 : Int32) S_6 I_S_6 (by omega) (by omega) (by omega) (by omega)) (fun U r p_h4 => ?_)
  obtain ⟨I_U, G_U, p_h4, L0_U, AN_U⟩ := p_h4
  have h5 : (U.1 102 ((x1).toNatClampNeg)).toInt = (S_6.1 102 ((x1).toNatClampNeg)).toInt := ti_eq (G_U 102 ((x1).toNatClampNeg) rfl)
  have TQ_U := TQ_fr (U := U) TQ_S_6 (G_U 63 62 rfl) (G_U 63 65 rfl) (fun b => G_U 102 b rfl)
  have L_U := L0_U.trans L_S_6
  exact ⟨I_U, Fr.tr F_S_6 G_U rfl, by omega, TQ_U, L_U, (by exact AN_pre (by decide) f_S_6 AN_U)⟩
theorem s_fX12_isTried_5 (fu : Nat) (hfu : 1000000000000000000 ≤ fu) : ∀ (n : Nat) (x1 : Int32) (x2 : Int32) (x3 : Int32) (x4 : Int32) (S : St), Inv S → (0 ≤ (x1).toInt) → ((x1).toInt < 4) → (0 ≤ (x3).toInt) → ((x3).toInt ≤ 1) → (0 ≤ (x4).toInt) → (41 - (x4).toInt).toNat < n → Sp (fX12_isTried_5 fu n x1 x2 x3 x4 S) S (fun r => (0 ≤ r.toInt) ∧ (r.toInt ≤ 1)) := by
  intro n
  induction n with
  | zero => intro x1 x2 x3 x4 S I_S g0 g1 g2 g3 g4 hm; exact absurd hm (Nat.not_lt_zero _)
  | succ n ih =>
    intro x1 x2 x3 x4 S I_S g0 g1 g2 g3 g4 hm
    rw [fX12_isTried_5_s]
    have h1 := i32 x1
    refine Sp.g (ck_iv (by omega) (by omega)) ?_
    have h2 := a_102 I_S ((x1).toNatClampNeg)
    have h3 := i32 x4
    refine Sp.i (fun c_h4 => ?_) (fun c_h4 => ?_)
    · have h5 := le_iv rfl rfl c_h4
      have h6 := i32 x3
      refine Sp.g (isB_iv (by omega) (by omega)) ?_
      exact Sp.so (by omega)
    · have h7 := nle_iv rfl rfl c_h4
      have h8 := i32 x3
      refine Sp.i (fun c_h9 => ?_) (fun c_h9 => ?_)
      · have h10 := eq_iv rfl li_0 c_h9
        try have h11 : (((64 : Int32) * x1)).toInt = (64) * (x1).toInt := mul_iv li_64 rfl (by omega) (by omega)
        try have h12 : ((((64 : Int32) * x1) + x4)).toInt = (((64 : Int32) * x1)).toInt + (x4).toInt := add_iv rfl rfl (by omega) (by omega)
        refine Sp.g (ck_iv (by omega) (by omega)) ?_
        have h13 := i32 x2
        refine Sp.i (fun c_h14 => ?_) (fun c_h14 => ?_)
        · have h15 := eq_iv rfl rfl c_h14
          unfold fX12_isTried_36
          unfold fX12_isTried_41
          have h16 : ((1 : Int32)).toInt = 1 := li_1
          try have h17 : ((x4 + (1 : Int32))).toInt = (x4).toInt + (1) := add_iv rfl li_1 (by omega) (by omega)
          refine Sp.mono (ih x1 x2 (1 : Int32) (x4 + (1 : Int32)) S I_S (by omega) (by omega) (by omega) (by omega) (by omega) (by omega)) (fun r p_h18 => ?_)
          exact by omega
        · have h19 := neq_iv rfl rfl c_h14
          unfold fX12_isTried_41
          have h20 : ((0 : Int32)).toInt = 0 := li_0
          try have h21 : ((x4 + (1 : Int32))).toInt = (x4).toInt + (1) := add_iv rfl li_1 (by omega) (by omega)
          refine Sp.mono (ih x1 x2 (0 : Int32) (x4 + (1 : Int32)) S I_S (by omega) (by omega) (by omega) (by omega) (by omega) (by omega)) (fun r p_h22 => ?_)
          exact by omega
      · have h23 := neq_iv rfl li_0 c_h9
        unfold fX12_isTried_36
        unfold fX12_isTried_41
        have h24 := i32 x2
        have h25 : ((1 : Int32)).toInt = 1 := li_1
        try have h26 : ((x4 + (1 : Int32))).toInt = (x4).toInt + (1) := add_iv rfl li_1 (by omega) (by omega)
        refine Sp.mono (ih x1 x2 (1 : Int32) (x4 + (1 : Int32)) S I_S (by omega) (by omega) (by omega) (by omega) (by omega) (by omega)) (fun r p_h27 => ?_)
        exact by omega
theorem s_fX12_isTried (fu : Nat) (hfu : 1000000000000000000 ≤ fu) (x1 : Int32) (x2 : Int32) (S : St) (I_S : Inv S) (g0 : 0 ≤ (x1).toInt) (g1 : (x1).toInt < 4) : Sp (fX12_isTried fu x1 x2 S) S (fun r => (0 ≤ r.toInt) ∧ (r.toInt ≤ 1)) := by
  unfold fX12_isTried
  have h1 := i32 x1
  have h2 := i32 x2
  have h3 : ((0 : Int32)).toInt = 0 := li_0
  refine Sp.mono (s_fX12_isTried_5 fu hfu fu x1 x2 (0 : Int32) (0 : Int32) S I_S (by omega) (by omega) (by omega) (by omega) (by omega) (by omega)) (fun r p_h4 => ?_)
  exact by omega
theorem s_fX12_sends (fu : Nat) (hfu : 1000000000000000000 ≤ fu) (x1 : Int32) (x2 : Int32) (S : St) (I_S : Inv S) (TQ_S : TQ S) (g0 : 0 ≤ (x1).toInt) (g1 : (x1).toInt < 4) (g2 : (x1).toInt < (S.1 63 62).toInt) : Sf (fX12_sends fu x1 x2 S) (fun U r => Inv U ∧ Fr [(63, 64), (63, 65), (63, 66), (63, 67), (63, 68), (63, 69), (63, 70), (101, 0), (102, 0)] S U ∧ ((((U.1 63 67).toInt = 1 ∨ (U.1 63 63).toInt = 3))) ∧ TQ U ∧ U.2 = S.2) := by
  unfold fX12_sends
  have F_S : Fr [(63, 64), (63, 65), (63, 66), (63, 67), (63, 68), (63, 69), (63, 70), (101, 0), (102, 0)] S S := Fr.refl _ _
  have L_S : S.2 = S.2 := rfl
  have h1 := b_63_62 I_S
  have hc0 := cl_iv (x := x1) (by omega)
  have hp := TQ_S (x1.toNatClampNeg) (by omega)
  have hq := b_63_65 I_S
  have h2 := b_63_65 I_S
  refine Sf.i (fun c_h3 => ?_) (fun c_h3 => ?_)
  · have h4 := eq_iv rfl li_40 c_h3
    refine Sf.w I_S F_S rfl (i32 _).1 (i32 _).2 (fun S_11 I_S_11 F_S_11 v_S_11 f_S_11 l_S_11 => ?_)
    have h5 := ti_eq (f_S_11 63 62 (fun _ e => absurd e (by decide)))
    have h6 := eq_iv rfl li_3 v_S_11
    have h7 := ti_eq (f_S_11 63 64 (fun _ e => absurd e (by decide)))
    have h8 := ti_eq (f_S_11 63 65 (fun _ e => absurd e (by decide)))
    have h9 := ti_eq (f_S_11 63 66 (fun _ e => absurd e (by decide)))
    have h10 := ti_eq (f_S_11 63 67 (fun _ e => absurd e (by decide)))
    have L_S_11 := l_S_11.trans L_S
    have TQ_S_11 := TQ_fr (U := S_11) TQ_S (f_S_11 63 62 (fun _ e => absurd e (by decide))) (f_S_11 63 65 (fun _ e => absurd e (by decide))) (fun b => f_S_11 102 b (fun e => absurd e (by decide)))
    have h11 := b_63_67 I_S_11
    have h12 : ((0 : Int32)).toInt = 0 := li_0
    exact Sf.so ⟨I_S_11, F_S_11, by omega, TQ_S_11, L_S_11⟩
  · have h13 := neq_iv rfl li_40 c_h3
    have h14 := i32 x1
    refine Sf.g (ck_iv (by omega) (by omega)) ?_
    have h15 := a_102 I_S ((x1).toNatClampNeg)
    try have h16 : (((64 : Int32) * x1)).toInt = (64) * (x1).toInt := mul_iv li_64 rfl (by omega) (by omega)
    try have h17 : ((((64 : Int32) * x1) + (S.1 102 ((x1).toNatClampNeg)))).toInt = (((64 : Int32) * x1)).toInt + ((S.1 102 ((x1).toNatClampNeg))).toInt := add_iv rfl rfl (by omega) (by omega)
    refine Sf.g (ck_iv (by omega) (by omega)) ?_
    have h18 := i32 x2
    refine Sf.w I_S F_S rfl (i32 _).1 (i32 _).2 (fun S_31 I_S_31 F_S_31 v_S_31 f_S_31 l_S_31 => ?_)
    have h19 := ti_eq (f_S_31 63 62 (fun e => absurd e (by decide)))
    have h20 := ti_eq (f_S_31 63 63 (fun e => absurd e (by decide)))
    have h21 := ti_eq (f_S_31 63 64 (fun e => absurd e (by decide)))
    have h22 := ti_eq (f_S_31 63 65 (fun e => absurd e (by decide)))
    have h23 := ti_eq (f_S_31 63 66 (fun e => absurd e (by decide)))
    have h24 := ti_eq (f_S_31 63 67 (fun e => absurd e (by decide)))
    have h25 : (S_31.1 101 (((((64 : Int32) * x1) + (S.1 102 ((x1).toNatClampNeg)))).toNatClampNeg)).toInt = (x2).toInt := eq_iv rfl rfl v_S_31
    have L_S_31 := l_S_31.trans L_S
    have TQ_S_31 := TQ_fr (U := S_31) TQ_S (f_S_31 63 62 (fun e => absurd e (by decide))) (f_S_31 63 65 (fun e => absurd e (by decide))) (fun b => f_S_31 102 b (fun e => absurd e (by decide)))
    have h26 : (S_31.1 102 ((x1).toNatClampNeg)).toInt = (S.1 102 ((x1).toNatClampNeg)).toInt := ti_eq (f_S_31 102 ((x1).toNatClampNeg) (fun e => absurd e (by decide)))
    refine Sf.g (ck_iv (by omega) (by omega)) ?_
    refine Sf.g (ck_iv (by omega) (by omega)) ?_
    try have h27 : (((S_31.1 102 ((x1).toNatClampNeg)) + (1 : Int32))).toInt = ((S_31.1 102 ((x1).toNatClampNeg))).toInt + (1) := add_iv rfl li_1 (by omega) (by omega)
    refine Sf.w I_S_31 F_S_31 rfl (show ((0) : Int) ≤ (((S_31.1 102 ((x1).toNatClampNeg)) + (1 : Int32))).toInt by omega) (show (((S_31.1 102 ((x1).toNatClampNeg)) + (1 : Int32))).toInt ≤ (40 : Int) by omega) (fun S_41 I_S_41 F_S_41 v_S_41 f_S_41 l_S_41 => ?_)
    have h28 := ti_eq (f_S_41 63 62 (fun e => absurd e (by decide)))
    have h29 := ti_eq (f_S_41 63 63 (fun e => absurd e (by decide)))
    have h30 := ti_eq (f_S_41 63 64 (fun e => absurd e (by decide)))
    have h31 := ti_eq (f_S_41 63 65 (fun e => absurd e (by decide)))
    have h32 := ti_eq (f_S_41 63 66 (fun e => absurd e (by decide)))
    have h33 := ti_eq (f_S_41 63 67 (fun e => absurd e (by decide)))
    have h34 : (S_41.1 102 ((x1).toNatClampNeg)).toInt = (((S_31.1 102 ((x1).toNatClampNeg)) + (1 : Int32))).toInt := eq_iv rfl rfl v_S_41
    have L_S_41 := l_S_41.trans L_S_31
    have h35 : (S_41.1 101 (((((64 : Int32) * x1) + (S.1 102 ((x1).toNatClampNeg)))).toNatClampNeg)).toInt = (S_31.1 101 (((((64 : Int32) * x1) + (S.1 102 ((x1).toNatClampNeg)))).toNatClampNeg)).toInt := ti_eq (f_S_41 101 (((((64 : Int32) * x1) + (S.1 102 ((x1).toNatClampNeg)))).toNatClampNeg) (fun e => absurd e (by decide)))
    refine Sf.w I_S_41 F_S_41 rfl (show ((0) : Int) ≤ ((1 : Int32)).toInt by rw [li_1]; omega) (show ((1 : Int32)).toInt ≤ (1 : Int) by rw [li_1]; omega) (fun S_44 I_S_44 F_S_44 v_S_44 f_S_44 l_S_44 => ?_)
    have h36 := ti_eq (f_S_44 63 62 (fun _ e => absurd e (by decide)))
    have h37 := ti_eq (f_S_44 63 63 (fun _ e => absurd e (by decide)))
    have h38 := ti_eq (f_S_44 63 64 (fun _ e => absurd e (by decide)))
    have h39 := ti_eq (f_S_44 63 65 (fun _ e => absurd e (by decide)))
    have h40 := ti_eq (f_S_44 63 66 (fun _ e => absurd e (by decide)))
    have h41 := eq_iv rfl li_1 v_S_44
    have L_S_44 := l_S_44.trans L_S_41
    have h42 : (S_44.1 101 (((((64 : Int32) * x1) + (S.1 102 ((x1).toNatClampNeg)))).toNatClampNeg)).toInt = (S_41.1 101 (((((64 : Int32) * x1) + (S.1 102 ((x1).toNatClampNeg)))).toNatClampNeg)).toInt := ti_eq (f_S_44 101 (((((64 : Int32) * x1) + (S.1 102 ((x1).toNatClampNeg)))).toNatClampNeg) (fun e => absurd e (by decide)))
    have h43 : (S_44.1 102 ((x1).toNatClampNeg)).toInt = (S_41.1 102 ((x1).toNatClampNeg)).toInt := ti_eq (f_S_44 102 ((x1).toNatClampNeg) (fun e => absurd e (by decide)))
    refine Sf.w I_S_44 F_S_44 rfl (i32 _).1 (i32 _).2 (fun S_49 I_S_49 F_S_49 v_S_49 f_S_49 l_S_49 => ?_)
    have h44 := ti_eq (f_S_49 63 62 (fun _ e => absurd e (by decide)))
    have h45 := ti_eq (f_S_49 63 63 (fun _ e => absurd e (by decide)))
    have h46 := ti_eq (f_S_49 63 64 (fun _ e => absurd e (by decide)))
    have h47 := ti_eq (f_S_49 63 65 (fun _ e => absurd e (by decide)))
    have h48 := ti_eq (f_S_49 63 66 (fun _ e => absurd e (by decide)))
    have h49 := ti_eq (f_S_49 63 67 (fun _ e => absurd e (by decide)))
    have L_S_49 := l_S_49.trans L_S_44
    have h50 : (S_49.1 101 (((((64 : Int32) * x1) + (S.1 102 ((x1).toNatClampNeg)))).toNatClampNeg)).toInt = (S_44.1 101 (((((64 : Int32) * x1) + (S.1 102 ((x1).toNatClampNeg)))).toNatClampNeg)).toInt := ti_eq (f_S_49 101 (((((64 : Int32) * x1) + (S.1 102 ((x1).toNatClampNeg)))).toNatClampNeg) (fun e => absurd e (by decide)))
    have h51 : (S_49.1 102 ((x1).toNatClampNeg)).toInt = (S_44.1 102 ((x1).toNatClampNeg)).toInt := ti_eq (f_S_49 102 ((x1).toNatClampNeg) (fun e => absurd e (by decide)))
    refine Sf.w I_S_49 F_S_49 rfl (i32 _).1 (i32 _).2 (fun S_57 I_S_57 F_S_57 v_S_57 f_S_57 l_S_57 => ?_)
    have h52 := ti_eq (f_S_57 63 62 (fun _ e => absurd e (by decide)))
    have h53 := ti_eq (f_S_57 63 63 (fun _ e => absurd e (by decide)))
    have h54 := ti_eq (f_S_57 63 64 (fun _ e => absurd e (by decide)))
    have h55 := ti_eq (f_S_57 63 65 (fun _ e => absurd e (by decide)))
    have h56 := ti_eq (f_S_57 63 66 (fun _ e => absurd e (by decide)))
    have h57 := ti_eq (f_S_57 63 67 (fun _ e => absurd e (by decide)))
    have L_S_57 := l_S_57.trans L_S_49
    have h58 : (S_57.1 101 (((((64 : Int32) * x1) + (S.1 102 ((x1).toNatClampNeg)))).toNatClampNeg)).toInt = (S_49.1 101 (((((64 : Int32) * x1) + (S.1 102 ((x1).toNatClampNeg)))).toNatClampNeg)).toInt := ti_eq (f_S_57 101 (((((64 : Int32) * x1) + (S.1 102 ((x1).toNatClampNeg)))).toNatClampNeg) (fun e => absurd e (by decide)))
    have h59 : (S_57.1 102 ((x1).toNatClampNeg)).toInt = (S_49.1 102 ((x1).toNatClampNeg)).toInt := ti_eq (f_S_57 102 ((x1).toNatClampNeg) (fun e => absurd e (by decide)))
    try have h60 : (((S_57.1 63 64) + (1 : Int32))).toInt = ((S_57.1 63 64)).toInt + (1) := add_iv rfl li_1 (by omega) (by omega)
    have h61 := and_65535 (((S_57.1 63 64) + (1 : Int32)))
    refine Sf.w I_S_57 F_S_57 rfl (i32 _).1 (i32 _).2 (fun S_71 I_S_71 F_S_71 v_S_71 f_S_71 l_S_71 => ?_)
    have h62 := ti_eq (f_S_71 63 62 (fun _ e => absurd e (by decide)))
    have h63 := ti_eq (f_S_71 63 63 (fun _ e => absurd e (by decide)))
    have h64 := eq_iv rfl rfl v_S_71
    have h65 := ti_eq (f_S_71 63 65 (fun _ e => absurd e (by decide)))
    have h66 := ti_eq (f_S_71 63 66 (fun _ e => absurd e (by decide)))
    have h67 := ti_eq (f_S_71 63 67 (fun _ e => absurd e (by decide)))
    have L_S_71 := l_S_71.trans L_S_57
    have h68 : (S_71.1 101 (((((64 : Int32) * x1) + (S.1 102 ((x1).toNatClampNeg)))).toNatClampNeg)).toInt = (S_57.1 101 (((((64 : Int32) * x1) + (S.1 102 ((x1).toNatClampNeg)))).toNatClampNeg)).toInt := ti_eq (f_S_71 101 (((((64 : Int32) * x1) + (S.1 102 ((x1).toNatClampNeg)))).toNatClampNeg) (fun e => absurd e (by decide)))
    have h69 : (S_71.1 102 ((x1).toNatClampNeg)).toInt = (S_57.1 102 ((x1).toNatClampNeg)).toInt := ti_eq (f_S_71 102 ((x1).toNatClampNeg) (fun e => absurd e (by decide)))
    have h70 := b_63_65 I_S_71
    try have h71 : (((S_71.1 63 65) + (1 : Int32))).toInt = ((S_71.1 63 65)).toInt + (1) := add_iv rfl li_1 (by omega) (by omega)
    refine Sf.w I_S_71 F_S_71 rfl (show ((0) : Int) ≤ (((S_71.1 63 65) + (1 : Int32))).toInt by omega) (show (((S_71.1 63 65) + (1 : Int32))).toInt ≤ (40 : Int) by omega) (fun S_81 I_S_81 F_S_81 v_S_81 f_S_81 l_S_81 => ?_)
    have h72 := ti_eq (f_S_81 63 62 (fun _ e => absurd e (by decide)))
    have h73 := ti_eq (f_S_81 63 63 (fun _ e => absurd e (by decide)))
    have h74 := ti_eq (f_S_81 63 64 (fun _ e => absurd e (by decide)))
    have h75 := eq_iv rfl rfl v_S_81
    have h76 := ti_eq (f_S_81 63 66 (fun _ e => absurd e (by decide)))
    have h77 := ti_eq (f_S_81 63 67 (fun _ e => absurd e (by decide)))
    have L_S_81 := l_S_81.trans L_S_71
    have TQ_S_81 : TQ S_81 := TQ_send (i := x1.toNatClampNeg) TQ_S (F_S_81 63 62 rfl) (by omega) (fun b hb => by rw [f_S_81 102 b (fun e => absurd e (by decide)), f_S_71 102 b (fun e => absurd e (by decide)), f_S_57 102 b (fun e => absurd e (by decide)), f_S_49 102 b (fun e => absurd e (by decide)), f_S_44 102 b (fun e => absurd e (by decide)), f_S_41 102 b (fun _ e => hb e), f_S_31 102 b (fun e => absurd e (by decide))]) (by rw [f_S_81 102 _ (fun e => absurd e (by decide)), f_S_71 102 _ (fun e => absurd e (by decide)), f_S_57 102 _ (fun e => absurd e (by decide)), f_S_49 102 _ (fun e => absurd e (by decide)), f_S_44 102 _ (fun e => absurd e (by decide))]; omega) (by omega)
    have h78 : (S_81.1 101 (((((64 : Int32) * x1) + (S.1 102 ((x1).toNatClampNeg)))).toNatClampNeg)).toInt = (S_71.1 101 (((((64 : Int32) * x1) + (S.1 102 ((x1).toNatClampNeg)))).toNatClampNeg)).toInt := ti_eq (f_S_81 101 (((((64 : Int32) * x1) + (S.1 102 ((x1).toNatClampNeg)))).toNatClampNeg) (fun e => absurd e (by decide)))
    have h79 : (S_81.1 102 ((x1).toNatClampNeg)).toInt = (S_71.1 102 ((x1).toNatClampNeg)).toInt := ti_eq (f_S_81 102 ((x1).toNatClampNeg) (fun e => absurd e (by decide)))
    try have h80 : (((S_81.1 63 66) + (1 : Int32))).toInt = ((S_81.1 63 66)).toInt + (1) := add_iv rfl li_1 (by omega) (by omega)
    refine Sf.w I_S_81 F_S_81 rfl (i32 _).1 (i32 _).2 (fun S_91 I_S_91 F_S_91 v_S_91 f_S_91 l_S_91 => ?_)
    have h81 := ti_eq (f_S_91 63 62 (fun _ e => absurd e (by decide)))
    have h82 := ti_eq (f_S_91 63 63 (fun _ e => absurd e (by decide)))
    have h83 := ti_eq (f_S_91 63 64 (fun _ e => absurd e (by decide)))
    have h84 := ti_eq (f_S_91 63 65 (fun _ e => absurd e (by decide)))
    have h85 := eq_iv rfl rfl v_S_91
    have h86 := ti_eq (f_S_91 63 67 (fun _ e => absurd e (by decide)))
    have L_S_91 := l_S_91.trans L_S_81
    have TQ_S_91 := TQ_fr (U := S_91) TQ_S_81 (f_S_91 63 62 (fun _ e => absurd e (by decide))) (f_S_91 63 65 (fun _ e => absurd e (by decide))) (fun b => f_S_91 102 b (fun e => absurd e (by decide)))
    have h87 : (S_91.1 101 (((((64 : Int32) * x1) + (S.1 102 ((x1).toNatClampNeg)))).toNatClampNeg)).toInt = (S_81.1 101 (((((64 : Int32) * x1) + (S.1 102 ((x1).toNatClampNeg)))).toNatClampNeg)).toInt := ti_eq (f_S_91 101 (((((64 : Int32) * x1) + (S.1 102 ((x1).toNatClampNeg)))).toNatClampNeg) (fun e => absurd e (by decide)))
    have h88 : (S_91.1 102 ((x1).toNatClampNeg)).toInt = (S_81.1 102 ((x1).toNatClampNeg)).toInt := ti_eq (f_S_91 102 ((x1).toNatClampNeg) (fun e => absurd e (by decide)))
    have h89 := b_63_67 I_S_91
    have h90 : ((0 : Int32)).toInt = 0 := li_0
    exact Sf.so ⟨I_S_91, F_S_91, by omega, TQ_S_91, L_S_91⟩
theorem s_fX12_tries_85 (fu : Nat) (hfu : 1000000000000000000 ≤ fu) (k_54 : Int32 → Int32 → Int32 → St → Option (St × Int32)) (N : Nat) (hk_k_54 : ∀ (x1 : Int32) (x2 : Int32) (x3 : Int32) (S : St), Inv S → TQ S → (0 ≤ (x1).toInt) → ((x1).toInt < 4) → ((x1).toInt < (S.1 63 62).toInt) → (0 ≤ (x2).toInt) → ((x2).toInt < (S.1 63 50).toInt) → (0 ≤ (x3).toInt) → (10 - (x3).toInt).toNat < N → Sf (k_54 x1 x2 x3 S) (fun U r => Inv U ∧ Fr [(63, 64), (63, 65), (63, 66), (63, 67), (63, 68), (63, 69), (63, 70), (101, 0), (102, 0)] S U ∧ ((0 ≤ r.toInt) ∧ (r.toInt ≤ 1) ∧ ((r.toInt = 1 → (U.1 63 67).toInt = 1 ∨ (U.1 63 63).toInt = 3))) ∧ TQ U ∧ U.2 = S.2 ∧ (r = 0 → U = S))) : ∀ (n : Nat) (x1 : Int32) (x2 : Int32) (x3 : Int32) (x4 : Int32) (x5 : Int32) (S : St), Inv S → TQ S → (0 ≤ (x1).toInt) → ((x1).toInt < 4) → ((x1).toInt < (S.1 63 62).toInt) → (0 ≤ (x2).toInt) → ((x2).toInt < (S.1 63 50).toInt) → (0 ≤ (x3).toInt) → ((x3).toInt < 10) → (-1 ≤ (x4).toInt) → ((x4).toInt < (S.1 63 50).toInt) → (0 ≤ (x5).toInt) → ((10 - (x3).toInt).toNat ≤ N) → (10 - (x5).toInt).toNat < n → Sf (fX12_tries_85 fu k_54 n x1 x2 x3 x4 x5 S) (fun U r => Inv U ∧ Fr [(63, 64), (63, 65), (63, 66), (63, 67), (63, 68), (63, 69), (63, 70), (101, 0), (102, 0)] S U ∧ ((0 ≤ r.toInt) ∧ (r.toInt ≤ 1) ∧ ((r.toInt = 1 → (U.1 63 67).toInt = 1 ∨ (U.1 63 63).toInt = 3))) ∧ TQ U ∧ U.2 = S.2 ∧ (r = 0 → U = S)) := by
  intro n
  induction n with
  | zero => intro x1 x2 x3 x4 x5 S I_S TQ_S g0 g1 g2 g3 g4 g5 g6 g7 g8 g9 g10 hm; exact absurd hm (Nat.not_lt_zero _)
  | succ n ih =>
    intro x1 x2 x3 x4 x5 S I_S TQ_S g0 g1 g2 g3 g4 g5 g6 g7 g8 g9 g10 hm
    rw [fX12_tries_85_s]
    have F_S : Fr [(63, 64), (63, 65), (63, 66), (63, 67), (63, 68), (63, 69), (63, 70), (101, 0), (102, 0)] S S := Fr.refl _ _
    have L_S : S.2 = S.2 := rfl
    have h1 := b_63_62 I_S
    have h2 := b_63_50 I_S
    have h3 := b_63_50 I_S
    have h4 := i32 x4
    refine Sf.i (fun c_h5 => ?_) (fun c_h5 => ?_)
    · have h6 := lt_iv rfl li_0 c_h5
      unfold fX12_tries_152
      have h7 := i32 x1
      have h8 := i32 x2
      have h9 := i32 x3
      try have h10 : ((x3 + (1 : Int32))).toInt = (x3).toInt + (1) := add_iv rfl li_1 (by omega) (by omega)
      have h11 := b_63_62 I_S
      have h12 := b_63_50 I_S
      refine Sf.mono (hk_k_54 x1 x2 (x3 + (1 : Int32)) S I_S TQ_S (by omega) (by omega) (by omega) (by omega) (by omega) (by omega) (by omega)) (fun U r p_h13 => ?_)
      obtain ⟨I_U, G_U, p_h13, TQ_U, L0_U, EQ0_U⟩ := p_h13
      have h14 := b_63_67 I_U
      have h15 := ti_eq (G_U 63 50 rfl)
      have h16 := ti_eq (G_U 63 62 rfl)
      have L_U := L0_U.trans L_S
      exact ⟨I_U, Fr.tr F_S G_U rfl, by omega, TQ_U, L_U, (by first | exact fun _ => rfl | exact EQ0_U | exact fun h => absurd h (by decide))⟩
    · have h17 := nlt_iv rfl li_0 c_h5
      refine Sf.g (ck_iv (by omega) (by omega)) ?_
      have h18 := a_93 I_S ((x4).toNatClampNeg)
      have h19 := i32 x5
      refine Sf.i (fun c_h20 => ?_) (fun c_h20 => ?_)
      · have h21 := le_iv rfl rfl c_h20
        unfold fX12_tries_152
        have h22 := i32 x1
        have h23 := i32 x2
        have h24 := i32 x3
        try have h25 : ((x3 + (1 : Int32))).toInt = (x3).toInt + (1) := add_iv rfl li_1 (by omega) (by omega)
        have h26 := b_63_62 I_S
        have h27 := b_63_50 I_S
        refine Sf.mono (hk_k_54 x1 x2 (x3 + (1 : Int32)) S I_S TQ_S (by omega) (by omega) (by omega) (by omega) (by omega) (by omega) (by omega)) (fun U r p_h28 => ?_)
        obtain ⟨I_U, G_U, p_h28, TQ_U, L0_U, EQ0_U⟩ := p_h28
        have h29 := b_63_67 I_U
        have h30 := ti_eq (G_U 63 50 rfl)
        have h31 := ti_eq (G_U 63 62 rfl)
        have L_U := L0_U.trans L_S
        exact ⟨I_U, Fr.tr F_S G_U rfl, by omega, TQ_U, L_U, (by first | exact fun _ => rfl | exact EQ0_U | exact fun h => absurd h (by decide))⟩
      · have h32 := nle_iv rfl rfl c_h20
        try have h33 : (((10 : Int32) * x4)).toInt = (10) * (x4).toInt := mul_iv li_10 rfl (by omega) (by omega)
        try have h34 : ((((10 : Int32) * x4) + x5)).toInt = (((10 : Int32) * x4)).toInt + (x5).toInt := add_iv rfl rfl (by omega) (by omega)
        refine Sf.g (ck_iv (by omega) (by omega)) ?_
        have h35 := i32 x1
        refine Sf.bp (s_fX12_isTried fu hfu x1 (S.1 94 (((((10 : Int32) * x4) + x5)).toNatClampNeg)) S I_S (by omega) (by omega)) (fun r_117 p_r_117 => ?_)
        have h36 := i32 r_117
        refine Sf.i (fun c_h37 => ?_) (fun c_h37 => ?_)
        · have h38 := eq_iv rfl li_0 c_h37
          refine Sf.g (ck_iv (by omega) (by omega)) ?_
          have h39 := b_63_62 I_S
          refine Sf.b (s_fX12_sends fu hfu x1 (S.1 94 (((((10 : Int32) * x4) + x5)).toNatClampNeg)) S I_S TQ_S (by omega) (by omega) (by omega)) (fun S_141 r_141_ p_r_141_ => ?_)
          obtain ⟨I_S_141, G_S_141, p_r_141_, TQ_S_141, L0_S_141⟩ := p_r_141_
          have L_S_141 := L0_S_141.trans L_S
          have F_S_141 := Fr.tr F_S G_S_141 rfl
          have h40 := b_63_67 I_S_141
          have h41 := ti_eq (G_S_141 63 50 rfl)
          have h42 := ti_eq (G_S_141 63 62 rfl)
          have h43 : (S_141.1 93 ((x4).toNatClampNeg)).toInt = (S.1 93 ((x4).toNatClampNeg)).toInt := ti_eq (G_S_141 93 ((x4).toNatClampNeg) rfl)
          have h44 : (S_141.1 94 (((((10 : Int32) * x4) + x5)).toNatClampNeg)).toInt = (S.1 94 (((((10 : Int32) * x4) + x5)).toNatClampNeg)).toInt := ti_eq (G_S_141 94 (((((10 : Int32) * x4) + x5)).toNatClampNeg) rfl)
          have h45 := b_63_67 I_S_141
          have h46 : ((1 : Int32)).toInt = 1 := li_1
          exact Sf.so ⟨I_S_141, F_S_141, by omega, TQ_S_141, L_S_141, (by first | exact fun _ => rfl | exact EQ0_U | exact fun h => absurd h (by decide))⟩
        · have h47 := neq_iv rfl li_0 c_h37
          have h48 := i32 x2
          have h49 := i32 x3
          try have h50 : ((x5 + (1 : Int32))).toInt = (x5).toInt + (1) := add_iv rfl li_1 (by omega) (by omega)
          have h51 := b_63_62 I_S
          have h52 := b_63_50 I_S
          refine Sf.mono (ih x1 x2 x3 x4 (x5 + (1 : Int32)) S I_S TQ_S (by omega) (by omega) (by omega) (by omega) (by omega) (by omega) (by omega) (by omega) (by omega) (by omega) (by omega) (by omega)) (fun U r p_h53 => ?_)
          obtain ⟨I_U, G_U, p_h53, TQ_U, L0_U, EQ0_U⟩ := p_h53
          have h54 := b_63_67 I_U
          have h55 := ti_eq (G_U 63 50 rfl)
          have h56 := ti_eq (G_U 63 62 rfl)
          have L_U := L0_U.trans L_S
          exact ⟨I_U, Fr.tr F_S G_U rfl, by omega, TQ_U, L_U, (by first | exact fun _ => rfl | exact EQ0_U | exact fun h => absurd h (by decide))⟩
theorem s_fX12_tries_54 (fu : Nat) (hfu : 1000000000000000000 ≤ fu) : ∀ (n : Nat) (x1 : Int32) (x2 : Int32) (x3 : Int32) (S : St), Inv S → TQ S → (0 ≤ (x1).toInt) → ((x1).toInt < 4) → ((x1).toInt < (S.1 63 62).toInt) → (0 ≤ (x2).toInt) → ((x2).toInt < (S.1 63 50).toInt) → (0 ≤ (x3).toInt) → (10 - (x3).toInt).toNat < n → Sf (fX12_tries_54 fu n x1 x2 x3 S) (fun U r => Inv U ∧ Fr [(63, 64), (63, 65), (63, 66), (63, 67), (63, 68), (63, 69), (63, 70), (101, 0), (102, 0)] S U ∧ ((0 ≤ r.toInt) ∧ (r.toInt ≤ 1) ∧ ((r.toInt = 1 → (U.1 63 67).toInt = 1 ∨ (U.1 63 63).toInt = 3))) ∧ TQ U ∧ U.2 = S.2 ∧ (r = 0 → U = S)) := by
  intro n
  induction n with
  | zero => intro x1 x2 x3 S I_S TQ_S g0 g1 g2 g3 g4 g5 hm; exact absurd hm (Nat.not_lt_zero _)
  | succ n ih =>
    intro x1 x2 x3 S I_S TQ_S g0 g1 g2 g3 g4 g5 hm
    rw [fX12_tries_54_s]
    have F_S : Fr [(63, 64), (63, 65), (63, 66), (63, 67), (63, 68), (63, 69), (63, 70), (101, 0), (102, 0)] S S := Fr.refl _ _
    have L_S : S.2 = S.2 := rfl
    have h1 := b_63_62 I_S
    have h2 := b_63_50 I_S
    have h3 := i32 x2
    refine Sf.g (ck_iv (by omega) (by omega)) ?_
    have h4 := a_93 I_S ((x2).toNatClampNeg)
    have h5 := i32 x3
    refine Sf.i (fun c_h6 => ?_) (fun c_h6 => ?_)
    · have h7 := le_iv rfl rfl c_h6
      have h8 := b_63_67 I_S
      have h9 : ((0 : Int32)).toInt = 0 := li_0
      exact Sf.so ⟨I_S, F_S, by omega, TQ_S, L_S, (by first | exact fun _ => rfl | exact EQ0_U | exact fun h => absurd h (by decide))⟩
    · have h10 := nle_iv rfl rfl c_h6
      try have h11 : (((10 : Int32) * x2)).toInt = (10) * (x2).toInt := mul_iv li_10 rfl (by omega) (by omega)
      try have h12 : ((((10 : Int32) * x2) + x3)).toInt = (((10 : Int32) * x2)).toInt + (x3).toInt := add_iv rfl rfl (by omega) (by omega)
      refine Sf.g (ck_iv (by omega) (by omega)) ?_
      have h13 : ((1 : Int32)).toInt = 1 := li_1
      have h14 := b_63_50 I_S
      refine Sf.bp (s_fX12_set fu hfu (S.1 94 (((((10 : Int32) * x2) + x3)).toNatClampNeg)) (1 : Int32) S I_S) (fun r_77 p_r_77 => ?_)
      have h15 := i32 x1
      have h16 := i32 r_77
      have h17 : ((0 : Int32)).toInt = 0 := li_0
      have h18 := b_63_62 I_S
      refine Sf.mono (s_fX12_tries_85 fu hfu _ _ ih fu x1 x2 x3 r_77 (0 : Int32) S I_S TQ_S (by omega) (by omega) (by omega) (by omega) (by omega) (by omega) (by omega) (by omega) (by omega) (by omega) (by omega) (by omega)) (fun U r p_h19 => ?_)
      obtain ⟨I_U, G_U, p_h19, TQ_U, L0_U, EQ0_U⟩ := p_h19
      have h20 := b_63_67 I_U
      have h21 := ti_eq (G_U 63 50 rfl)
      have h22 := ti_eq (G_U 63 62 rfl)
      have L_U := L0_U.trans L_S
      exact ⟨I_U, Fr.tr F_S G_U rfl, by omega, TQ_U, L_U, (by first | exact fun _ => rfl | exact EQ0_U | exact fun h => absurd h (by decide))⟩
theorem s_fX12_tries_6 (fu : Nat) (hfu : 1000000000000000000 ≤ fu) : ∀ (n : Nat) (x1 : Int32) (x3 : Int32) (S : St), Inv S → TQ S → (0 ≤ (x1).toInt) → ((x1).toInt < 4) → ((x1).toInt < (S.1 63 62).toInt) → (0 ≤ (x3).toInt) → (4 - (x3).toInt).toNat < n → Sf (fX12_tries_6 fu n x1 x3 S) (fun U r => Inv U ∧ Fr [(63, 64), (63, 65), (63, 66), (63, 67), (63, 68), (63, 69), (63, 70), (101, 0), (102, 0)] S U ∧ ((0 ≤ r.toInt) ∧ (r.toInt ≤ 1) ∧ ((r.toInt = 1 → (U.1 63 67).toInt = 1 ∨ (U.1 63 63).toInt = 3))) ∧ TQ U ∧ U.2 = S.2 ∧ (r = 0 → U = S)) := by
  intro n
  induction n with
  | zero => intro x1 x3 S I_S TQ_S g0 g1 g2 g3 hm; exact absurd hm (Nat.not_lt_zero _)
  | succ n ih =>
    intro x1 x3 S I_S TQ_S g0 g1 g2 g3 hm
    rw [fX12_tries_6_s]
    have F_S : Fr [(63, 64), (63, 65), (63, 66), (63, 67), (63, 68), (63, 69), (63, 70), (101, 0), (102, 0)] S S := Fr.refl _ _
    have L_S : S.2 = S.2 := rfl
    have h1 := b_63_62 I_S
    have h2 := b_63_25 I_S
    have h3 := i32 x3
    refine Sf.i (fun c_h4 => ?_) (fun c_h4 => ?_)
    · have h5 := le_iv rfl rfl c_h4
      have h6 := b_63_67 I_S
      have h7 : ((0 : Int32)).toInt = 0 := li_0
      exact Sf.so ⟨I_S, F_S, by omega, TQ_S, L_S, (by first | exact fun _ => rfl | exact EQ0_U | exact fun h => absurd h (by decide))⟩
    · have h8 := nle_iv rfl rfl c_h4
      refine Sf.g (ck_iv (by omega) (by omega)) ?_
      have h9 := i32 x1
      refine Sf.bp (s_fX12_isTried fu hfu x1 (S.1 81 ((x3).toNatClampNeg)) S I_S (by omega) (by omega)) (fun r_22 p_r_22 => ?_)
      have h10 := i32 r_22
      refine Sf.i (fun c_h11 => ?_) (fun c_h11 => ?_)
      · have h12 := eq_iv rfl li_0 c_h11
        refine Sf.g (ck_iv (by omega) (by omega)) ?_
        have h13 := b_63_62 I_S
        refine Sf.b (s_fX12_sends fu hfu x1 (S.1 81 ((x3).toNatClampNeg)) S I_S TQ_S (by omega) (by omega) (by omega)) (fun S_39 r_39_ p_r_39_ => ?_)
        obtain ⟨I_S_39, G_S_39, p_r_39_, TQ_S_39, L0_S_39⟩ := p_r_39_
        have L_S_39 := L0_S_39.trans L_S
        have F_S_39 := Fr.tr F_S G_S_39 rfl
        have h14 := b_63_67 I_S_39
        have h15 := ti_eq (G_S_39 63 25 rfl)
        have h16 := ti_eq (G_S_39 63 62 rfl)
        have h17 : (S_39.1 81 ((x3).toNatClampNeg)).toInt = (S.1 81 ((x3).toNatClampNeg)).toInt := ti_eq (G_S_39 81 ((x3).toNatClampNeg) rfl)
        have h18 := b_63_67 I_S_39
        have h19 : ((1 : Int32)).toInt = 1 := li_1
        exact Sf.so ⟨I_S_39, F_S_39, by omega, TQ_S_39, L_S_39, (by first | exact fun _ => rfl | exact EQ0_U | exact fun h => absurd h (by decide))⟩
      · have h20 := neq_iv rfl li_0 c_h11
        try have h21 : ((x3 + (1 : Int32))).toInt = (x3).toInt + (1) := add_iv rfl li_1 (by omega) (by omega)
        have h22 := b_63_62 I_S
        refine Sf.mono (ih x1 (x3 + (1 : Int32)) S I_S TQ_S (by omega) (by omega) (by omega) (by omega) (by omega)) (fun U r p_h23 => ?_)
        obtain ⟨I_U, G_U, p_h23, TQ_U, L0_U, EQ0_U⟩ := p_h23
        have h24 := b_63_67 I_U
        have h25 := ti_eq (G_U 63 25 rfl)
        have h26 := ti_eq (G_U 63 62 rfl)
        have L_U := L0_U.trans L_S
        exact ⟨I_U, Fr.tr F_S G_U rfl, by omega, TQ_U, L_U, (by first | exact fun _ => rfl | exact EQ0_U | exact fun h => absurd h (by decide))⟩
