theorem s_fX2_addSentFor (fu : Nat) (hfu : 1000000000000000000 ≤ fu) (x1 : Int32) (S : St) (I_S : Inv S) : Sf (fX2_addSentFor fu x1 S) (fun U r => Inv U ∧ Fr [(57, 0), (58, 0)] S U ∧ (True)) := by
  unfold fX2_addSentFor
  have F_S : Fr [(57, 0), (58, 0)] S S := Fr.refl _ _
  have h1 := b_50_9 I_S
  refine Sf.g (ck_iv (by omega) (by omega)) ?_
  have h2 := a_58 I_S (((S.1 50 9)).toNatClampNeg)
  refine Sf.i (fun c_h3 => ?_) (fun c_h3 => ?_)
  · have h4 := le_iv li_300 rfl c_h3
    exact Sf.so ⟨I_S, F_S, trivial⟩
  · have h5 := nle_iv li_300 rfl c_h3
    refine Sf.g (ck_iv (by omega) (by omega)) ?_
    try have h6 : (((S.1 50 9) * (300 : Int32))).toInt = ((S.1 50 9)).toInt * (300) := mul_iv rfl li_300 (by omega) (by omega)
    try have h7 : ((((S.1 50 9) * (300 : Int32)) + (S.1 58 (((S.1 50 9)).toNatClampNeg)))).toInt = (((S.1 50 9) * (300 : Int32))).toInt + ((S.1 58 (((S.1 50 9)).toNatClampNeg))).toInt := add_iv rfl rfl (by omega) (by omega)
    refine Sf.g (ck_iv (by omega) (by omega)) ?_
    have h8 := i32 x1
    refine Sf.w I_S F_S rfl (i32 _).1 (i32 _).2 (fun S_38 I_S_38 F_S_38 v_S_38 f_S_38 l_S_38 => ?_)
    have h9 := ti_eq (f_S_38 50 9 (fun e => absurd e (by decide)))
    have h10 : (S_38.1 57 (((((S.1 50 9) * (300 : Int32)) + (S.1 58 (((S.1 50 9)).toNatClampNeg)))).toNatClampNeg)).toInt = (x1).toInt := eq_iv rfl rfl v_S_38
    have h11 : (S_38.1 58 (((S.1 50 9)).toNatClampNeg)).toInt = (S.1 58 (((S.1 50 9)).toNatClampNeg)).toInt := ti_eq (f_S_38 58 (((S.1 50 9)).toNatClampNeg) (fun e => absurd e (by decide)))
    have h12 : (S_38.1 58 (((S_38.1 50 9)).toNatClampNeg)).toInt = (S.1 58 (((S.1 50 9)).toNatClampNeg)).toInt := by rw [f_S_38 50 9 (fun e => absurd e (by decide))]; exact ti_eq (f_S_38 58 (((S.1 50 9)).toNatClampNeg) (fun e => absurd e (by decide)))
    have h13 := b_50_9 I_S_38
    refine Sf.g (ck_iv (by omega) (by omega)) ?_
    refine Sf.g (ck_iv (by omega) (by omega)) ?_
    try have h14 : (((S_38.1 58 (((S_38.1 50 9)).toNatClampNeg)) + (1 : Int32))).toInt = ((S_38.1 58 (((S_38.1 50 9)).toNatClampNeg))).toInt + (1) := add_iv rfl li_1 (by omega) (by omega)
    refine Sf.w I_S_38 F_S_38 rfl (show ((0) : Int) ≤ (((S_38.1 58 (((S_38.1 50 9)).toNatClampNeg)) + (1 : Int32))).toInt by omega) (show (((S_38.1 58 (((S_38.1 50 9)).toNatClampNeg)) + (1 : Int32))).toInt ≤ (300 : Int) by omega) (fun S_51 I_S_51 F_S_51 v_S_51 f_S_51 l_S_51 => ?_)
    have h15 := ti_eq (f_S_51 50 9 (fun e => absurd e (by decide)))
    have h16 : (S_51.1 58 (((S_38.1 50 9)).toNatClampNeg)).toInt = (((S_38.1 58 (((S_38.1 50 9)).toNatClampNeg)) + (1 : Int32))).toInt := eq_iv rfl rfl v_S_51
    have h17 : (S_51.1 58 (((S_51.1 50 9)).toNatClampNeg)).toInt = (((S_38.1 58 (((S_38.1 50 9)).toNatClampNeg)) + (1 : Int32))).toInt := by rw [f_S_51 50 9 (fun e => absurd e (by decide))]; exact eq_iv rfl rfl v_S_51
    have h18 : (S_51.1 57 (((((S.1 50 9) * (300 : Int32)) + (S.1 58 (((S.1 50 9)).toNatClampNeg)))).toNatClampNeg)).toInt = (S_38.1 57 (((((S.1 50 9) * (300 : Int32)) + (S.1 58 (((S.1 50 9)).toNatClampNeg)))).toNatClampNeg)).toInt := ti_eq (f_S_51 57 (((((S.1 50 9) * (300 : Int32)) + (S.1 58 (((S.1 50 9)).toNatClampNeg)))).toNatClampNeg) (fun e => absurd e (by decide)))
    exact Sf.so ⟨I_S_51, F_S_51, trivial⟩
theorem s_fX6_sendForHost_2 (fu : Nat) (hfu : 1000000000000000000 ≤ fu) : ∀ (n : Nat) (x1 : Int32) (x2 : Int32) (S : St), Inv S → (0 ≤ (x2).toInt) → (10 - (x2).toInt).toNat < n → Sf (fX6_sendForHost_2 fu n x1 x2 S) (fun U r => Inv U ∧ Fr [(50, 9), (50, 10), (51, 0), (52, 0), (53, 0), (54, 0), (56, 0), (57, 0), (58, 0)] S U ∧ ((0 ≤ r.toInt) ∧ (r.toInt ≤ 1))) := by
  intro n
  induction n with
  | zero => intro x1 x2 S I_S g0 hm; exact absurd hm (Nat.not_lt_zero _)
  | succ n ih =>
    intro x1 x2 S I_S g0 hm
    rw [fX6_sendForHost_2_s]
    have F_S : Fr [(50, 9), (50, 10), (51, 0), (52, 0), (53, 0), (54, 0), (56, 0), (57, 0), (58, 0)] S S := Fr.refl _ _
    have h1 := i32 x1
    have h2 := b_42_6 I_S
    refine Sf.bp (s_fX1_sizeOf fu hfu x1 S I_S) (fun r_8 p_r_8 => ?_)
    have h3 := i32 r_8
    have h4 := i32 x2
    refine Sf.i (fun c_h5 => ?_) (fun c_h5 => ?_)
    · have h6 := le_iv rfl rfl c_h5
      have h7 : ((0 : Int32)).toInt = 0 := li_0
      exact Sf.so ⟨I_S, F_S, by omega⟩
    · have h8 := nle_iv rfl rfl c_h5
      refine Sf.bp (s_fX1_valueOf fu hfu x1 x2 S I_S) (fun r_20 p_r_20 => ?_)
      have h9 := i32 r_20
      have h10 : ((1 : Int32)).toInt = 1 := li_1
      refine Sf.bp (s_fX1_setOf fu hfu r_20 (1 : Int32) S I_S) (fun r_30 p_r_30 => ?_)
      have h11 := i32 r_30
      refine Sf.i (fun c_h12 => ?_) (fun c_h12 => ?_)
      · have h13 := eq_iv rfl li_m1 c_h12
        refine Sf.bp (s_fX2_hasSentFor fu hfu r_20 S I_S) (fun r_42 p_r_42 => ?_)
        have h14 := i32 r_42
        refine Sf.i (fun c_h15 => ?_) (fun c_h15 => ?_)
        · have h16 := eq_iv rfl li_0 c_h15
          refine Sf.b (s_fX2_addSentFor fu hfu r_20 S I_S) (fun S_53 r_53_ p_r_53_ => ?_)
          obtain ⟨I_S_53, G_S_53, p_r_53_⟩ := p_r_53_
          have F_S_53 := Fr.tr F_S G_S_53 rfl
          have h17 := ti_eq (G_S_53 42 6 rfl)
          refine Sf.b (s_fX2_push fu hfu r_20 (1 : Int32) S_53 I_S_53) (fun S_62 r_62 p_r_62 => ?_)
          obtain ⟨I_S_62, G_S_62, p_r_62⟩ := p_r_62
          have F_S_62 := Fr.tr F_S_53 G_S_62 rfl
          have h18 := ti_eq (G_S_62 42 6 rfl)
          have h19 := i32 r_62
          refine Sf.g (isB_iv (by omega) (by omega)) ?_
          exact Sf.so ⟨I_S_62, F_S_62, by omega⟩
        · have h20 := neq_iv rfl li_0 c_h15
          unfold fX6_sendForHost_66
          try have h21 : ((x2 + (1 : Int32))).toInt = (x2).toInt + (1) := add_iv rfl li_1 (by omega) (by omega)
          refine Sf.mono (ih x1 (x2 + (1 : Int32)) S I_S (by omega) (by omega)) (fun U r p_h22 => ?_)
          obtain ⟨I_U, G_U, p_h22⟩ := p_h22
          have h23 := ti_eq (G_U 42 6 rfl)
          exact ⟨I_U, Fr.tr F_S G_U rfl, by omega⟩
      · have h24 := neq_iv rfl li_m1 c_h12
        unfold fX6_sendForHost_66
        try have h25 : ((x2 + (1 : Int32))).toInt = (x2).toInt + (1) := add_iv rfl li_1 (by omega) (by omega)
        refine Sf.mono (ih x1 (x2 + (1 : Int32)) S I_S (by omega) (by omega)) (fun U r p_h26 => ?_)
        obtain ⟨I_U, G_U, p_h26⟩ := p_h26
        have h27 := ti_eq (G_U 42 6 rfl)
        exact ⟨I_U, Fr.tr F_S G_U rfl, by omega⟩
theorem s_fX6_sendForHost (fu : Nat) (hfu : 1000000000000000000 ≤ fu) (x1 : Int32) (S : St) (I_S : Inv S) : Sf (fX6_sendForHost fu x1 S) (fun U r => Inv U ∧ Fr [(50, 9), (50, 10), (51, 0), (52, 0), (53, 0), (54, 0), (56, 0), (57, 0), (58, 0)] S U ∧ ((0 ≤ r.toInt) ∧ (r.toInt ≤ 1))) := by
  unfold fX6_sendForHost
  have F_S : Fr [(50, 9), (50, 10), (51, 0), (52, 0), (53, 0), (54, 0), (56, 0), (57, 0), (58, 0)] S S := Fr.refl _ _
  have h1 := i32 x1
  have h2 : ((0 : Int32)).toInt = 0 := li_0
  refine Sf.mono (s_fX6_sendForHost_2 fu hfu fu x1 (0 : Int32) S I_S (by omega) (by omega)) (fun U r p_h3 => ?_)
  obtain ⟨I_U, G_U, p_h3⟩ := p_h3
  have h4 := ti_eq (G_U 42 6 rfl)
  exact ⟨I_U, Fr.tr F_S G_U rfl, by omega⟩
theorem s_fX6_tryHosts_35 (fu : Nat) (hfu : 1000000000000000000 ≤ fu) (k_2 : Int32 → Int32 → St → Option (St × Int32)) (N : Nat) (hk_k_2 : ∀ (x1 : Int32) (x2 : Int32) (S : St), Inv S → (0 ≤ (x2).toInt) → (10 - (x2).toInt).toNat < N → Sf (k_2 x1 x2 S) (fun U r => Inv U ∧ Fr [(49, 6), (49, 7), (49, 8), (49, 9), (49, 10), (55, 0), (56, 0)] S U ∧ ((0 ≤ r.toInt) ∧ (r.toInt ≤ 1)))) : ∀ (n : Nat) (x1 : Int32) (x2 : Int32) (x3 : Int32) (x4 : Int32) (S : St), Inv S → (0 ≤ (x4).toInt) → (0 ≤ (x2).toInt) → ((x2).toInt < 10) → ((10 - (x2).toInt).toNat ≤ N) → (10 - (x4).toInt).toNat < n → Sf (fX6_tryHosts_35 fu k_2 n x1 x2 x3 x4 S) (fun U r => Inv U ∧ Fr [(49, 6), (49, 7), (49, 8), (49, 9), (49, 10), (55, 0), (56, 0)] S U ∧ ((0 ≤ r.toInt) ∧ (r.toInt ≤ 1))) := by
  intro n
  induction n with
  | zero => intro x1 x2 x3 x4 S I_S g0 g1 g2 g3 hm; exact absurd hm (Nat.not_lt_zero _)
  | succ n ih =>
    intro x1 x2 x3 x4 S I_S g0 g1 g2 g3 hm
    rw [fX6_tryHosts_35_s]
    have F_S : Fr [(49, 6), (49, 7), (49, 8), (49, 9), (49, 10), (55, 0), (56, 0)] S S := Fr.refl _ _
    have h1 := i32 x3
    have h2 := b_42_6 I_S
    refine Sf.bp (s_fX1_sizeOf fu hfu x3 S I_S) (fun r_42 p_r_42 => ?_)
    have h3 := i32 r_42
    have h4 := i32 x4
    refine Sf.i (fun c_h5 => ?_) (fun c_h5 => ?_)
    · have h6 := le_iv rfl rfl c_h5
      have h7 := i32 x1
      have h8 := i32 x2
      try have h9 : ((x2 + (1 : Int32))).toInt = (x2).toInt + (1) := add_iv rfl li_1 (by omega) (by omega)
      refine Sf.mono (hk_k_2 x1 (x2 + (1 : Int32)) S I_S (by omega) (by omega)) (fun U r p_h10 => ?_)
      obtain ⟨I_U, G_U, p_h10⟩ := p_h10
      have h11 := ti_eq (G_U 42 6 rfl)
      exact ⟨I_U, Fr.tr F_S G_U rfl, by omega⟩
    · have h12 := nle_iv rfl rfl c_h5
      refine Sf.bp (s_fX1_valueOf fu hfu x3 x4 S I_S) (fun r_55 p_r_55 => ?_)
      have h13 := i32 r_55
      refine Sf.bp (s_fX2_hasTried fu hfu r_55 S I_S) (fun r_66 p_r_66 => ?_)
      have h14 := i32 r_66
      refine Sf.i (fun c_h15 => ?_) (fun c_h15 => ?_)
      · have h16 := eq_iv rfl li_0 c_h15
        refine Sf.b (s_fX6_sendTo fu hfu r_55 S I_S) (fun S_75 r_75_ p_r_75_ => ?_)
        obtain ⟨I_S_75, G_S_75, p_r_75_⟩ := p_r_75_
        have F_S_75 := Fr.tr F_S G_S_75 rfl
        have h17 := ti_eq (G_S_75 42 6 rfl)
        have h18 : ((1 : Int32)).toInt = 1 := li_1
        exact Sf.so ⟨I_S_75, F_S_75, by omega⟩
      · have h19 := neq_iv rfl li_0 c_h15
        have h20 := i32 x1
        have h21 := i32 x2
        try have h22 : ((x4 + (1 : Int32))).toInt = (x4).toInt + (1) := add_iv rfl li_1 (by omega) (by omega)
        refine Sf.mono (ih x1 x2 x3 (x4 + (1 : Int32)) S I_S (by omega) (by omega) (by omega) (by omega) (by omega)) (fun U r p_h23 => ?_)
        obtain ⟨I_U, G_U, p_h23⟩ := p_h23
        have h24 := ti_eq (G_U 42 6 rfl)
        exact ⟨I_U, Fr.tr F_S G_U rfl, by omega⟩
theorem s_fX6_tryHosts_2 (fu : Nat) (hfu : 1000000000000000000 ≤ fu) : ∀ (n : Nat) (x1 : Int32) (x2 : Int32) (S : St), Inv S → (0 ≤ (x2).toInt) → (10 - (x2).toInt).toNat < n → Sf (fX6_tryHosts_2 fu n x1 x2 S) (fun U r => Inv U ∧ Fr [(49, 6), (49, 7), (49, 8), (49, 9), (49, 10), (55, 0), (56, 0)] S U ∧ ((0 ≤ r.toInt) ∧ (r.toInt ≤ 1))) := by
  intro n
  induction n with
  | zero => intro x1 x2 S I_S g0 hm; exact absurd hm (Nat.not_lt_zero _)
  | succ n ih =>
    intro x1 x2 S I_S g0 hm
    rw [fX6_tryHosts_2_s]
    have F_S : Fr [(49, 6), (49, 7), (49, 8), (49, 9), (49, 10), (55, 0), (56, 0)] S S := Fr.refl _ _
    have h1 := i32 x1
    have h2 := b_42_6 I_S
    refine Sf.bp (s_fX1_sizeOf fu hfu x1 S I_S) (fun r_8 p_r_8 => ?_)
    have h3 := i32 r_8
    have h4 := i32 x2
    refine Sf.i (fun c_h5 => ?_) (fun c_h5 => ?_)
    · have h6 := le_iv rfl rfl c_h5
      have h7 : ((0 : Int32)).toInt = 0 := li_0
      exact Sf.so ⟨I_S, F_S, by omega⟩
    · have h8 := nle_iv rfl rfl c_h5
      refine Sf.bp (s_fX1_valueOf fu hfu x1 x2 S I_S) (fun r_24 p_r_24 => ?_)
      have h9 := i32 r_24
      have h10 : ((1 : Int32)).toInt = 1 := li_1
      refine Sf.bp (s_fX1_setOf fu hfu r_24 (1 : Int32) S I_S) (fun r_28 p_r_28 => ?_)
      have h11 := i32 r_28
      have h12 : ((0 : Int32)).toInt = 0 := li_0
      refine Sf.mono (s_fX6_tryHosts_35 fu hfu _ _ ih fu x1 x2 r_28 (0 : Int32) S I_S (by omega) (by omega) (by omega) (by omega) (by omega)) (fun U r p_h13 => ?_)
      obtain ⟨I_U, G_U, p_h13⟩ := p_h13
      have h14 := ti_eq (G_U 42 6 rfl)
      exact ⟨I_U, Fr.tr F_S G_U rfl, by omega⟩
theorem s_fX6_tryHosts (fu : Nat) (hfu : 1000000000000000000 ≤ fu) (x1 : Int32) (S : St) (I_S : Inv S) : Sf (fX6_tryHosts fu x1 S) (fun U r => Inv U ∧ Fr [(49, 6), (49, 7), (49, 8), (49, 9), (49, 10), (55, 0), (56, 0)] S U ∧ ((0 ≤ r.toInt) ∧ (r.toInt ≤ 1))) := by
  unfold fX6_tryHosts
  have F_S : Fr [(49, 6), (49, 7), (49, 8), (49, 9), (49, 10), (55, 0), (56, 0)] S S := Fr.refl _ _
  have h1 := i32 x1
  have h2 : ((0 : Int32)).toInt = 0 := li_0
  refine Sf.mono (s_fX6_tryHosts_2 fu hfu fu x1 (0 : Int32) S I_S (by omega) (by omega)) (fun U r p_h3 => ?_)
  obtain ⟨I_U, G_U, p_h3⟩ := p_h3
  have h4 := ti_eq (G_U 42 6 rfl)
  exact ⟨I_U, Fr.tr F_S G_U rfl, by omega⟩
theorem s_fX6_moveOut (fu : Nat) (hfu : 1000000000000000000 ≤ fu) (x1 : Int32) (S : St) (I_S : Inv S) : Sf (fX6_moveOut fu x1 S) (fun U r => Inv U ∧ Fr [(49, 6), (49, 7), (49, 8), (49, 9), (49, 10), (49, 12), (50, 9), (50, 10), (51, 0), (52, 0), (53, 0), (54, 0), (55, 0), (56, 0), (57, 0), (58, 0), (60, 0)] S U ∧ (True)) := by
  unfold fX6_moveOut
  have F_S : Fr [(49, 6), (49, 7), (49, 8), (49, 9), (49, 10), (49, 12), (50, 9), (50, 10), (51, 0), (52, 0), (53, 0), (54, 0), (55, 0), (56, 0), (57, 0), (58, 0), (60, 0)] S S := Fr.refl _ _
  have h1 := i32 x1
  refine Sf.bp (s_fX6_placeOf fu hfu x1 S I_S) (fun r_2 p_r_2 => ?_)
  have h2 := i32 r_2
  refine Sf.b (s_fX2_lead fu hfu r_2 S I_S) (fun S_11 r_11_ p_r_11_ => ?_)
  obtain ⟨I_S_11, G_S_11, p_r_11_⟩ := p_r_11_
  have F_S_11 := Fr.tr F_S G_S_11 rfl
  have h3 := ti_eq (G_S_11 42 6 rfl)
  have h4 : ((2 : Int32)).toInt = 2 := li_2
  have h5 := b_42_6 I_S_11
  refine Sf.bp (s_fX1_setOf fu hfu r_2 (2 : Int32) S_11 I_S_11) (fun r_20 p_r_20 => ?_)
  have h6 := i32 r_20
  refine Sf.i (fun c_h7 => ?_) (fun c_h7 => ?_)
  · have h8 := eq_iv rfl li_m1 c_h7
    refine Sf.b (s_fX6_tryHints fu hfu S_11 I_S_11) (fun S_30 r_30 p_r_30 => ?_)
    obtain ⟨I_S_30, G_S_30, p_r_30⟩ := p_r_30
    have F_S_30 := Fr.tr F_S_11 G_S_30 rfl
    have h9 := ti_eq (G_S_30 42 6 rfl)
    unfold fX6_moveOut_41
    have h10 := i32 r_30
    refine Sf.i (fun c_h11 => ?_) (fun c_h11 => ?_)
    · have h12 := eq_iv rfl li_0 c_h11
      refine Sf.b (s_fX6_sendForHost fu hfu r_20 S_30 I_S_30) (fun S_50 r_50 p_r_50 => ?_)
      obtain ⟨I_S_50, G_S_50, p_r_50⟩ := p_r_50
      have F_S_50 := Fr.tr F_S_30 G_S_50 rfl
      have h13 := ti_eq (G_S_50 42 6 rfl)
      have h14 := i32 r_50
      refine Sf.i (fun c_h15 => ?_) (fun c_h15 => ?_)
      · have h16 := eq_iv rfl li_0 c_h15
        have h17 : ((3 : Int32)).toInt = 3 := li_3
        have h18 : ((-1 : Int32)).toInt = -1 := li_m1
        refine Sf.b (s_fX6_endFrame fu hfu (3 : Int32) (-1 : Int32) S_50 I_S_50) (fun S_59 r_59_ p_r_59_ => ?_)
        obtain ⟨I_S_59, G_S_59, p_r_59_⟩ := p_r_59_
        have F_S_59 := Fr.tr F_S_50 G_S_59 rfl
        have h19 := ti_eq (G_S_59 42 6 rfl)
        exact Sf.so ⟨I_S_59, F_S_59, trivial⟩
      · have h20 := neq_iv rfl li_0 c_h15
        exact Sf.so ⟨I_S_50, F_S_50, trivial⟩
    · have h21 := neq_iv rfl li_0 c_h11
      exact Sf.so ⟨I_S_30, F_S_30, trivial⟩
  · have h22 := neq_iv rfl li_m1 c_h7
    refine Sf.b (s_fX6_tryHosts fu hfu r_20 S_11 I_S_11) (fun S_38 r_38 p_r_38 => ?_)
    obtain ⟨I_S_38, G_S_38, p_r_38⟩ := p_r_38
    have F_S_38 := Fr.tr F_S_11 G_S_38 rfl
    have h23 := ti_eq (G_S_38 42 6 rfl)
    unfold fX6_moveOut_41
    have h24 := i32 r_38
    refine Sf.i (fun c_h25 => ?_) (fun c_h25 => ?_)
    · have h26 := eq_iv rfl li_0 c_h25
      refine Sf.b (s_fX6_sendForHost fu hfu r_20 S_38 I_S_38) (fun S_50 r_50 p_r_50 => ?_)
      obtain ⟨I_S_50, G_S_50, p_r_50⟩ := p_r_50
      have F_S_50 := Fr.tr F_S_38 G_S_50 rfl
      have h27 := ti_eq (G_S_50 42 6 rfl)
      have h28 := i32 r_50
      refine Sf.i (fun c_h29 => ?_) (fun c_h29 => ?_)
      · have h30 := eq_iv rfl li_0 c_h29
        have h31 : ((3 : Int32)).toInt = 3 := li_3
        have h32 : ((-1 : Int32)).toInt = -1 := li_m1
        refine Sf.b (s_fX6_endFrame fu hfu (3 : Int32) (-1 : Int32) S_50 I_S_50) (fun S_59 r_59_ p_r_59_ => ?_)
        obtain ⟨I_S_59, G_S_59, p_r_59_⟩ := p_r_59_
        have F_S_59 := Fr.tr F_S_50 G_S_59 rfl
        have h33 := ti_eq (G_S_59 42 6 rfl)
        exact Sf.so ⟨I_S_59, F_S_59, trivial⟩
      · have h34 := neq_iv rfl li_0 c_h29
        exact Sf.so ⟨I_S_50, F_S_50, trivial⟩
    · have h35 := neq_iv rfl li_0 c_h25
      exact Sf.so ⟨I_S_38, F_S_38, trivial⟩
theorem s_fX2_topChains (fu : Nat) (hfu : 1000000000000000000 ≤ fu) (S : St) (I_S : Inv S) : Sp (fX2_topChains fu S) S (fun r => True) := by
  unfold fX2_topChains
  have h1 := b_50_9 I_S
  refine Sp.g (ck_iv (by omega) (by omega)) ?_
  exact Sp.so trivial
theorem s_fX2_follow (fu : Nat) (hfu : 1000000000000000000 ≤ fu) (x1 : Int32) (S : St) (I_S : Inv S) : Sf (fX2_follow fu x1 S) (fun U r => Inv U ∧ Fr [(51, 0), (53, 0), (56, 0), (58, 0)] S U ∧ (True)) := by
  unfold fX2_follow
  have F_S : Fr [(51, 0), (53, 0), (56, 0), (58, 0)] S S := Fr.refl _ _
  have h1 := b_50_9 I_S
  refine Sf.g (ck_iv (by omega) (by omega)) ?_
  have h2 := i32 x1
  refine Sf.w I_S F_S rfl (i32 _).1 (i32 _).2 (fun S_9 I_S_9 F_S_9 v_S_9 f_S_9 l_S_9 => ?_)
  have h3 := ti_eq (f_S_9 50 9 (fun e => absurd e (by decide)))
  have h4 : (S_9.1 51 (((S.1 50 9)).toNatClampNeg)).toInt = (x1).toInt := eq_iv rfl rfl v_S_9
  have h5 : (S_9.1 51 (((S_9.1 50 9)).toNatClampNeg)).toInt = (x1).toInt := by rw [f_S_9 50 9 (fun e => absurd e (by decide))]; exact eq_iv rfl rfl v_S_9
  have h6 := b_50_9 I_S_9
  refine Sf.g (ck_iv (by omega) (by omega)) ?_
  refine Sf.g (ck_iv (by omega) (by omega)) ?_
  try have h7 : (((S_9.1 53 (((S_9.1 50 9)).toNatClampNeg)) + (1 : Int32))).toInt = ((S_9.1 53 (((S_9.1 50 9)).toNatClampNeg))).toInt + (1) := add_iv rfl li_1 (by omega) (by omega)
  refine Sf.w I_S_9 F_S_9 rfl (i32 _).1 (i32 _).2 (fun S_22 I_S_22 F_S_22 v_S_22 f_S_22 l_S_22 => ?_)
  have h8 := ti_eq (f_S_22 50 9 (fun e => absurd e (by decide)))
  have h9 : (S_22.1 53 (((S_9.1 50 9)).toNatClampNeg)).toInt = (((S_9.1 53 (((S_9.1 50 9)).toNatClampNeg)) + (1 : Int32))).toInt := eq_iv rfl rfl v_S_22
  have h10 : (S_22.1 53 (((S_22.1 50 9)).toNatClampNeg)).toInt = (((S_9.1 53 (((S_9.1 50 9)).toNatClampNeg)) + (1 : Int32))).toInt := by rw [f_S_22 50 9 (fun e => absurd e (by decide))]; exact eq_iv rfl rfl v_S_22
  have h11 : (S_22.1 51 (((S.1 50 9)).toNatClampNeg)).toInt = (S_9.1 51 (((S.1 50 9)).toNatClampNeg)).toInt := ti_eq (f_S_22 51 (((S.1 50 9)).toNatClampNeg) (fun e => absurd e (by decide)))
  have h12 : (S_22.1 51 (((S_9.1 50 9)).toNatClampNeg)).toInt = (S_9.1 51 (((S_9.1 50 9)).toNatClampNeg)).toInt := ti_eq (f_S_22 51 (((S_9.1 50 9)).toNatClampNeg) (fun e => absurd e (by decide)))
  have h13 : (S_22.1 51 (((S_22.1 50 9)).toNatClampNeg)).toInt = (S_9.1 51 (((S_9.1 50 9)).toNatClampNeg)).toInt := by rw [f_S_22 50 9 (fun e => absurd e (by decide))]; exact ti_eq (f_S_22 51 (((S_9.1 50 9)).toNatClampNeg) (fun e => absurd e (by decide)))
  refine Sf.b (s_fX2_forget fu hfu S_22 I_S_22) (fun S_24 r_24_ p_r_24_ => ?_)
  obtain ⟨I_S_24, G_S_24, p_r_24_⟩ := p_r_24_
  have F_S_24 := Fr.tr F_S_22 G_S_24 rfl
  have h14 := ti_eq (G_S_24 50 9 rfl)
  have h15 : (S_24.1 51 (((S.1 50 9)).toNatClampNeg)).toInt = (S_22.1 51 (((S.1 50 9)).toNatClampNeg)).toInt := ti_eq (G_S_24 51 (((S.1 50 9)).toNatClampNeg) rfl)
  have h16 : (S_24.1 51 (((S_22.1 50 9)).toNatClampNeg)).toInt = (S_22.1 51 (((S_22.1 50 9)).toNatClampNeg)).toInt := ti_eq (G_S_24 51 (((S_22.1 50 9)).toNatClampNeg) rfl)
  have h17 : (S_24.1 51 (((S_24.1 50 9)).toNatClampNeg)).toInt = (S_22.1 51 (((S_22.1 50 9)).toNatClampNeg)).toInt := by rw [G_S_24 50 9 rfl]; exact ti_eq (G_S_24 51 (((S_22.1 50 9)).toNatClampNeg) rfl)
  have h18 : (S_24.1 51 (((S_9.1 50 9)).toNatClampNeg)).toInt = (S_22.1 51 (((S_9.1 50 9)).toNatClampNeg)).toInt := ti_eq (G_S_24 51 (((S_9.1 50 9)).toNatClampNeg) rfl)
  have h19 : (S_24.1 53 (((S_22.1 50 9)).toNatClampNeg)).toInt = (S_22.1 53 (((S_22.1 50 9)).toNatClampNeg)).toInt := ti_eq (G_S_24 53 (((S_22.1 50 9)).toNatClampNeg) rfl)
  have h20 : (S_24.1 53 (((S_24.1 50 9)).toNatClampNeg)).toInt = (S_22.1 53 (((S_22.1 50 9)).toNatClampNeg)).toInt := by rw [G_S_24 50 9 rfl]; exact ti_eq (G_S_24 53 (((S_22.1 50 9)).toNatClampNeg) rfl)
  have h21 : (S_24.1 53 (((S_9.1 50 9)).toNatClampNeg)).toInt = (S_22.1 53 (((S_9.1 50 9)).toNatClampNeg)).toInt := ti_eq (G_S_24 53 (((S_9.1 50 9)).toNatClampNeg) rfl)
  exact Sf.so ⟨I_S_24, F_S_24, trivial⟩
theorem s_fX6_followAlias (fu : Nat) (hfu : 1000000000000000000 ≤ fu) (x1 : Int32) (S : St) (I_S : Inv S) : Sf (fX6_followAlias fu x1 S) (fun U r => Inv U ∧ Fr [(49, 6), (49, 12), (50, 9), (50, 10), (51, 0), (53, 0), (56, 0), (58, 0), (60, 0)] S U ∧ (True)) := by
  unfold fX6_followAlias
  have F_S : Fr [(49, 6), (49, 12), (50, 9), (50, 10), (51, 0), (53, 0), (56, 0), (58, 0), (60, 0)] S S := Fr.refl _ _
  refine Sf.bp (s_fX2_topChains fu hfu S I_S) (fun r_4 p_r_4 => ?_)
  have h1 := i32 r_4
  refine Sf.i (fun c_h2 => ?_) (fun c_h2 => ?_)
  · have h3 := lt_iv rfl li_8 c_h2
    have h4 := i32 x1
    have h5 : ((0 : Int32)).toInt = 0 := li_0
    refine Sf.bp (s_fX1_valueOf fu hfu x1 (0 : Int32) S I_S) (fun r_31 p_r_31 => ?_)
    have h6 := i32 r_31
    refine Sf.b (s_fX2_follow fu hfu r_31 S I_S) (fun S_34 r_34_ p_r_34_ => ?_)
    obtain ⟨I_S_34, G_S_34, p_r_34_⟩ := p_r_34_
    have F_S_34 := Fr.tr F_S G_S_34 rfl
    exact Sf.so ⟨I_S_34, F_S_34, trivial⟩
  · have h7 := nlt_iv rfl li_8 c_h2
    have h8 : ((3 : Int32)).toInt = 3 := li_3
    have h9 : ((-1 : Int32)).toInt = -1 := li_m1
    refine Sf.b (s_fX6_endFrame fu hfu (3 : Int32) (-1 : Int32) S I_S) (fun S_15 r_15_ p_r_15_ => ?_)
    obtain ⟨I_S_15, G_S_15, p_r_15_⟩ := p_r_15_
    have F_S_15 := Fr.tr F_S G_S_15 rfl
    exact Sf.so ⟨I_S_15, F_S_15, trivial⟩
theorem s_fX6_move (fu : Nat) (hfu : 1000000000000000000 ≤ fu) (S : St) (I_S : Inv S) : Sf (fX6_move fu S) (fun U r => Inv U ∧ Fr [(49, 6), (49, 7), (49, 8), (49, 9), (49, 10), (49, 12), (50, 9), (50, 10), (51, 0), (52, 0), (53, 0), (54, 0), (55, 0), (56, 0), (57, 0), (58, 0), (60, 0)] S U ∧ (True)) := by
  unfold fX6_move
  have F_S : Fr [(49, 6), (49, 7), (49, 8), (49, 9), (49, 10), (49, 12), (50, 9), (50, 10), (51, 0), (52, 0), (53, 0), (54, 0), (55, 0), (56, 0), (57, 0), (58, 0), (60, 0)] S S := Fr.refl _ _
  refine Sf.bp (s_fX2_topName fu hfu S I_S) (fun r_4 p_r_4 => ?_)
  refine Sf.bp (s_fX2_topType fu hfu S I_S) (fun r_12 p_r_12 => ?_)
  have h1 := i32 r_4
  have h2 := i32 r_12
  have h3 := b_42_6 I_S
  refine Sf.bp (s_fX1_setOf fu hfu r_4 r_12 S I_S) (fun r_22 p_r_22 => ?_)
  have h4 := i32 r_22
  refine Sf.i (fun c_h5 => ?_) (fun c_h5 => ?_)
  · have h6 := eq_iv rfl li_m1 c_h5
    refine Sf.i (fun c_h7 => ?_) (fun c_h7 => ?_)
    · have h8 := eq_iv rfl li_5 c_h7
      unfold fX6_move_56
      refine Sf.it (by decide) ?_
      have h9 : ((0 : Int32)).toInt = 0 := li_0
      refine Sf.bp (s_fX1_held fu hfu r_4 (0 : Int32) S I_S) (fun r_79 p_r_79 => ?_)
      have h10 := i32 r_79
      refine Sf.i (fun c_h11 => ?_) (fun c_h11 => ?_)
      · have h12 := eq_iv rfl li_0 c_h11
        have h13 : ((2 : Int32)).toInt = 2 := li_2
        have h14 : ((-1 : Int32)).toInt = -1 := li_m1
        refine Sf.b (s_fX6_endFrame fu hfu (2 : Int32) (-1 : Int32) S I_S) (fun S_88 r_88_ p_r_88_ => ?_)
        obtain ⟨I_S_88, G_S_88, p_r_88_⟩ := p_r_88_
        have F_S_88 := Fr.tr F_S G_S_88 rfl
        have h15 := ti_eq (G_S_88 42 6 rfl)
        exact Sf.so ⟨I_S_88, F_S_88, trivial⟩
      · have h16 := neq_iv rfl li_0 c_h11
        refine Sf.bp (s_fX1_held fu hfu r_4 r_12 S I_S) (fun r_100 p_r_100 => ?_)
        have h17 := i32 r_100
        refine Sf.i (fun c_h18 => ?_) (fun c_h18 => ?_)
        · have h19 := eq_iv rfl li_0 c_h18
          have h20 : ((1 : Int32)).toInt = 1 := li_1
          have h21 : ((-1 : Int32)).toInt = -1 := li_m1
          refine Sf.b (s_fX6_endFrame fu hfu (1 : Int32) (-1 : Int32) S I_S) (fun S_109 r_109_ p_r_109_ => ?_)
          obtain ⟨I_S_109, G_S_109, p_r_109_⟩ := p_r_109_
          have F_S_109 := Fr.tr F_S G_S_109 rfl
          have h22 := ti_eq (G_S_109 42 6 rfl)
          exact Sf.so ⟨I_S_109, F_S_109, trivial⟩
        · have h23 := neq_iv rfl li_0 c_h18
          refine Sf.b (s_fX6_moveOut fu hfu r_4 S I_S) (fun S_117 r_117_ p_r_117_ => ?_)
          obtain ⟨I_S_117, G_S_117, p_r_117_⟩ := p_r_117_
          have F_S_117 := Fr.tr F_S G_S_117 rfl
          have h24 := ti_eq (G_S_117 42 6 rfl)
          exact Sf.so ⟨I_S_117, F_S_117, trivial⟩
    · have h25 := neq_iv rfl li_5 c_h7
      have h26 : ((5 : Int32)).toInt = 5 := li_5
      refine Sf.bp (s_fX1_setOf fu hfu r_4 (5 : Int32) S I_S) (fun r_53 p_r_53 => ?_)
      unfold fX6_move_56
      have h27 := i32 r_53
      refine Sf.i (fun c_h28 => ?_) (fun c_h28 => ?_)
      · have h29 := eq_iv rfl li_m1 c_h28
        have h30 : ((0 : Int32)).toInt = 0 := li_0
        refine Sf.bp (s_fX1_held fu hfu r_4 (0 : Int32) S I_S) (fun r_79 p_r_79 => ?_)
        have h31 := i32 r_79
        refine Sf.i (fun c_h32 => ?_) (fun c_h32 => ?_)
        · have h33 := eq_iv rfl li_0 c_h32
          have h34 : ((2 : Int32)).toInt = 2 := li_2
          have h35 : ((-1 : Int32)).toInt = -1 := li_m1
          refine Sf.b (s_fX6_endFrame fu hfu (2 : Int32) (-1 : Int32) S I_S) (fun S_88 r_88_ p_r_88_ => ?_)
          obtain ⟨I_S_88, G_S_88, p_r_88_⟩ := p_r_88_
          have F_S_88 := Fr.tr F_S G_S_88 rfl
          have h36 := ti_eq (G_S_88 42 6 rfl)
          exact Sf.so ⟨I_S_88, F_S_88, trivial⟩
        · have h37 := neq_iv rfl li_0 c_h32
          refine Sf.bp (s_fX1_held fu hfu r_4 r_12 S I_S) (fun r_100 p_r_100 => ?_)
          have h38 := i32 r_100
          refine Sf.i (fun c_h39 => ?_) (fun c_h39 => ?_)
          · have h40 := eq_iv rfl li_0 c_h39
            have h41 : ((1 : Int32)).toInt = 1 := li_1
            have h42 : ((-1 : Int32)).toInt = -1 := li_m1
            refine Sf.b (s_fX6_endFrame fu hfu (1 : Int32) (-1 : Int32) S I_S) (fun S_109 r_109_ p_r_109_ => ?_)
            obtain ⟨I_S_109, G_S_109, p_r_109_⟩ := p_r_109_
            have F_S_109 := Fr.tr F_S G_S_109 rfl
            have h43 := ti_eq (G_S_109 42 6 rfl)
            exact Sf.so ⟨I_S_109, F_S_109, trivial⟩
          · have h44 := neq_iv rfl li_0 c_h39
            refine Sf.b (s_fX6_moveOut fu hfu r_4 S I_S) (fun S_117 r_117_ p_r_117_ => ?_)
            obtain ⟨I_S_117, G_S_117, p_r_117_⟩ := p_r_117_
            have F_S_117 := Fr.tr F_S G_S_117 rfl
            have h45 := ti_eq (G_S_117 42 6 rfl)
            exact Sf.so ⟨I_S_117, F_S_117, trivial⟩
      · have h46 := neq_iv rfl li_m1 c_h28
        refine Sf.b (s_fX6_followAlias fu hfu r_53 S I_S) (fun S_67 r_67_ p_r_67_ => ?_)
        obtain ⟨I_S_67, G_S_67, p_r_67_⟩ := p_r_67_
        have F_S_67 := Fr.tr F_S G_S_67 rfl
        have h47 := ti_eq (G_S_67 42 6 rfl)
        exact Sf.so ⟨I_S_67, F_S_67, trivial⟩
  · have h48 := neq_iv rfl li_m1 c_h5
    have h49 : ((0 : Int32)).toInt = 0 := li_0
    refine Sf.b (s_fX6_endFrame fu hfu (0 : Int32) r_22 S I_S) (fun S_34 r_34_ p_r_34_ => ?_)
    obtain ⟨I_S_34, G_S_34, p_r_34_⟩ := p_r_34_
    have F_S_34 := Fr.tr F_S G_S_34 rfl
    have h50 := ti_eq (G_S_34 42 6 rfl)
    exact Sf.so ⟨I_S_34, F_S_34, trivial⟩
theorem s_fX6_goOn_7 (fu : Nat) (hfu : 1000000000000000000 ≤ fu) : ∀ (n : Nat) (x1 : Int32) (S : St), Inv S → (0 ≤ (x1).toInt) → (1000000 - (x1).toInt).toNat < n → Sf (fX6_goOn_7 fu n x1 S) (fun U r => Inv U ∧ Fr [(49, 6), (49, 7), (49, 8), (49, 9), (49, 10), (49, 12), (50, 9), (50, 10), (51, 0), (52, 0), (53, 0), (54, 0), (55, 0), (56, 0), (57, 0), (58, 0), (60, 0)] S U ∧ (True)) := by
  intro n
  induction n with
  | zero => intro x1 S I_S g0 hm; exact absurd hm (Nat.not_lt_zero _)
  | succ n ih =>
    intro x1 S I_S g0 hm
    rw [fX6_goOn_7_s]
    have F_S : Fr [(49, 6), (49, 7), (49, 8), (49, 9), (49, 10), (49, 12), (50, 9), (50, 10), (51, 0), (52, 0), (53, 0), (54, 0), (55, 0), (56, 0), (57, 0), (58, 0), (60, 0)] S S := Fr.refl _ _
    have h1 := i32 x1
    refine Sf.i (fun c_h2 => ?_) (fun c_h2 => ?_)
    · have h3 := le_iv li_1000000 rfl c_h2
      unfold fX6_goOn_38
      have h4 := b_49_8 I_S
      refine Sf.i (fun c_h5 => ?_) (fun c_h5 => ?_)
      · have h6 := eq_iv rfl li_0 c_h5
        refine Sf.i (fun c_h7 => ?_) (fun c_h7 => ?_)
        · have h8 := eq_iv rfl li_4 c_h7
          refine Sf.w I_S F_S rfl (i32 _).1 (i32 _).2 (fun S_55 I_S_55 F_S_55 v_S_55 f_S_55 l_S_55 => ?_)
          have h9 := eq_iv rfl li_3 v_S_55
          have h10 := ti_eq (f_S_55 49 8 (fun _ e => absurd e (by decide)))
          unfold fX6_goOn_58
          have h11 := b_49_8 I_S_55
          refine Sf.i (fun c_h12 => ?_) (fun c_h12 => ?_)
          · have h13 := eq_iv rfl li_0 c_h12
            exact Sf.so ⟨I_S_55, F_S_55, trivial⟩
          · have h14 := neq_iv rfl li_0 c_h12
            exact Sf.so ⟨I_S_55, F_S_55, trivial⟩
        · have h15 := neq_iv rfl li_4 c_h7
          unfold fX6_goOn_58
          refine Sf.i (fun c_h16 => ?_) (fun c_h16 => ?_)
          · have h17 := eq_iv rfl li_0 c_h16
            exact Sf.so ⟨I_S, F_S, trivial⟩
          · have h18 := neq_iv rfl li_0 c_h16
            exact Sf.so ⟨I_S, F_S, trivial⟩
      · have h19 := neq_iv rfl li_0 c_h5
        unfold fX6_goOn_58
        refine Sf.i (fun c_h20 => ?_) (fun c_h20 => ?_)
        · have h21 := eq_iv rfl li_0 c_h20
          exact Sf.so ⟨I_S, F_S, trivial⟩
        · have h22 := neq_iv rfl li_0 c_h20
          exact Sf.so ⟨I_S, F_S, trivial⟩
    · have h23 := nle_iv li_1000000 rfl c_h2
      refine Sf.i (fun c_h24 => ?_) (fun c_h24 => ?_)
      · have h25 := eq_iv rfl li_4 c_h24
        have h26 := b_49_8 I_S
        refine Sf.i (fun c_h27 => ?_) (fun c_h27 => ?_)
        · have h28 := eq_iv rfl li_0 c_h27
          refine Sf.b (s_fX6_move fu hfu S I_S) (fun S_29 r_29_ p_r_29_ => ?_)
          obtain ⟨I_S_29, G_S_29, p_r_29_⟩ := p_r_29_
          have F_S_29 := Fr.tr F_S G_S_29 rfl
          try have h29 : ((x1 + (1 : Int32))).toInt = (x1).toInt + (1) := add_iv rfl li_1 (by omega) (by omega)
          refine Sf.mono (ih (x1 + (1 : Int32)) S_29 I_S_29 (by omega) (by omega)) (fun U r p_h30 => ?_)
          obtain ⟨I_U, G_U, p_h30⟩ := p_h30
          exact ⟨I_U, Fr.tr F_S_29 G_U rfl, trivial⟩
        · have h31 := neq_iv rfl li_0 c_h27
          unfold fX6_goOn_38
          refine Sf.i (fun c_h32 => ?_) (fun c_h32 => ?_)
          · have h33 := eq_iv rfl li_0 c_h32
            refine Sf.i (fun c_h34 => ?_) (fun c_h34 => ?_)
            · have h35 := eq_iv rfl li_4 c_h34
              refine Sf.w I_S F_S rfl (i32 _).1 (i32 _).2 (fun S_55 I_S_55 F_S_55 v_S_55 f_S_55 l_S_55 => ?_)
              have h36 := eq_iv rfl li_3 v_S_55
              have h37 := ti_eq (f_S_55 49 8 (fun _ e => absurd e (by decide)))
              unfold fX6_goOn_58
              have h38 := b_49_8 I_S_55
              refine Sf.i (fun c_h39 => ?_) (fun c_h39 => ?_)
              · have h40 := eq_iv rfl li_0 c_h39
                exact Sf.so ⟨I_S_55, F_S_55, trivial⟩
              · have h41 := neq_iv rfl li_0 c_h39
                exact Sf.so ⟨I_S_55, F_S_55, trivial⟩
            · have h42 := neq_iv rfl li_4 c_h34
              unfold fX6_goOn_58
              refine Sf.i (fun c_h43 => ?_) (fun c_h43 => ?_)
              · have h44 := eq_iv rfl li_0 c_h43
                exact Sf.so ⟨I_S, F_S, trivial⟩
              · have h45 := neq_iv rfl li_0 c_h43
                exact Sf.so ⟨I_S, F_S, trivial⟩
          · have h46 := neq_iv rfl li_0 c_h32
            unfold fX6_goOn_58
            refine Sf.i (fun c_h47 => ?_) (fun c_h47 => ?_)
            · have h48 := eq_iv rfl li_0 c_h47
              exact Sf.so ⟨I_S, F_S, trivial⟩
            · have h49 := neq_iv rfl li_0 c_h47
              exact Sf.so ⟨I_S, F_S, trivial⟩
      · have h50 := neq_iv rfl li_4 c_h24
        unfold fX6_goOn_38
        have h51 := b_49_8 I_S
        refine Sf.i (fun c_h52 => ?_) (fun c_h52 => ?_)
        · have h53 := eq_iv rfl li_0 c_h52
          refine Sf.i (fun c_h54 => ?_) (fun c_h54 => ?_)
          · have h55 := eq_iv rfl li_4 c_h54
            refine Sf.w I_S F_S rfl (i32 _).1 (i32 _).2 (fun S_55 I_S_55 F_S_55 v_S_55 f_S_55 l_S_55 => ?_)
            have h56 := eq_iv rfl li_3 v_S_55
            have h57 := ti_eq (f_S_55 49 8 (fun _ e => absurd e (by decide)))
            unfold fX6_goOn_58
            have h58 := b_49_8 I_S_55
            refine Sf.i (fun c_h59 => ?_) (fun c_h59 => ?_)
            · have h60 := eq_iv rfl li_0 c_h59
              exact Sf.so ⟨I_S_55, F_S_55, trivial⟩
            · have h61 := neq_iv rfl li_0 c_h59
              exact Sf.so ⟨I_S_55, F_S_55, trivial⟩
          · have h62 := neq_iv rfl li_4 c_h54
            unfold fX6_goOn_58
            refine Sf.i (fun c_h63 => ?_) (fun c_h63 => ?_)
            · have h64 := eq_iv rfl li_0 c_h63
              exact Sf.so ⟨I_S, F_S, trivial⟩
            · have h65 := neq_iv rfl li_0 c_h63
              exact Sf.so ⟨I_S, F_S, trivial⟩
        · have h66 := neq_iv rfl li_0 c_h52
          unfold fX6_goOn_58
          refine Sf.i (fun c_h67 => ?_) (fun c_h67 => ?_)
          · have h68 := eq_iv rfl li_0 c_h67
            exact Sf.so ⟨I_S, F_S, trivial⟩
          · have h69 := neq_iv rfl li_0 c_h67
            exact Sf.so ⟨I_S, F_S, trivial⟩
theorem s_fX6_goOn (fu : Nat) (hfu : 1000000000000000000 ≤ fu) (S : St) (I_S : Inv S) : Sf (fX6_goOn fu S) (fun U r => Inv U ∧ Fr [(49, 6), (49, 7), (49, 8), (49, 9), (49, 10), (49, 12), (50, 9), (50, 10), (51, 0), (52, 0), (53, 0), (54, 0), (55, 0), (56, 0), (57, 0), (58, 0), (60, 0)] S U ∧ (True)) := by
  unfold fX6_goOn
  have F_S : Fr [(49, 6), (49, 7), (49, 8), (49, 9), (49, 10), (49, 12), (50, 9), (50, 10), (51, 0), (52, 0), (53, 0), (54, 0), (55, 0), (56, 0), (57, 0), (58, 0), (60, 0)] S S := Fr.refl _ _
  refine Sf.w I_S F_S rfl (show ((0) : Int) ≤ ((0 : Int32)).toInt by rw [li_0]; omega) (show ((0 : Int32)).toInt ≤ (1 : Int) by rw [li_0]; omega) (fun S_2 I_S_2 F_S_2 v_S_2 f_S_2 l_S_2 => ?_)
  have h1 := ti_eq (f_S_2 49 5 (fun _ e => absurd e (by decide)))
  have h2 := eq_iv rfl li_0 v_S_2
  have h3 : ((0 : Int32)).toInt = 0 := li_0
  refine Sf.mono (s_fX6_goOn_7 fu hfu fu (0 : Int32) S_2 I_S_2 (by omega) (by omega)) (fun U r p_h4 => ?_)
  obtain ⟨I_U, G_U, p_h4⟩ := p_h4
  exact ⟨I_U, Fr.tr F_S_2 G_U rfl, trivial⟩
theorem s_fX11_ask (fu : Nat) (hfu : 1000000000000000000 ≤ fu) (x1 : Int32) (x2 : Int32) (S : St) (I_S : Inv S) : Sf (fX11_ask fu x1 x2 S) (fun U r => Inv U ∧ Fr [(49, 6), (49, 7), (49, 8), (49, 9), (49, 10), (49, 12), (50, 9), (50, 10), (51, 0), (52, 0), (53, 0), (54, 0), (55, 0), (56, 0), (57, 0), (58, 0), (60, 0)] S U ∧ (((r.1 = 0 ∨ r.1 = 3 ∨ r.1 = 5 ∨ r.1 = 1)))) := by
  unfold fX11_ask
  have F_S : Fr [(49, 6), (49, 7), (49, 8), (49, 9), (49, 10), (49, 12), (50, 9), (50, 10), (51, 0), (52, 0), (53, 0), (54, 0), (55, 0), (56, 0), (57, 0), (58, 0), (60, 0)] S S := Fr.refl _ _
  have h1 := i32 x1
  have h2 := b_3_3 I_S
  refine Sf.xp (s_fX11_needName fu hfu x1 S I_S) (fun r_2_ p_r_2_ => ?_) (fun k r p_e => ?_)
  rotate_left
  · have p_e : (((k + 1) = 0 ∧ 0 ≤ (x1).toInt ∧ (x1).toInt < (S.1 3 3).toInt ∨ (k + 1) = 3)) := p_e
    exact ⟨I_S, F_S, (show (((k + 1) = 0 ∨ (k + 1) = 3 ∨ (k + 1) = 5 ∨ (k + 1) = 1)) by omega)⟩
  have p_r_2_ : (((0 : Nat) = 0 ∧ 0 ≤ (x1).toInt ∧ (x1).toInt < (S.1 3 3).toInt ∨ (0 : Nat) = 3)) := p_r_2_
  refine Sf.bp (s_fX6_state fu hfu S I_S) (fun r_9 p_r_9 => ?_)
  have h3 := i32 r_9
  refine Sf.i (fun c_h4 => ?_) (fun c_h4 => ?_)
  · have h5 := eq_iv rfl li_4 c_h4
    exact Sf.so ⟨I_S, F_S, (show (((5 : Nat) = 0 ∨ (5 : Nat) = 3 ∨ (5 : Nat) = 5 ∨ (5 : Nat) = 1)) by omega)⟩
  · have h6 := neq_iv rfl li_4 c_h4
    have h7 := i32 x2
    refine Sf.bp (s_fX11_isKept fu hfu x2 S I_S) (fun r_28 p_r_28 => ?_)
    have h8 := i32 r_28
    refine Sf.i (fun c_h9 => ?_) (fun c_h9 => ?_)
    · have h10 := eq_iv rfl li_0 c_h9
      exact Sf.so ⟨I_S, F_S, (show (((1 : Nat) = 0 ∨ (1 : Nat) = 3 ∨ (1 : Nat) = 5 ∨ (1 : Nat) = 1)) by omega)⟩
    · have h11 := neq_iv rfl li_0 c_h9
      refine Sf.b (s_fX6_begin fu hfu x1 x2 S I_S) (fun S_51 r_51_ p_r_51_ => ?_)
      obtain ⟨I_S_51, G_S_51, p_r_51_⟩ := p_r_51_
      have F_S_51 := Fr.tr F_S G_S_51 rfl
      have h12 := ti_eq (G_S_51 3 3 rfl)
      refine Sf.b (s_fX6_goOn fu hfu S_51 I_S_51) (fun S_58 r_58 p_r_58 => ?_)
      obtain ⟨I_S_58, G_S_58, p_r_58⟩ := p_r_58
      have F_S_58 := Fr.tr F_S_51 G_S_58 rfl
      have h13 := ti_eq (G_S_58 3 3 rfl)
      exact Sf.so ⟨I_S_58, F_S_58, (show (((0 : Nat) = 0 ∨ (0 : Nat) = 3 ∨ (0 : Nat) = 5 ∨ (0 : Nat) = 1)) by omega)⟩
theorem s_fX6_isWaiting (fu : Nat) (hfu : 1000000000000000000 ≤ fu) (S : St) (I_S : Inv S) : Sp (fX6_isWaiting fu S) S (fun r => (0 ≤ r.toInt) ∧ (r.toInt ≤ 1)) := by
  unfold fX6_isWaiting
  have h1 := b_49_8 I_S
  refine Sp.g (isB_iv (by omega) (by omega)) ?_
  exact Sp.so (by omega)
theorem s_fX11_needQuery (fu : Nat) (hfu : 1000000000000000000 ≤ fu) (S : St) (I_S : Inv S) : Sp (fX11_needQuery fu S) S (fun r => ((r.1 = 0 ∨ r.1 = 5))) := by
  unfold fX11_needQuery
  refine Sp.b (s_fX6_isWaiting fu hfu S I_S) (fun r_4 p_r_4 => ?_)
  have h1 := i32 r_4
  refine Sp.i (fun c_h2 => ?_) (fun c_h2 => ?_)
  · have h3 := eq_iv rfl li_0 c_h2
    exact Sp.so (show (((5 : Nat) = 0 ∨ (5 : Nat) = 5)) by omega)
  · have h4 := neq_iv rfl li_0 c_h2
    exact Sp.so (show (((0 : Nat) = 0 ∨ (0 : Nat) = 5)) by omega)
theorem s_fX6_address (fu : Nat) (hfu : 1000000000000000000 ≤ fu) (S : St) (I_S : Inv S) : Sp (fX6_address fu S) S (fun r => True) := by
  unfold fX6_address
  exact Sp.so trivial
theorem s_fX6_askedName (fu : Nat) (hfu : 1000000000000000000 ≤ fu) (S : St) (I_S : Inv S) : Sp (fX6_askedName fu S) S (fun r => True) := by
  unfold fX6_askedName
  refine Sp.b (s_fX2_topName fu hfu S I_S) (fun r_4 p_r_4 => ?_)
  exact Sp.so trivial
theorem s_fX6_askedType (fu : Nat) (hfu : 1000000000000000000 ≤ fu) (S : St) (I_S : Inv S) : Sp (fX6_askedType fu S) S (fun r => True) := by
  unfold fX6_askedType
  refine Sp.b (s_fX2_topType fu hfu S I_S) (fun r_4 p_r_4 => ?_)
  exact Sp.so trivial
theorem s_fX6_id (fu : Nat) (hfu : 1000000000000000000 ≤ fu) (S : St) (I_S : Inv S) : Sp (fX6_id fu S) S (fun r => True) := by
  unfold fX6_id
  exact Sp.so trivial
theorem s_fX0_at_19 (fu : Nat) (hfu : 1000000000000000000 ≤ fu) (x1 : Int32) (S : St) (I_S : Inv S) : Sp (fX0_at fu 19 x1 S) S (fun r => True) := by
  unfold fX0_at
  try simp only [Nat.reduceAdd]
  have h1 := i32 x1
  refine Sp.i (fun c_h2 => ?_) (fun c_h2 => ?_)
  · have h3 := lt_iv rfl li_0 c_h2
    exact Sp.so trivial
  · have h4 := nlt_iv rfl li_0 c_h2
    have h5 := b_19_1 I_S
    refine Sp.i (fun c_h6 => ?_) (fun c_h6 => ?_)
    · have h7 := le_iv rfl rfl c_h6
      exact Sp.so trivial
    · have h8 := nle_iv rfl rfl c_h6
      refine Sp.g (ck_iv (by omega) (by omega)) ?_
      exact Sp.so trivial
theorem s_fX0_two_19 (fu : Nat) (hfu : 1000000000000000000 ≤ fu) (x1 : Int32) (S : St) (I_S : Inv S) : Sp (fX0_two fu 19 x1 S) S (fun r => True) := by
  unfold fX0_two
  try simp only [Nat.reduceAdd]
  have h1 := i32 x1
  refine Sp.b (s_fX0_at_19 fu hfu x1 S I_S) (fun r_2 p_r_2 => ?_)
  try have h2 : ((x1 + (1 : Int32))).toInt = (x1).toInt + (1) := add_iv rfl li_1 (by omega) (by omega)
  refine Sp.b (s_fX0_at_19 fu hfu (x1 + (1 : Int32)) S I_S) (fun r_12 p_r_12 => ?_)
  exact Sp.so trivial
theorem s_fX4_readLabel_21_19 (fu : Nat) (hfu : 1000000000000000000 ≤ fu) : ∀ (n : Nat) (x2 : Int32) (x3 : Int32) (x4 : Int32) (S : St), Inv S → (1 ≤ (x4).toInt) → ((x3).toInt ≤ 10) → (11 - (x4).toInt).toNat < n → Sf (fX4_readLabel_21 fu 19 n x2 x3 x4 S) (fun U r => Inv U ∧ Fr [(29, 0)] S U ∧ (True)) := by
  intro n
  induction n with
  | zero => intro x2 x3 x4 S I_S g0 g1 hm; exact absurd hm (Nat.not_lt_zero _)
  | succ n ih =>
    intro x2 x3 x4 S I_S g0 g1 hm
    rw [fX4_readLabel_21_s]
    try simp only [Nat.reduceAdd]
    have F_S : Fr [(29, 0)] S S := Fr.refl _ _
    have h1 := i32 x3
    have h2 := i32 x4
    refine Sf.i (fun c_h3 => ?_) (fun c_h3 => ?_)
    · have h4 := lt_iv rfl rfl c_h3
      exact Sf.so ⟨I_S, F_S, trivial⟩
    · have h5 := nlt_iv rfl rfl c_h3
      have h6 := i32 x2
      try have h7 : ((x2 + x4)).toInt = (x2).toInt + (x4).toInt := add_iv rfl rfl (by omega) (by omega)
      refine Sf.bp (s_fX0_at_19 fu hfu (x2 + x4) S I_S) (fun r_32 p_r_32 => ?_)
      have h8 := i32 r_32
      refine Sf.i (fun c_h9 => ?_) (fun c_h9 => ?_)
      · have h10 := eq_iv rfl li_m1 c_h9
        exact Sf.so ⟨I_S, F_S, trivial⟩
      · have h11 := neq_iv rfl li_m1 c_h9
        refine Sf.b (s_fX8_add_27 fu hfu r_32 S I_S) (fun S_51 r_51 p_r_51 => ?_)
        obtain ⟨I_S_51, G_S_51, p_r_51⟩ := p_r_51
        have F_S_51 := Fr.tr F_S G_S_51 rfl
        have h12 := i32 r_51
        refine Sf.i (fun c_h13 => ?_) (fun c_h13 => ?_)
        · have h14 := eq_iv rfl li_0 c_h13
          exact Sf.so ⟨I_S_51, F_S_51, trivial⟩
        · have h15 := neq_iv rfl li_0 c_h13
          try have h16 : ((x4 + (1 : Int32))).toInt = (x4).toInt + (1) := add_iv rfl li_1 (by omega) (by omega)
          refine Sf.mono (ih x2 x3 (x4 + (1 : Int32)) S_51 I_S_51 (by omega) (by omega) (by omega)) (fun U r p_h17 => ?_)
          obtain ⟨I_U, G_U, p_h17⟩ := p_h17
          exact ⟨I_U, Fr.tr F_S_51 G_U rfl, trivial⟩
theorem s_fX4_readLabel_19 (fu : Nat) (hfu : 1000000000000000000 ≤ fu) (x2 : Int32) (x3 : Int32) (S : St) (I_S : Inv S) : Sf (fX4_readLabel fu 19 x2 x3 S) (fun U r => Inv U ∧ Fr [(27, 3), (29, 0)] S U ∧ (True)) := by
  unfold fX4_readLabel
  try simp only [Nat.reduceAdd]
  have F_S : Fr [(27, 3), (29, 0)] S S := Fr.refl _ _
  have h1 := i32 x3
  refine Sf.i (fun c_h2 => ?_) (fun c_h2 => ?_)
  · have h3 := lt_iv li_10 rfl c_h2
    exact Sf.so ⟨I_S, F_S, trivial⟩
  · have h4 := nlt_iv li_10 rfl c_h2
    refine Sf.b (s_fX8_open_27 fu hfu S I_S) (fun S_10 r_10 p_r_10 => ?_)
    obtain ⟨I_S_10, G_S_10, p_r_10⟩ := p_r_10
    have F_S_10 := Fr.tr F_S G_S_10 rfl
    have h5 := i32 r_10
    refine Sf.i (fun c_h6 => ?_) (fun c_h6 => ?_)
    · have h7 := eq_iv rfl li_0 c_h6
      exact Sf.so ⟨I_S_10, F_S_10, trivial⟩
    · have h8 := neq_iv rfl li_0 c_h6
      have h9 := i32 x2
      have h10 : ((1 : Int32)).toInt = 1 := li_1
      refine Sf.mono (s_fX4_readLabel_21_19 fu hfu fu x2 x3 (1 : Int32) S_10 I_S_10 (by omega) (by omega) (by omega)) (fun U r p_h11 => ?_)
      obtain ⟨I_U, G_U, p_h11⟩ := p_h11
      exact ⟨I_U, Fr.tr F_S_10 G_U rfl, trivial⟩
theorem s_fX4_readName_23_19 (fu : Nat) (hfu : 1000000000000000000 ≤ fu) : ∀ (n : Nat) (x2 : Int32) (x3 : Int32) (x4 : Int32) (x5 : Int32) (S : St), Inv S → (0 ≤ (x5).toInt) → (1012 - (x5).toInt).toNat < n → Sf (fX4_readName_23 fu 19 n x2 x3 x4 x5 S) (fun U r => Inv U ∧ Fr [(3, 4), (4, 0), (6, 0), (26, 9), (26, 10), (27, 3), (29, 0)] S U ∧ (True)) := by
  intro n
  induction n with
  | zero => intro x2 x3 x4 x5 S I_S g0 hm; exact absurd hm (Nat.not_lt_zero _)
  | succ n ih =>
    intro x2 x3 x4 x5 S I_S g0 hm
    rw [fX4_readName_23_s]
    try simp only [Nat.reduceAdd]
    have F_S : Fr [(3, 4), (4, 0), (6, 0), (26, 9), (26, 10), (27, 3), (29, 0)] S S := Fr.refl _ _
    have h1 := i32 x5
    refine Sf.i (fun c_h2 => ?_) (fun c_h2 => ?_)
    · have h3 := le_iv li_1012 rfl c_h2
      exact Sf.so ⟨I_S, F_S, trivial⟩
    · have h4 := nle_iv li_1012 rfl c_h2
      have h5 := i32 x3
      refine Sf.bp (s_fX0_at_19 fu hfu x3 S I_S) (fun r_33 p_r_33 => ?_)
      have h6 := i32 r_33
      refine Sf.i (fun c_h7 => ?_) (fun c_h7 => ?_)
      · have h8 := eq_iv rfl li_m1 c_h7
        exact Sf.so ⟨I_S, F_S, trivial⟩
      · have h9 := neq_iv rfl li_m1 c_h7
        refine Sf.i (fun c_h10 => ?_) (fun c_h10 => ?_)
        · have h11 := eq_iv rfl li_0 c_h10
          have h12 := i32 x4
          refine Sf.i (fun c_h13 => ?_) (fun c_h13 => ?_)
          · have h14 := eq_iv rfl li_m1 c_h13
            unfold fX4_readName_66
            try simp only [Nat.reduceAdd]
            try have h15 : ((x3 + (1 : Int32))).toInt = (x3).toInt + (1) := add_iv rfl li_1 (by omega) (by omega)
            refine Sf.w I_S F_S rfl (i32 _).1 (i32 _).2 (fun S_66 I_S_66 F_S_66 v_S_66 f_S_66 l_S_66 => ?_)
            have h16 := ti_eq (f_S_66 26 9 (fun _ e => absurd e (by decide)))
            refine Sf.b (s_fX3_made_27 fu hfu S_66 I_S_66) (fun S_78 r_78 p_r_78 => ?_)
            obtain ⟨I_S_78, G_S_78, p_r_78⟩ := p_r_78
            have F_S_78 := Fr.tr F_S_66 G_S_78 rfl
            have h17 := ti_eq (G_S_78 26 9 rfl)
            have h18 := i32 r_78
            refine Sf.w I_S_78 F_S_78 rfl (i32 _).1 (i32 _).2 (fun S_81 I_S_81 F_S_81 v_S_81 f_S_81 l_S_81 => ?_)
            have h19 := eq_iv rfl rfl v_S_81
            refine Sf.i (fun c_h20 => ?_) (fun c_h20 => ?_)
            · have h21 := eq_iv rfl li_m1 c_h20
              exact Sf.so ⟨I_S_81, F_S_81, trivial⟩
            · have h22 := neq_iv rfl li_m1 c_h20
              exact Sf.so ⟨I_S_81, F_S_81, trivial⟩
          · have h23 := neq_iv rfl li_m1 c_h13
            unfold fX4_readName_66
            try simp only [Nat.reduceAdd]
            refine Sf.w I_S F_S rfl (i32 _).1 (i32 _).2 (fun S_66 I_S_66 F_S_66 v_S_66 f_S_66 l_S_66 => ?_)
            have h24 := ti_eq (f_S_66 26 9 (fun _ e => absurd e (by decide)))
            refine Sf.b (s_fX3_made_27 fu hfu S_66 I_S_66) (fun S_78 r_78 p_r_78 => ?_)
            obtain ⟨I_S_78, G_S_78, p_r_78⟩ := p_r_78
            have F_S_78 := Fr.tr F_S_66 G_S_78 rfl
            have h25 := ti_eq (G_S_78 26 9 rfl)
            have h26 := i32 r_78
            refine Sf.w I_S_78 F_S_78 rfl (i32 _).1 (i32 _).2 (fun S_81 I_S_81 F_S_81 v_S_81 f_S_81 l_S_81 => ?_)
            have h27 := eq_iv rfl rfl v_S_81
            refine Sf.i (fun c_h28 => ?_) (fun c_h28 => ?_)
            · have h29 := eq_iv rfl li_m1 c_h28
              exact Sf.so ⟨I_S_81, F_S_81, trivial⟩
            · have h30 := neq_iv rfl li_m1 c_h28
              exact Sf.so ⟨I_S_81, F_S_81, trivial⟩
        · have h31 := neq_iv rfl li_0 c_h10
          refine Sf.i (fun c_h32 => ?_) (fun c_h32 => ?_)
          · have h33 := le_iv li_192 rfl c_h32
            try have h34 : ((x3 + (1 : Int32))).toInt = (x3).toInt + (1) := add_iv rfl li_1 (by omega) (by omega)
            refine Sf.bp (s_fX0_at_19 fu hfu (x3 + (1 : Int32)) S I_S) (fun r_139 p_r_139 => ?_)
            have h35 := i32 r_139
            refine Sf.i (fun c_h36 => ?_) (fun c_h36 => ?_)
            · have h37 := eq_iv rfl li_m1 c_h36
              exact Sf.so ⟨I_S, F_S, trivial⟩
            · have h38 := neq_iv rfl li_m1 c_h36
              have h39 := i32 x2
              have h40 := and_63 (r_33)
              have h41 := and_31 ((8 : Int32))
              try have h42 : ((((r_33 &&& (63 : Int32)) <<< ((8 : Int32) &&& 31)) + r_139)).toInt = (((r_33 &&& (63 : Int32)) <<< ((8 : Int32) &&& 31))).toInt + (r_139).toInt := add_iv rfl rfl (by omega) (by omega)
              refine Sf.i (fun c_h43 => ?_) (fun c_h43 => ?_)
              · have h44 := lt_iv rfl rfl c_h43
                have h45 := i32 x4
                refine Sf.i (fun c_h46 => ?_) (fun c_h46 => ?_)
                · have h47 := eq_iv rfl li_m1 c_h46
                  unfold fX4_readName_187
                  try simp only [Nat.reduceAdd]
                  unfold fX4_readName_195
                  try simp only [Nat.reduceAdd]
                  try have h48 : ((x3 + (2 : Int32))).toInt = (x3).toInt + (2) := add_iv rfl li_2 (by omega) (by omega)
                  try have h49 : ((x5 + (1 : Int32))).toInt = (x5).toInt + (1) := add_iv rfl li_1 (by omega) (by omega)
                  refine Sf.mono (ih (((r_33 &&& (63 : Int32)) <<< ((8 : Int32) &&& 31)) + r_139) (((r_33 &&& (63 : Int32)) <<< ((8 : Int32) &&& 31)) + r_139) (x3 + (2 : Int32)) (x5 + (1 : Int32)) S I_S (by omega) (by omega)) (fun U r p_h50 => ?_)
                  obtain ⟨I_U, G_U, p_h50⟩ := p_h50
                  exact ⟨I_U, Fr.tr F_S G_U rfl, trivial⟩
                · have h51 := neq_iv rfl li_m1 c_h46
                  unfold fX4_readName_187
                  try simp only [Nat.reduceAdd]
                  unfold fX4_readName_195
                  try simp only [Nat.reduceAdd]
                  try have h52 : ((x5 + (1 : Int32))).toInt = (x5).toInt + (1) := add_iv rfl li_1 (by omega) (by omega)
                  refine Sf.mono (ih (((r_33 &&& (63 : Int32)) <<< ((8 : Int32) &&& 31)) + r_139) (((r_33 &&& (63 : Int32)) <<< ((8 : Int32) &&& 31)) + r_139) x4 (x5 + (1 : Int32)) S I_S (by omega) (by omega)) (fun U r p_h53 => ?_)
                  obtain ⟨I_U, G_U, p_h53⟩ := p_h53
                  exact ⟨I_U, Fr.tr F_S G_U rfl, trivial⟩
              · have h54 := nlt_iv rfl rfl c_h43
                exact Sf.so ⟨I_S, F_S, trivial⟩
          · have h55 := nle_iv li_192 rfl c_h32
            refine Sf.b (s_fX4_readLabel_19 fu hfu x3 r_33 S I_S) (fun S_112 r_112 p_r_112 => ?_)
            obtain ⟨I_S_112, G_S_112, p_r_112⟩ := p_r_112
            have F_S_112 := Fr.tr F_S G_S_112 rfl
            have h56 := ti_eq (G_S_112 26 9 rfl)
            have h57 := i32 r_112
            refine Sf.i (fun c_h58 => ?_) (fun c_h58 => ?_)
            · have h59 := eq_iv rfl li_0 c_h58
              unfold fX4_readName_195
              try simp only [Nat.reduceAdd]
              have h60 := i32 x2
              try have h61 : ((r_33 + (1 : Int32))).toInt = (r_33).toInt + (1) := add_iv rfl li_1 (by omega) (by omega)
              try have h62 : ((x3 + (r_33 + (1 : Int32)))).toInt = (x3).toInt + ((r_33 + (1 : Int32))).toInt := add_iv rfl rfl (by omega) (by omega)
              have h63 := i32 x4
              try have h64 : ((x5 + (1 : Int32))).toInt = (x5).toInt + (1) := add_iv rfl li_1 (by omega) (by omega)
              refine Sf.mono (ih x2 (x3 + (r_33 + (1 : Int32))) x4 (x5 + (1 : Int32)) S_112 I_S_112 (by omega) (by omega)) (fun U r p_h65 => ?_)
              obtain ⟨I_U, G_U, p_h65⟩ := p_h65
              exact ⟨I_U, Fr.tr F_S_112 G_U rfl, trivial⟩
            · have h66 := neq_iv rfl li_0 c_h58
              exact Sf.so ⟨I_S_112, F_S_112, trivial⟩
theorem s_fX4_readName_19 (fu : Nat) (hfu : 1000000000000000000 ≤ fu) (S : St) (I_S : Inv S) : Sf (fX4_readName fu 19 S) (fun U r => Inv U ∧ Fr [(3, 4), (4, 0), (6, 0), (26, 9), (26, 10), (27, 3), (29, 0)] S U ∧ (True)) := by
  unfold fX4_readName
  try simp only [Nat.reduceAdd]
  have F_S : Fr [(3, 4), (4, 0), (6, 0), (26, 9), (26, 10), (27, 3), (29, 0)] S S := Fr.refl _ _
  refine Sf.b (s_fX8_clear_27 fu hfu S I_S) (fun S_4 r_4_ p_r_4_ => ?_)
  obtain ⟨I_S_4, G_S_4, p_r_4_⟩ := p_r_4_
  have F_S_4 := Fr.tr F_S G_S_4 rfl
  have h1 := ti_eq (G_S_4 26 8 rfl)
  have h2 := ti_eq (G_S_4 26 9 rfl)
  have h3 : ((-1 : Int32)).toInt = -1 := li_m1
  have h4 : ((0 : Int32)).toInt = 0 := li_0
  refine Sf.mono (s_fX4_readName_23_19 fu hfu fu (S_4.1 26 8) (S_4.1 26 8) (-1 : Int32) (0 : Int32) S_4 I_S_4 (by omega) (by omega)) (fun U r p_h5 => ?_)
  obtain ⟨I_U, G_U, p_h5⟩ := p_h5
  exact ⟨I_U, Fr.tr F_S_4 G_U rfl, trivial⟩
theorem s_fX4_readQuestion_19 (fu : Nat) (hfu : 1000000000000000000 ≤ fu) (S : St) (I_S : Inv S) : Sf (fX4_readQuestion fu 19 S) (fun U r => Inv U ∧ Fr [(3, 4), (4, 0), (6, 0), (26, 6), (26, 7), (26, 8), (26, 9), (26, 10), (27, 3), (29, 0)] S U ∧ (True)) := by
  unfold fX4_readQuestion
  try simp only [Nat.reduceAdd]
  have F_S : Fr [(3, 4), (4, 0), (6, 0), (26, 6), (26, 7), (26, 8), (26, 9), (26, 10), (27, 3), (29, 0)] S S := Fr.refl _ _
  refine Sf.b (s_fX4_readName_19 fu hfu S I_S) (fun S_2 r_2 p_r_2 => ?_)
  obtain ⟨I_S_2, G_S_2, p_r_2⟩ := p_r_2
  have F_S_2 := Fr.tr F_S G_S_2 rfl
  have h1 := ti_eq (G_S_2 19 1 rfl)
  have h2 := i32 r_2
  refine Sf.i (fun c_h3 => ?_) (fun c_h3 => ?_)
  · have h4 := eq_iv rfl li_0 c_h3
    have h5 := b_19_1 I_S_2
    refine Sf.bp (s_fX0_size_19 fu hfu S_2 I_S_2) (fun r_19 p_r_19 => ?_)
    have h6 := i32 r_19
    try have h7 : (((S_2.1 26 8) + (4 : Int32))).toInt = ((S_2.1 26 8)).toInt + (4) := add_iv rfl li_4 (by omega) (by omega)
    refine Sf.i (fun c_h8 => ?_) (fun c_h8 => ?_)
    · have h9 := le_iv rfl rfl c_h8
      refine Sf.w I_S_2 F_S_2 rfl (i32 _).1 (i32 _).2 (fun S_32 I_S_32 F_S_32 v_S_32 f_S_32 l_S_32 => ?_)
      have h10 := ti_eq (f_S_32 19 1 (fun e => absurd e (by decide)))
      have h11 := ti_eq (f_S_32 26 8 (fun _ e => absurd e (by decide)))
      have h12 := ti_eq (f_S_32 26 9 (fun _ e => absurd e (by decide)))
      refine Sf.bp (s_fX0_two_19 fu hfu (S_32.1 26 8) S_32 I_S_32) (fun r_41 p_r_41 => ?_)
      have h13 := i32 r_41
      refine Sf.w I_S_32 F_S_32 rfl (i32 _).1 (i32 _).2 (fun S_44 I_S_44 F_S_44 v_S_44 f_S_44 l_S_44 => ?_)
      have h14 := ti_eq (f_S_44 19 1 (fun e => absurd e (by decide)))
      have h15 := ti_eq (f_S_44 26 8 (fun _ e => absurd e (by decide)))
      have h16 := ti_eq (f_S_44 26 9 (fun _ e => absurd e (by decide)))
      try have h17 : (((S_44.1 26 8) + (2 : Int32))).toInt = ((S_44.1 26 8)).toInt + (2) := add_iv rfl li_2 (by omega) (by omega)
      refine Sf.bp (s_fX0_two_19 fu hfu ((S_44.1 26 8) + (2 : Int32)) S_44 I_S_44) (fun r_55 p_r_55 => ?_)
      have h18 := i32 r_55
      refine Sf.w I_S_44 F_S_44 rfl (i32 _).1 (i32 _).2 (fun S_58 I_S_58 F_S_58 v_S_58 f_S_58 l_S_58 => ?_)
      have h19 := ti_eq (f_S_58 19 1 (fun e => absurd e (by decide)))
      have h20 := ti_eq (f_S_58 26 8 (fun _ e => absurd e (by decide)))
      have h21 := ti_eq (f_S_58 26 9 (fun _ e => absurd e (by decide)))
      try have h22 : (((S_58.1 26 8) + (4 : Int32))).toInt = ((S_58.1 26 8)).toInt + (4) := add_iv rfl li_4 (by omega) (by omega)
      refine Sf.w I_S_58 F_S_58 rfl (i32 _).1 (i32 _).2 (fun S_68 I_S_68 F_S_68 v_S_68 f_S_68 l_S_68 => ?_)
      have h23 := ti_eq (f_S_68 19 1 (fun e => absurd e (by decide)))
      have h24 := eq_iv rfl rfl v_S_68
      have h25 := ti_eq (f_S_68 26 9 (fun _ e => absurd e (by decide)))
      exact Sf.so ⟨I_S_68, F_S_68, trivial⟩
    · have h26 := nle_iv rfl rfl c_h8
      exact Sf.so ⟨I_S_2, F_S_2, trivial⟩
  · have h27 := neq_iv rfl li_0 c_h3
    exact Sf.so ⟨I_S_2, F_S_2, trivial⟩
theorem s_fX0_four_19 (fu : Nat) (hfu : 1000000000000000000 ≤ fu) (x1 : Int32) (S : St) (I_S : Inv S) : Sp (fX0_four fu 19 x1 S) S (fun r => True) := by
  unfold fX0_four
  try simp only [Nat.reduceAdd]
  have h1 := i32 x1
  refine Sp.b (s_fX0_two_19 fu hfu x1 S I_S) (fun r_2 p_r_2 => ?_)
  try have h2 : ((x1 + (2 : Int32))).toInt = (x1).toInt + (2) := add_iv rfl li_2 (by omega) (by omega)
  refine Sp.b (s_fX0_two_19 fu hfu (x1 + (2 : Int32)) S I_S) (fun r_12 p_r_12 => ?_)
  exact Sp.so trivial
theorem s_fX4_readData_19 (fu : Nat) (hfu : 1000000000000000000 ≤ fu) (x2 : Int32) (x3 : Int32) (x4 : Int32) (S : St) (I_S : Inv S) : Sf (fX4_readData fu 19 x2 x3 x4 S) (fun U r => Inv U ∧ Fr [(26, 10)] S U ∧ (True)) := by
  unfold fX4_readData
  try simp only [Nat.reduceAdd]
  have F_S : Fr [(26, 10)] S S := Fr.refl _ _
  have h1 := i32 x2
  refine Sf.i (fun c_h2 => ?_) (fun c_h2 => ?_)
  · have h3 := eq_iv rfl li_1 c_h2
    have h4 := i32 x3
    refine Sf.bp (s_fX0_four_19 fu hfu x3 S I_S) (fun r_43 p_r_43 => ?_)
    have h5 := i32 r_43
    refine Sf.w I_S F_S rfl (i32 _).1 (i32 _).2 (fun S_46 I_S_46 F_S_46 v_S_46 f_S_46 l_S_46 => ?_)
    have h6 := i32 x4
    try have h7 : ((x4 - x3)).toInt = (x4).toInt - (x3).toInt := sub_iv rfl rfl (by omega) (by omega)
    refine Sf.i (fun c_h8 => ?_) (fun c_h8 => ?_)
    · have h9 := eq_iv rfl li_4 c_h8
      exact Sf.so ⟨I_S_46, F_S_46, trivial⟩
    · have h10 := neq_iv rfl li_4 c_h8
      exact Sf.so ⟨I_S_46, F_S_46, trivial⟩
  · have h11 := neq_iv rfl li_1 c_h2
    refine Sf.i (fun c_h12 => ?_) (fun c_h12 => ?_)
    · have h13 := eq_iv rfl li_6 c_h12
      have h14 := i32 x4
      try have h15 : ((x4 - (4 : Int32))).toInt = (x4).toInt - (4) := sub_iv rfl li_4 (by omega) (by omega)
      refine Sf.bp (s_fX0_four_19 fu hfu (x4 - (4 : Int32)) S I_S) (fun r_99 p_r_99 => ?_)
      have h16 := i32 r_99
      refine Sf.w I_S F_S rfl (i32 _).1 (i32 _).2 (fun S_102 I_S_102 F_S_102 v_S_102 f_S_102 l_S_102 => ?_)
      have h17 := i32 x3
      try have h18 : ((x4 - x3)).toInt = (x4).toInt - (x3).toInt := sub_iv rfl rfl (by omega) (by omega)
      refine Sf.i (fun c_h19 => ?_) (fun c_h19 => ?_)
      · have h20 := eq_iv rfl li_22 c_h19
        refine Sf.bp (s_fX0_two_19 fu hfu x3 S_102 I_S_102) (fun r_114 p_r_114 => ?_)
        have h21 := i32 r_114
        refine Sf.i (fun c_h22 => ?_) (fun c_h22 => ?_)
        · have h23 := eq_iv rfl li_0 c_h22
          exact Sf.so ⟨I_S_102, F_S_102, trivial⟩
        · have h24 := neq_iv rfl li_0 c_h22
          exact Sf.so ⟨I_S_102, F_S_102, trivial⟩
      · have h25 := neq_iv rfl li_22 c_h19
        exact Sf.so ⟨I_S_102, F_S_102, trivial⟩
    · have h26 := neq_iv rfl li_6 c_h12
      refine Sf.i (fun c_h27 => ?_) (fun c_h27 => ?_)
      · have h28 := eq_iv rfl li_16 c_h27
        have h29 := i32 x3
        try have h30 : ((x3 + (1 : Int32))).toInt = (x3).toInt + (1) := add_iv rfl li_1 (by omega) (by omega)
        refine Sf.bp (s_fX0_four_19 fu hfu (x3 + (1 : Int32)) S I_S) (fun r_66 p_r_66 => ?_)
        have h31 := i32 r_66
        refine Sf.w I_S F_S rfl (i32 _).1 (i32 _).2 (fun S_69 I_S_69 F_S_69 v_S_69 f_S_69 l_S_69 => ?_)
        have h32 := i32 x4
        try have h33 : ((x4 - x3)).toInt = (x4).toInt - (x3).toInt := sub_iv rfl rfl (by omega) (by omega)
        refine Sf.i (fun c_h34 => ?_) (fun c_h34 => ?_)
        · have h35 := eq_iv rfl li_5 c_h34
          refine Sf.bp (s_fX0_at_19 fu hfu x3 S_69 I_S_69) (fun r_80 p_r_80 => ?_)
          have h36 := i32 r_80
          refine Sf.i (fun c_h37 => ?_) (fun c_h37 => ?_)
          · have h38 := eq_iv rfl li_4 c_h37
            exact Sf.so ⟨I_S_69, F_S_69, trivial⟩
          · have h39 := neq_iv rfl li_4 c_h37
            exact Sf.so ⟨I_S_69, F_S_69, trivial⟩
        · have h40 := neq_iv rfl li_5 c_h34
          exact Sf.so ⟨I_S_69, F_S_69, trivial⟩
      · have h41 := neq_iv rfl li_16 c_h27
        exact Sf.so ⟨I_S, F_S, trivial⟩
theorem s_fX4_readDataName_19 (fu : Nat) (hfu : 1000000000000000000 ≤ fu) (x2 : Int32) (x3 : Int32) (S : St) (I_S : Inv S) : Sf (fX4_readDataName fu 19 x2 x3 S) (fun U r => Inv U ∧ Fr [(3, 4), (4, 0), (6, 0), (26, 9), (26, 10), (27, 3), (29, 0)] S U ∧ (True)) := by
  unfold fX4_readDataName
  try simp only [Nat.reduceAdd]
  have F_S : Fr [(3, 4), (4, 0), (6, 0), (26, 9), (26, 10), (27, 3), (29, 0)] S S := Fr.refl _ _
  have h1 := i32 x2
  refine Sf.w I_S F_S rfl (i32 _).1 (i32 _).2 (fun S_2 I_S_2 F_S_2 v_S_2 f_S_2 l_S_2 => ?_)
  have h2 := eq_iv rfl rfl v_S_2
  refine Sf.b (s_fX4_readName_19 fu hfu S_2 I_S_2) (fun S_7 r_7 p_r_7 => ?_)
  obtain ⟨I_S_7, G_S_7, p_r_7⟩ := p_r_7
  have F_S_7 := Fr.tr F_S_2 G_S_7 rfl
  have h3 := i32 r_7
  refine Sf.i (fun c_h4 => ?_) (fun c_h4 => ?_)
  · have h5 := eq_iv rfl li_6 c_h4
    exact Sf.so ⟨I_S_7, F_S_7, trivial⟩
  · have h6 := neq_iv rfl li_6 c_h4
    refine Sf.i (fun c_h7 => ?_) (fun c_h7 => ?_)
    · have h8 := eq_iv rfl li_0 c_h7
      have h9 := i32 x3
      refine Sf.i (fun c_h10 => ?_) (fun c_h10 => ?_)
      · have h11 := eq_iv rfl rfl c_h10
        exact Sf.so ⟨I_S_7, F_S_7, trivial⟩
      · have h12 := neq_iv rfl rfl c_h10
        exact Sf.so ⟨I_S_7, F_S_7, trivial⟩
    · have h13 := neq_iv rfl li_0 c_h7
      exact Sf.so ⟨I_S_7, F_S_7, trivial⟩
theorem s_fX4_readRecord_19 (fu : Nat) (hfu : 1000000000000000000 ≤ fu) (x2 : Int32) (S : St) (I_S : Inv S) : Sf (fX4_readRecord fu 19 x2 S) (fun U r => Inv U ∧ Fr [(3, 4), (4, 0), (6, 0), (26, 9), (26, 10), (27, 3), (29, 0), (30, 6), (31, 0), (32, 0), (33, 0), (34, 0), (35, 0)] S U ∧ (True)) := by
  unfold fX4_readRecord
  try simp only [Nat.reduceAdd]
  have F_S : Fr [(3, 4), (4, 0), (6, 0), (26, 9), (26, 10), (27, 3), (29, 0), (30, 6), (31, 0), (32, 0), (33, 0), (34, 0), (35, 0)] S S := Fr.refl _ _
  refine Sf.b (s_fX4_readName_19 fu hfu S I_S) (fun S_2 r_2 p_r_2 => ?_)
  obtain ⟨I_S_2, G_S_2, p_r_2⟩ := p_r_2
  have F_S_2 := Fr.tr F_S G_S_2 rfl
  have h1 := ti_eq (G_S_2 19 1 rfl)
  have h2 := i32 r_2
  refine Sf.i (fun c_h3 => ?_) (fun c_h3 => ?_)
  · have h4 := eq_iv rfl li_0 c_h3
    have h5 := b_19_1 I_S_2
    refine Sf.bp (s_fX0_size_19 fu hfu S_2 I_S_2) (fun r_34 p_r_34 => ?_)
    have h6 := i32 r_34
    try have h7 : (((S_2.1 26 8) + (10 : Int32))).toInt = ((S_2.1 26 8)).toInt + (10) := add_iv rfl li_10 (by omega) (by omega)
    refine Sf.i (fun c_h8 => ?_) (fun c_h8 => ?_)
    · have h9 := le_iv rfl rfl c_h8
      refine Sf.bp (s_fX0_two_19 fu hfu (S_2.1 26 8) S_2 I_S_2) (fun r_45 p_r_45 => ?_)
      try have h10 : (((S_2.1 26 8) + (8 : Int32))).toInt = ((S_2.1 26 8)).toInt + (8) := add_iv rfl li_8 (by omega) (by omega)
      refine Sf.bp (s_fX0_two_19 fu hfu ((S_2.1 26 8) + (8 : Int32)) S_2 I_S_2) (fun r_58 p_r_58 => ?_)
      refine Sf.bp (s_fX0_size_19 fu hfu S_2 I_S_2) (fun r_67 p_r_67 => ?_)
      have h11 := i32 r_58
      have h12 := i32 r_67
      try have h13 : ((((S_2.1 26 8) + (10 : Int32)) + r_58)).toInt = (((S_2.1 26 8) + (10 : Int32))).toInt + (r_58).toInt := add_iv rfl rfl (by omega) (by omega)
      refine Sf.i (fun c_h14 => ?_) (fun c_h14 => ?_)
      · have h15 := le_iv rfl rfl c_h14
        have h16 := i32 r_45
        refine Sf.bp (s_fX11_isNamed fu hfu r_45 S_2 I_S_2) (fun r_77 p_r_77 => ?_)
        have h17 := i32 r_77
        refine Sf.i (fun c_h18 => ?_) (fun c_h18 => ?_)
        · have h19 := eq_iv rfl li_0 c_h18
          refine Sf.b (s_fX4_readData_19 fu hfu r_45 ((S_2.1 26 8) + (10 : Int32)) (((S_2.1 26 8) + (10 : Int32)) + r_58) S_2 I_S_2) (fun S_103 r_103 p_r_103 => ?_)
          obtain ⟨I_S_103, G_S_103, p_r_103⟩ := p_r_103
          have F_S_103 := Fr.tr F_S_2 G_S_103 rfl
          have h20 := ti_eq (G_S_103 19 1 rfl)
          have h21 := ti_eq (G_S_103 26 8 rfl)
          unfold fX4_readRecord_106
          try simp only [Nat.reduceAdd]
          have h22 := i32 r_103
          refine Sf.i (fun c_h23 => ?_) (fun c_h23 => ?_)
          · have h24 := eq_iv rfl li_0 c_h23
            refine Sf.w I_S_103 F_S_103 rfl (i32 _).1 (i32 _).2 (fun S_116 I_S_116 F_S_116 v_S_116 f_S_116 l_S_116 => ?_)
            have h25 := ti_eq (f_S_116 19 1 (fun e => absurd e (by decide)))
            have h26 := eq_iv rfl rfl v_S_116
            have h27 := ti_eq (f_S_116 26 9 (fun _ e => absurd e (by decide)))
            try have h28 : (((S_2.1 26 8) + (2 : Int32))).toInt = ((S_2.1 26 8)).toInt + (2) := add_iv rfl li_2 (by omega) (by omega)
            refine Sf.bp (s_fX0_two_19 fu hfu ((S_2.1 26 8) + (2 : Int32)) S_116 I_S_116) (fun r_124 p_r_124 => ?_)
            have h29 := i32 r_124
            refine Sf.i (fun c_h30 => ?_) (fun c_h30 => ?_)
            · have h31 := eq_iv rfl li_1 c_h30
              refine Sf.bp (s_fX11_isKept fu hfu r_45 S_116 I_S_116) (fun r_133 p_r_133 => ?_)
              have h32 := i32 r_133
              refine Sf.i (fun c_h33 => ?_) (fun c_h33 => ?_)
              · have h34 := eq_iv rfl li_0 c_h33
                refine Sf.i (fun c_h35 => ?_) (fun c_h35 => ?_)
                · have h36 := eq_iv rfl li_6 c_h35
                  unfold fX4_readRecord_146
                  try simp only [Nat.reduceAdd]
                  try have h37 : (((S_2.1 26 8) + (4 : Int32))).toInt = ((S_2.1 26 8)).toInt + (4) := add_iv rfl li_4 (by omega) (by omega)
                  refine Sf.bp (s_fX0_four_19 fu hfu ((S_2.1 26 8) + (4 : Int32)) S_116 I_S_116) (fun r_164 p_r_164 => ?_)
                  have h38 := i32 x2
                  have h39 := i32 r_164
                  refine Sf.b (s_fX5_add_30 fu hfu x2 (S_2.1 26 9) r_45 (S_116.1 26 9) r_164 S_116 I_S_116) (fun S_167 r_167_ p_r_167_ => ?_)
                  obtain ⟨I_S_167, G_S_167, p_r_167_⟩ := p_r_167_
                  have F_S_167 := Fr.tr F_S_116 G_S_167 rfl
                  have h40 := ti_eq (G_S_167 19 1 rfl)
                  have h41 := ti_eq (G_S_167 26 8 rfl)
                  have h42 := ti_eq (G_S_167 26 9 rfl)
                  exact Sf.so ⟨I_S_167, F_S_167, trivial⟩
                · have h43 := neq_iv rfl li_6 c_h35
                  exact Sf.so ⟨I_S_116, F_S_116, trivial⟩
              · have h44 := neq_iv rfl li_0 c_h33
                unfold fX4_readRecord_146
                try simp only [Nat.reduceAdd]
                try have h45 : (((S_2.1 26 8) + (4 : Int32))).toInt = ((S_2.1 26 8)).toInt + (4) := add_iv rfl li_4 (by omega) (by omega)
                refine Sf.bp (s_fX0_four_19 fu hfu ((S_2.1 26 8) + (4 : Int32)) S_116 I_S_116) (fun r_164 p_r_164 => ?_)
                have h46 := i32 x2
                have h47 := i32 r_164
                refine Sf.b (s_fX5_add_30 fu hfu x2 (S_2.1 26 9) r_45 (S_116.1 26 9) r_164 S_116 I_S_116) (fun S_167 r_167_ p_r_167_ => ?_)
                obtain ⟨I_S_167, G_S_167, p_r_167_⟩ := p_r_167_
                have F_S_167 := Fr.tr F_S_116 G_S_167 rfl
                have h48 := ti_eq (G_S_167 19 1 rfl)
                have h49 := ti_eq (G_S_167 26 8 rfl)
                have h50 := ti_eq (G_S_167 26 9 rfl)
                exact Sf.so ⟨I_S_167, F_S_167, trivial⟩
            · have h51 := neq_iv rfl li_1 c_h30
              exact Sf.so ⟨I_S_116, F_S_116, trivial⟩
          · have h52 := neq_iv rfl li_0 c_h23
            exact Sf.so ⟨I_S_103, F_S_103, trivial⟩
        · have h53 := neq_iv rfl li_0 c_h18
          refine Sf.b (s_fX4_readDataName_19 fu hfu ((S_2.1 26 8) + (10 : Int32)) (((S_2.1 26 8) + (10 : Int32)) + r_58) S_2 I_S_2) (fun S_89 r_89 p_r_89 => ?_)
          obtain ⟨I_S_89, G_S_89, p_r_89⟩ := p_r_89
          have F_S_89 := Fr.tr F_S_2 G_S_89 rfl
          have h54 := ti_eq (G_S_89 19 1 rfl)
          unfold fX4_readRecord_106
          try simp only [Nat.reduceAdd]
          have h55 := i32 r_89
          refine Sf.i (fun c_h56 => ?_) (fun c_h56 => ?_)
          · have h57 := eq_iv rfl li_0 c_h56
            refine Sf.w I_S_89 F_S_89 rfl (i32 _).1 (i32 _).2 (fun S_116 I_S_116 F_S_116 v_S_116 f_S_116 l_S_116 => ?_)
            have h58 := ti_eq (f_S_116 19 1 (fun e => absurd e (by decide)))
            have h59 := eq_iv rfl rfl v_S_116
            have h60 := ti_eq (f_S_116 26 9 (fun _ e => absurd e (by decide)))
            try have h61 : (((S_2.1 26 8) + (2 : Int32))).toInt = ((S_2.1 26 8)).toInt + (2) := add_iv rfl li_2 (by omega) (by omega)
            refine Sf.bp (s_fX0_two_19 fu hfu ((S_2.1 26 8) + (2 : Int32)) S_116 I_S_116) (fun r_124 p_r_124 => ?_)
            have h62 := i32 r_124
            refine Sf.i (fun c_h63 => ?_) (fun c_h63 => ?_)
            · have h64 := eq_iv rfl li_1 c_h63
              refine Sf.bp (s_fX11_isKept fu hfu r_45 S_116 I_S_116) (fun r_133 p_r_133 => ?_)
              have h65 := i32 r_133
              refine Sf.i (fun c_h66 => ?_) (fun c_h66 => ?_)
              · have h67 := eq_iv rfl li_0 c_h66
                refine Sf.i (fun c_h68 => ?_) (fun c_h68 => ?_)
                · have h69 := eq_iv rfl li_6 c_h68
                  unfold fX4_readRecord_146
                  try simp only [Nat.reduceAdd]
                  try have h70 : (((S_2.1 26 8) + (4 : Int32))).toInt = ((S_2.1 26 8)).toInt + (4) := add_iv rfl li_4 (by omega) (by omega)
                  refine Sf.bp (s_fX0_four_19 fu hfu ((S_2.1 26 8) + (4 : Int32)) S_116 I_S_116) (fun r_164 p_r_164 => ?_)
                  have h71 := i32 x2
                  have h72 := i32 r_164
                  refine Sf.b (s_fX5_add_30 fu hfu x2 (S_2.1 26 9) r_45 (S_116.1 26 9) r_164 S_116 I_S_116) (fun S_167 r_167_ p_r_167_ => ?_)
                  obtain ⟨I_S_167, G_S_167, p_r_167_⟩ := p_r_167_
                  have F_S_167 := Fr.tr F_S_116 G_S_167 rfl
                  have h73 := ti_eq (G_S_167 19 1 rfl)
                  have h74 := ti_eq (G_S_167 26 8 rfl)
                  have h75 := ti_eq (G_S_167 26 9 rfl)
                  exact Sf.so ⟨I_S_167, F_S_167, trivial⟩
                · have h76 := neq_iv rfl li_6 c_h68
                  exact Sf.so ⟨I_S_116, F_S_116, trivial⟩
              · have h77 := neq_iv rfl li_0 c_h66
                unfold fX4_readRecord_146
                try simp only [Nat.reduceAdd]
                try have h78 : (((S_2.1 26 8) + (4 : Int32))).toInt = ((S_2.1 26 8)).toInt + (4) := add_iv rfl li_4 (by omega) (by omega)
                refine Sf.bp (s_fX0_four_19 fu hfu ((S_2.1 26 8) + (4 : Int32)) S_116 I_S_116) (fun r_164 p_r_164 => ?_)
                have h79 := i32 x2
                have h80 := i32 r_164
                refine Sf.b (s_fX5_add_30 fu hfu x2 (S_2.1 26 9) r_45 (S_116.1 26 9) r_164 S_116 I_S_116) (fun S_167 r_167_ p_r_167_ => ?_)
                obtain ⟨I_S_167, G_S_167, p_r_167_⟩ := p_r_167_
                have F_S_167 := Fr.tr F_S_116 G_S_167 rfl
                have h81 := ti_eq (G_S_167 19 1 rfl)
                have h82 := ti_eq (G_S_167 26 8 rfl)
                have h83 := ti_eq (G_S_167 26 9 rfl)
                exact Sf.so ⟨I_S_167, F_S_167, trivial⟩
            · have h84 := neq_iv rfl li_1 c_h63
              exact Sf.so ⟨I_S_116, F_S_116, trivial⟩
          · have h85 := neq_iv rfl li_0 c_h56
            exact Sf.so ⟨I_S_89, F_S_89, trivial⟩
      · have h86 := nle_iv rfl rfl c_h14
        exact Sf.so ⟨I_S_2, F_S_2, trivial⟩
    · have h87 := nle_iv rfl rfl c_h8
      exact Sf.so ⟨I_S_2, F_S_2, trivial⟩
  · have h88 := neq_iv rfl li_0 c_h3
    exact Sf.so ⟨I_S_2, F_S_2, trivial⟩
theorem s_fX4_read_79_19 (fu : Nat) (hfu : 1000000000000000000 ≤ fu) (k_59 : Int32 → Int32 → St → Option (St × Int32)) (N : Nat) (hk_k_59 : ∀ (x2 : Int32) (x3 : Int32) (S : St), Inv S → (0 ≤ (x3).toInt) → (3 - (x3).toInt).toNat < N → Sf (k_59 x2 x3 S) (fun U r => Inv U ∧ Fr [(3, 4), (4, 0), (6, 0), (26, 9), (26, 10), (27, 3), (29, 0), (30, 6), (31, 0), (32, 0), (33, 0), (34, 0), (35, 0)] S U ∧ (True))) : ∀ (n : Nat) (x2 : Int32) (x3 : Int32) (x4 : Int32) (x5 : Int32) (S : St), Inv S → (0 ≤ (x5).toInt) → (0 ≤ (x3).toInt) → ((x3).toInt < 3) → ((3 - (x3).toInt).toNat ≤ N) → ((x4).toInt - (x5).toInt).toNat < n → Sf (fX4_read_79 fu 19 k_59 n x2 x3 x4 x5 S) (fun U r => Inv U ∧ Fr [(3, 4), (4, 0), (6, 0), (26, 9), (26, 10), (27, 3), (29, 0), (30, 6), (31, 0), (32, 0), (33, 0), (34, 0), (35, 0)] S U ∧ (True)) := by
  intro n
  induction n with
  | zero => intro x2 x3 x4 x5 S I_S g0 g1 g2 g3 hm; exact absurd hm (Nat.not_lt_zero _)
  | succ n ih =>
    intro x2 x3 x4 x5 S I_S g0 g1 g2 g3 hm
    rw [fX4_read_79_s]
    try simp only [Nat.reduceAdd]
    have F_S : Fr [(3, 4), (4, 0), (6, 0), (26, 9), (26, 10), (27, 3), (29, 0), (30, 6), (31, 0), (32, 0), (33, 0), (34, 0), (35, 0)] S S := Fr.refl _ _
    have h1 := i32 x4
    have h2 := i32 x5
    refine Sf.i (fun c_h3 => ?_) (fun c_h3 => ?_)
    · have h4 := le_iv rfl rfl c_h3
      unfold fX4_read_103
      try simp only [Nat.reduceAdd]
      have h5 := i32 x2
      have h6 := i32 x3
      try have h7 : ((x3 + (1 : Int32))).toInt = (x3).toInt + (1) := add_iv rfl li_1 (by omega) (by omega)
      refine Sf.mono (hk_k_59 x2 (x3 + (1 : Int32)) S I_S (by omega) (by omega)) (fun U r p_h8 => ?_)
      obtain ⟨I_U, G_U, p_h8⟩ := p_h8
      exact ⟨I_U, Fr.tr F_S G_U rfl, trivial⟩
    · have h9 := nle_iv rfl rfl c_h3
      have h10 := i32 x2
      refine Sf.i (fun c_h11 => ?_) (fun c_h11 => ?_)
      · have h12 := eq_iv rfl li_0 c_h11
        have h13 := i32 x3
        refine Sf.b (s_fX4_readRecord_19 fu hfu x3 S I_S) (fun S_93 r_93 p_r_93 => ?_)
        obtain ⟨I_S_93, G_S_93, p_r_93⟩ := p_r_93
        have F_S_93 := Fr.tr F_S G_S_93 rfl
        have h14 := i32 r_93
        try have h15 : ((x5 + (1 : Int32))).toInt = (x5).toInt + (1) := add_iv rfl li_1 (by omega) (by omega)
        refine Sf.mono (ih r_93 x3 x4 (x5 + (1 : Int32)) S_93 I_S_93 (by omega) (by omega) (by omega) (by omega) (by omega)) (fun U r p_h16 => ?_)
        obtain ⟨I_U, G_U, p_h16⟩ := p_h16
        exact ⟨I_U, Fr.tr F_S_93 G_U rfl, trivial⟩
      · have h17 := neq_iv rfl li_0 c_h11
        unfold fX4_read_103
        try simp only [Nat.reduceAdd]
        have h18 := i32 x3
        try have h19 : ((x3 + (1 : Int32))).toInt = (x3).toInt + (1) := add_iv rfl li_1 (by omega) (by omega)
        refine Sf.mono (hk_k_59 x2 (x3 + (1 : Int32)) S I_S (by omega) (by omega)) (fun U r p_h20 => ?_)
        obtain ⟨I_U, G_U, p_h20⟩ := p_h20
        exact ⟨I_U, Fr.tr F_S G_U rfl, trivial⟩
theorem s_fX4_read_59_19 (fu : Nat) (hfu : 1000000000000000000 ≤ fu) : ∀ (n : Nat) (x2 : Int32) (x3 : Int32) (S : St), Inv S → (0 ≤ (x3).toInt) → (3 - (x3).toInt).toNat < n → Sf (fX4_read_59 fu 19 n x2 x3 S) (fun U r => Inv U ∧ Fr [(3, 4), (4, 0), (6, 0), (26, 9), (26, 10), (27, 3), (29, 0), (30, 6), (31, 0), (32, 0), (33, 0), (34, 0), (35, 0)] S U ∧ (True)) := by
  intro n
  induction n with
  | zero => intro x2 x3 S I_S g0 hm; exact absurd hm (Nat.not_lt_zero _)
  | succ n ih =>
    intro x2 x3 S I_S g0 hm
    rw [fX4_read_59_s]
    try simp only [Nat.reduceAdd]
    have F_S : Fr [(3, 4), (4, 0), (6, 0), (26, 9), (26, 10), (27, 3), (29, 0), (30, 6), (31, 0), (32, 0), (33, 0), (34, 0), (35, 0)] S S := Fr.refl _ _
    have h1 := i32 x3
    refine Sf.i (fun c_h2 => ?_) (fun c_h2 => ?_)
    · have h3 := le_iv li_3 rfl c_h2
      have h4 := i32 x2
      refine Sf.i (fun c_h5 => ?_) (fun c_h5 => ?_)
      · have h6 := eq_iv rfl li_0 c_h5
        have h7 := b_19_1 I_S
        refine Sf.bp (s_fX0_size_19 fu hfu S I_S) (fun r_118 p_r_118 => ?_)
        have h8 := i32 r_118
        refine Sf.i (fun c_h9 => ?_) (fun c_h9 => ?_)
        · have h10 := le_iv rfl rfl c_h9
          exact Sf.so ⟨I_S, F_S, trivial⟩
        · have h11 := nle_iv rfl rfl c_h9
          exact Sf.so ⟨I_S, F_S, trivial⟩
      · have h12 := neq_iv rfl li_0 c_h5
        exact Sf.so ⟨I_S, F_S, trivial⟩
    · have h13 := nle_iv li_3 rfl c_h2
      try have h14 : (((2 : Int32) * x3)).toInt = (2) * (x3).toInt := mul_iv li_2 rfl (by omega) (by omega)
      try have h15 : (((6 : Int32) + ((2 : Int32) * x3))).toInt = (6) + (((2 : Int32) * x3)).toInt := add_iv li_6 rfl (by omega) (by omega)
      refine Sf.bp (s_fX0_two_19 fu hfu ((6 : Int32) + ((2 : Int32) * x3)) S I_S) (fun r_71 p_r_71 => ?_)
      have h16 := i32 x2
      have h17 := i32 r_71
      have h18 : ((0 : Int32)).toInt = 0 := li_0
      refine Sf.mono (s_fX4_read_79_19 fu hfu _ _ ih fu x2 x3 r_71 (0 : Int32) S I_S (by omega) (by omega) (by omega) (by omega) (by omega)) (fun U r p_h19 => ?_)
      obtain ⟨I_U, G_U, p_h19⟩ := p_h19
      have h20 := ti_eq (G_U 19 1 rfl)
      exact ⟨I_U, Fr.tr F_S G_U rfl, trivial⟩
theorem s_fX4_read_19 (fu : Nat) (hfu : 1000000000000000000 ≤ fu) (S : St) (I_S : Inv S) : Sf (fX4_read fu 19 S) (fun U r => Inv U ∧ Fr [(3, 4), (4, 0), (6, 0), (26, 4), (26, 5), (26, 6), (26, 7), (26, 8), (26, 9), (26, 10), (27, 3), (29, 0), (30, 6), (31, 0), (32, 0), (33, 0), (34, 0), (35, 0)] S U ∧ (True)) := by
  unfold fX4_read
  try simp only [Nat.reduceAdd]
  have F_S : Fr [(3, 4), (4, 0), (6, 0), (26, 4), (26, 5), (26, 6), (26, 7), (26, 8), (26, 9), (26, 10), (27, 3), (29, 0), (30, 6), (31, 0), (32, 0), (33, 0), (34, 0), (35, 0)] S S := Fr.refl _ _
  refine Sf.b (s_fX5_clear_30 fu hfu S I_S) (fun S_4 r_4_ p_r_4_ => ?_)
  obtain ⟨I_S_4, G_S_4, p_r_4_⟩ := p_r_4_
  have F_S_4 := Fr.tr F_S G_S_4 rfl
  have h1 := ti_eq (G_S_4 19 1 rfl)
  have h2 := ti_eq (G_S_4 26 8 rfl)
  have h3 := b_19_1 I_S_4
  refine Sf.bp (s_fX0_size_19 fu hfu S_4 I_S_4) (fun r_8 p_r_8 => ?_)
  have h4 := i32 r_8
  refine Sf.i (fun c_h5 => ?_) (fun c_h5 => ?_)
  · have h6 := lt_iv rfl li_12 c_h5
    exact Sf.so ⟨I_S_4, F_S_4, trivial⟩
  · have h7 := nlt_iv rfl li_12 c_h5
    have h8 : ((4 : Int32)).toInt = 4 := li_4
    refine Sf.bp (s_fX0_two_19 fu hfu (4 : Int32) S_4 I_S_4) (fun r_18 p_r_18 => ?_)
    have h9 := i32 r_18
    refine Sf.i (fun c_h10 => ?_) (fun c_h10 => ?_)
    · have h11 := eq_iv rfl li_1 c_h10
      have h12 : ((0 : Int32)).toInt = 0 := li_0
      refine Sf.bp (s_fX0_two_19 fu hfu (0 : Int32) S_4 I_S_4) (fun r_30 p_r_30 => ?_)
      have h13 := i32 r_30
      refine Sf.w I_S_4 F_S_4 rfl (i32 _).1 (i32 _).2 (fun S_33 I_S_33 F_S_33 v_S_33 f_S_33 l_S_33 => ?_)
      have h14 := ti_eq (f_S_33 19 1 (fun e => absurd e (by decide)))
      have h15 := ti_eq (f_S_33 26 8 (fun _ e => absurd e (by decide)))
      have h16 : ((2 : Int32)).toInt = 2 := li_2
      refine Sf.bp (s_fX0_two_19 fu hfu (2 : Int32) S_33 I_S_33) (fun r_39 p_r_39 => ?_)
      have h17 := i32 r_39
      refine Sf.w I_S_33 F_S_33 rfl (i32 _).1 (i32 _).2 (fun S_42 I_S_42 F_S_42 v_S_42 f_S_42 l_S_42 => ?_)
      have h18 := ti_eq (f_S_42 19 1 (fun e => absurd e (by decide)))
      have h19 := ti_eq (f_S_42 26 8 (fun _ e => absurd e (by decide)))
      refine Sf.w I_S_42 F_S_42 rfl (i32 _).1 (i32 _).2 (fun S_48 I_S_48 F_S_48 v_S_48 f_S_48 l_S_48 => ?_)
      have h20 := ti_eq (f_S_48 19 1 (fun e => absurd e (by decide)))
      have h21 := eq_iv rfl li_12 v_S_48
      refine Sf.b (s_fX4_readQuestion_19 fu hfu S_48 I_S_48) (fun S_53 r_53 p_r_53 => ?_)
      obtain ⟨I_S_53, G_S_53, p_r_53⟩ := p_r_53
      have F_S_53 := Fr.tr F_S_48 G_S_53 rfl
      have h22 := ti_eq (G_S_53 19 1 rfl)
      have h23 := i32 r_53
      refine Sf.mono (s_fX4_read_59_19 fu hfu fu r_53 (0 : Int32) S_53 I_S_53 (by omega) (by omega)) (fun U r p_h24 => ?_)
      obtain ⟨I_U, G_U, p_h24⟩ := p_h24
      have h25 := ti_eq (G_U 19 1 rfl)
      exact ⟨I_U, Fr.tr F_S_53 G_U rfl, trivial⟩
    · have h26 := neq_iv rfl li_1 c_h10
      exact Sf.so ⟨I_S_4, F_S_4, trivial⟩
theorem s_fX4_isReplyTo (fu : Nat) (hfu : 1000000000000000000 ≤ fu) (x1 : Int32) (x2 : Int32) (x3 : Int32) (S : St) (I_S : Inv S) : Sp (fX4_isReplyTo fu x1 x2 x3 S) S (fun r => (0 ≤ r.toInt) ∧ (r.toInt ≤ 1)) := by
  unfold fX4_isReplyTo
  have h1 := i32 x1
  refine Sp.i (fun c_h2 => ?_) (fun c_h2 => ?_)
  · have h3 := eq_iv rfl rfl c_h2
    have h4 := i32 x2
    refine Sp.i (fun c_h5 => ?_) (fun c_h5 => ?_)
    · have h6 := eq_iv rfl rfl c_h5
      have h7 := i32 x3
      refine Sp.i (fun c_h8 => ?_) (fun c_h8 => ?_)
      · have h9 := eq_iv rfl rfl c_h8
        refine Sp.i (fun c_h10 => ?_) (fun c_h10 => ?_)
        · have h11 := eq_iv rfl li_1 c_h10
          refine Sp.i (fun c_h12 => ?_) (fun c_h12 => ?_)
          · have h13 := eq_iv rfl li_0 c_h12
            have h14 : ((0 : Int32)).toInt = 0 := li_0
            exact Sp.so (by omega)
          · have h15 := neq_iv rfl li_0 c_h12
            have h16 : ((1 : Int32)).toInt = 1 := li_1
            exact Sp.so (by omega)
        · have h17 := neq_iv rfl li_1 c_h10
          have h18 : ((0 : Int32)).toInt = 0 := li_0
          exact Sp.so (by omega)
      · have h19 := neq_iv rfl rfl c_h8
        have h20 : ((0 : Int32)).toInt = 0 := li_0
        exact Sp.so (by omega)
    · have h21 := neq_iv rfl rfl c_h5
      have h22 : ((0 : Int32)).toInt = 0 := li_0
      exact Sp.so (by omega)
  · have h23 := neq_iv rfl rfl c_h2
    have h24 : ((0 : Int32)).toInt = 0 := li_0
    exact Sp.so (by omega)
theorem s_fX6_isAnsweredBy (fu : Nat) (hfu : 1000000000000000000 ≤ fu) (S : St) (I_S : Inv S) : Sp (fX6_isAnsweredBy fu S) S (fun r => (0 ≤ r.toInt) ∧ (r.toInt ≤ 1)) := by
  unfold fX6_isAnsweredBy
  refine Sp.b (s_fX6_id fu hfu S I_S) (fun r_2 p_r_2 => ?_)
  refine Sp.b (s_fX6_askedName fu hfu S I_S) (fun r_6 p_r_6 => ?_)
  refine Sp.b (s_fX6_askedType fu hfu S I_S) (fun r_10 p_r_10 => ?_)
  have h1 := i32 r_2
  have h2 := i32 r_6
  have h3 := i32 r_10
  refine Sp.b (s_fX4_isReplyTo fu hfu r_2 r_6 r_10 S I_S) (fun r_13 p_r_13 => ?_)
  have h4 := i32 r_13
  refine Sp.g (isB_iv (by omega) (by omega)) ?_
  exact Sp.so (by omega)
theorem s_fX5_size_30 (fu : Nat) (hfu : 1000000000000000000 ≤ fu) (S : St) (I_S : Inv S) : Sp (fX5_size fu 30 S) S (fun r => (r.toInt = (S.1 30 5).toInt)) := by
  unfold fX5_size
  try simp only [Nat.reduceAdd]
  have h1 := b_30_5 I_S
  have h2 := b_30_5 I_S
  exact Sp.so (by omega)
theorem s_fX1_firstToEnd_4 (fu : Nat) (hfu : 1000000000000000000 ≤ fu) : ∀ (n : Nat) (x1 : Int32) (x2 : Int32) (S : St), Inv S → (0 ≤ (x1).toInt) → ((x1).toInt ≤ 99) → (1 ≤ (x2).toInt) → (100 - (x2).toInt).toNat < n → Sp (fX1_firstToEnd_4 fu n x1 x2 S) S (fun r => (0 ≤ r.toInt) ∧ (r.toInt ≤ 99)) := by
  intro n
  induction n with
  | zero => intro x1 x2 S I_S g0 g1 g2 hm; exact absurd hm (Nat.not_lt_zero _)
  | succ n ih =>
    intro x1 x2 S I_S g0 g1 g2 hm
    rw [fX1_firstToEnd_4_s]
    have h1 := b_42_6 I_S
    have h2 := i32 x2
    refine Sp.i (fun c_h3 => ?_) (fun c_h3 => ?_)
    · have h4 := le_iv rfl rfl c_h3
      have h5 := i32 x1
      exact Sp.so (by omega)
    · have h6 := nle_iv rfl rfl c_h3
      refine Sp.g (ck_iv (by omega) (by omega)) ?_
      have h7 := i32 x1
      refine Sp.g (ck_iv (by omega) (by omega)) ?_
      refine Sp.i (fun c_h8 => ?_) (fun c_h8 => ?_)
      · have h9 := le_iv li_0 rfl c_h8
        unfold fX1_firstToEnd_33
        refine Sp.g (ck_iv (by omega) (by omega)) ?_
        refine Sp.g (ck_iv (by omega) (by omega)) ?_
        refine Sp.i (fun c_h10 => ?_) (fun c_h10 => ?_)
        · have h11 := eq_iv rfl li_0 c_h10
          refine Sp.g (ck_iv (by omega) (by omega)) ?_
          refine Sp.g (ck_iv (by omega) (by omega)) ?_
          refine Sp.i (fun c_h12 => ?_) (fun c_h12 => ?_)
          · have h13 := le_iv rfl rfl c_h12
            unfold fX1_firstToEnd_69
            unfold fX1_firstToEnd_70
            refine Sp.it (by decide) ?_
            refine Sp.it (by decide) ?_
            unfold fX1_firstToEnd_83
            try have h14 : ((x2 + (1 : Int32))).toInt = (x2).toInt + (1) := add_iv rfl li_1 (by omega) (by omega)
            refine Sp.mono (ih x1 (x2 + (1 : Int32)) S I_S (by omega) (by omega) (by omega) (by omega)) (fun r p_h15 => ?_)
            exact by omega
          · have h16 := nle_iv rfl rfl c_h12
            unfold fX1_firstToEnd_70
            refine Sp.it (by decide) ?_
            refine Sp.ie (by decide) ?_
            unfold fX1_firstToEnd_81
            unfold fX1_firstToEnd_83
            try have h17 : ((x2 + (1 : Int32))).toInt = (x2).toInt + (1) := add_iv rfl li_1 (by omega) (by omega)
            refine Sp.mono (ih x2 (x2 + (1 : Int32)) S I_S (by omega) (by omega) (by omega) (by omega)) (fun r p_h18 => ?_)
            exact by omega
        · have h19 := neq_iv rfl li_0 c_h10
          unfold fX1_firstToEnd_69
          unfold fX1_firstToEnd_70
          refine Sp.it (by decide) ?_
          refine Sp.it (by decide) ?_
          unfold fX1_firstToEnd_83
          try have h20 : ((x2 + (1 : Int32))).toInt = (x2).toInt + (1) := add_iv rfl li_1 (by omega) (by omega)
          refine Sp.mono (ih x1 (x2 + (1 : Int32)) S I_S (by omega) (by omega) (by omega) (by omega)) (fun r p_h21 => ?_)
          exact by omega
      · have h22 := nle_iv li_0 rfl c_h8
        unfold fX1_firstToEnd_33
        refine Sp.g (ck_iv (by omega) (by omega)) ?_
        refine Sp.g (ck_iv (by omega) (by omega)) ?_
        refine Sp.i (fun c_h23 => ?_) (fun c_h23 => ?_)
        · have h24 := eq_iv rfl li_0 c_h23
          refine Sp.g (ck_iv (by omega) (by omega)) ?_
          refine Sp.g (ck_iv (by omega) (by omega)) ?_
          refine Sp.i (fun c_h25 => ?_) (fun c_h25 => ?_)
          · have h26 := le_iv rfl rfl c_h25
            unfold fX1_firstToEnd_69
            unfold fX1_firstToEnd_70
            refine Sp.ie (by decide) ?_
            unfold fX1_firstToEnd_81
            unfold fX1_firstToEnd_83
            try have h27 : ((x2 + (1 : Int32))).toInt = (x2).toInt + (1) := add_iv rfl li_1 (by omega) (by omega)
            refine Sp.mono (ih x2 (x2 + (1 : Int32)) S I_S (by omega) (by omega) (by omega) (by omega)) (fun r p_h28 => ?_)
            exact by omega
          · have h29 := nle_iv rfl rfl c_h25
            unfold fX1_firstToEnd_70
            refine Sp.ie (by decide) ?_
            unfold fX1_firstToEnd_81
            unfold fX1_firstToEnd_83
            try have h30 : ((x2 + (1 : Int32))).toInt = (x2).toInt + (1) := add_iv rfl li_1 (by omega) (by omega)
            refine Sp.mono (ih x2 (x2 + (1 : Int32)) S I_S (by omega) (by omega) (by omega) (by omega)) (fun r p_h31 => ?_)
            exact by omega
        · have h32 := neq_iv rfl li_0 c_h23
          unfold fX1_firstToEnd_69
          unfold fX1_firstToEnd_70
          refine Sp.ie (by decide) ?_
          unfold fX1_firstToEnd_81
          unfold fX1_firstToEnd_83
          try have h33 : ((x2 + (1 : Int32))).toInt = (x2).toInt + (1) := add_iv rfl li_1 (by omega) (by omega)
          refine Sp.mono (ih x2 (x2 + (1 : Int32)) S I_S (by omega) (by omega) (by omega) (by omega)) (fun r p_h34 => ?_)
          exact by omega
theorem s_fX1_firstToEnd (fu : Nat) (hfu : 1000000000000000000 ≤ fu) (S : St) (I_S : Inv S) : Sp (fX1_firstToEnd fu S) S (fun r => (0 ≤ r.toInt) ∧ (r.toInt ≤ 99)) := by
  unfold fX1_firstToEnd
  have h1 : ((0 : Int32)).toInt = 0 := li_0
  have h2 : ((1 : Int32)).toInt = 1 := li_1
  refine Sp.mono (s_fX1_firstToEnd_4 fu hfu fu (0 : Int32) (1 : Int32) S I_S (by omega) (by omega) (by omega) (by omega)) (fun r p_h3 => ?_)
  exact by omega
theorem s_fX1_put_114 (fu : Nat) (hfu : 1000000000000000000 ≤ fu) : ∀ (n : Nat) (x4 : Int32) (x7 : Int32) (x8 : Int32) (S : St), Inv S → (0 ≤ (x8).toInt) → (0 ≤ (x7).toInt) → ((x7).toInt ≤ 99) → (10 - (x8).toInt).toNat < n → Sf (fX1_put_114 fu n x4 x7 x8 S) (fun U r => Inv U ∧ Fr [(47, 0), (48, 0)] S U ∧ (True)) := by
  intro n
  induction n with
  | zero => intro x4 x7 x8 S I_S g0 g1 g2 hm; exact absurd hm (Nat.not_lt_zero _)
  | succ n ih =>
    intro x4 x7 x8 S I_S g0 g1 g2 hm
    rw [fX1_put_114_s]
    have F_S : Fr [(47, 0), (48, 0)] S S := Fr.refl _ _
    have h1 := i32 x4
    have h2 := i32 x8
    refine Sf.i (fun c_h3 => ?_) (fun c_h3 => ?_)
    · have h4 := le_iv rfl rfl c_h3
      exact Sf.so ⟨I_S, F_S, trivial⟩
    · have h5 := nle_iv rfl rfl c_h3
      refine Sf.i (fun c_h6 => ?_) (fun c_h6 => ?_)
      · have h7 := le_iv li_10 rfl c_h6
        exact Sf.so ⟨I_S, F_S, trivial⟩
      · have h8 := nle_iv li_10 rfl c_h6
        refine Sf.i (fun c_h9 => ?_) (fun c_h9 => ?_)
        · have h10 := le_iv (show ((Int32.ofNat 10)).toInt = 10 by decide) rfl c_h9
          exact Sf.so ⟨I_S, F_S, trivial⟩
        · have h11 := nle_iv (show ((Int32.ofNat 10)).toInt = 10 by decide) rfl c_h9
          refine Sf.g (ck_iv (by omega) (by omega)) ?_
          have h12 := i32 x7
          try have h13 : ((x7 * (10 : Int32))).toInt = (x7).toInt * (10) := mul_iv rfl li_10 (by omega) (by omega)
          try have h14 : (((x7 * (10 : Int32)) + x8)).toInt = ((x7 * (10 : Int32))).toInt + (x8).toInt := add_iv rfl rfl (by omega) (by omega)
          refine Sf.g (ck_iv (by omega) (by omega)) ?_
          refine Sf.w I_S F_S rfl (i32 _).1 (i32 _).2 (fun S_151 I_S_151 F_S_151 v_S_151 f_S_151 l_S_151 => ?_)
          have h15 : (S_151.1 48 ((((x7 * (10 : Int32)) + x8)).toNatClampNeg)).toInt = ((S.1 61 ((x8).toNatClampNeg))).toInt := eq_iv rfl rfl v_S_151
          have h16 : (S_151.1 61 ((x8).toNatClampNeg)).toInt = (S.1 61 ((x8).toNatClampNeg)).toInt := ti_eq (f_S_151 61 ((x8).toNatClampNeg) (fun e => absurd e (by decide)))
          refine Sf.g (ck_iv (by omega) (by omega)) ?_
          try have h17 : ((x8 + (1 : Int32))).toInt = (x8).toInt + (1) := add_iv rfl li_1 (by omega) (by omega)
          refine Sf.w I_S_151 F_S_151 rfl (show ((0) : Int) ≤ ((x8 + (1 : Int32))).toInt by omega) (show ((x8 + (1 : Int32))).toInt ≤ (10 : Int) by omega) (fun S_162 I_S_162 F_S_162 v_S_162 f_S_162 l_S_162 => ?_)
          have h18 : (S_162.1 47 ((x7).toNatClampNeg)).toInt = ((x8 + (1 : Int32))).toInt := eq_iv rfl rfl v_S_162
          have h19 : (S_162.1 48 ((((x7 * (10 : Int32)) + x8)).toNatClampNeg)).toInt = (S_151.1 48 ((((x7 * (10 : Int32)) + x8)).toNatClampNeg)).toInt := ti_eq (f_S_162 48 ((((x7 * (10 : Int32)) + x8)).toNatClampNeg) (fun e => absurd e (by decide)))
          have h20 : (S_162.1 61 ((x8).toNatClampNeg)).toInt = (S_151.1 61 ((x8).toNatClampNeg)).toInt := ti_eq (f_S_162 61 ((x8).toNatClampNeg) (fun e => absurd e (by decide)))
          refine Sf.mono (ih x4 x7 (x8 + (1 : Int32)) S_162 I_S_162 (by omega) (by omega) (by omega) (by omega)) (fun U r p_h21 => ?_)
          obtain ⟨I_U, G_U, p_h21⟩ := p_h21
          exact ⟨I_U, Fr.tr F_S_162 G_U rfl, trivial⟩
theorem s_fX1_put (fu : Nat) (hfu : 1000000000000000000 ≤ fu) (x1 : Int32) (x2 : Int32) (x4 : Int32) (x5 : Int64) (S : St) (I_S : Inv S) : Sf (fX1_put fu x1 x2 x4 x5 S) (fun U r => Inv U ∧ Fr [(42, 7), (42, 8), (43, 0), (44, 0), (46, 0), (47, 0), (48, 0)] S U ∧ (True)) := by
  unfold fX1_put
  have F_S : Fr [(42, 7), (42, 8), (43, 0), (44, 0), (46, 0), (47, 0), (48, 0)] S S := Fr.refl _ _
  have h1 := i32 x1
  have h2 := i32 x2
  have h3 := b_42_6 I_S
  refine Sf.bp (s_fX1_slotOf fu hfu x1 x2 S I_S) (fun r_3 p_r_3 => ?_)
  have h4 := i32 r_3
  refine Sf.i (fun c_h5 => ?_) (fun c_h5 => ?_)
  · have h6 := eq_iv rfl li_m1 c_h5
    refine Sf.i (fun c_h7 => ?_) (fun c_h7 => ?_)
    · have h8 := le_iv li_100 rfl c_h7
      unfold fX1_put_39
      refine Sf.i (fun c_h9 => ?_) (fun c_h9 => ?_)
      · have h10 := eq_iv rfl li_m1 c_h9
        refine Sf.bp (s_fX1_firstToEnd fu hfu S I_S) (fun r_46 p_r_46 => ?_)
        unfold fX1_put_51
        have h11 := i32 r_46
        refine Sf.g (ck_iv (by omega) (by omega)) ?_
        refine Sf.w I_S F_S rfl (i32 _).1 (i32 _).2 (fun S_58 I_S_58 F_S_58 v_S_58 f_S_58 l_S_58 => ?_)
        have h12 := ti_eq (f_S_58 42 6 (fun e => absurd e (by decide)))
        have h13 := ti_eq (f_S_58 42 7 (fun e => absurd e (by decide)))
        have h14 := ti_eq (f_S_58 42 8 (fun e => absurd e (by decide)))
        have h15 : (S_58.1 43 ((r_46).toNatClampNeg)).toInt = (x1).toInt := eq_iv rfl rfl v_S_58
        refine Sf.g (ck_iv (by omega) (by omega)) ?_
        refine Sf.w I_S_58 F_S_58 rfl (i32 _).1 (i32 _).2 (fun S_66 I_S_66 F_S_66 v_S_66 f_S_66 l_S_66 => ?_)
        have h16 := ti_eq (f_S_66 42 6 (fun e => absurd e (by decide)))
        have h17 := ti_eq (f_S_66 42 7 (fun e => absurd e (by decide)))
        have h18 := ti_eq (f_S_66 42 8 (fun e => absurd e (by decide)))
        have h19 : (S_66.1 44 ((r_46).toNatClampNeg)).toInt = (x2).toInt := eq_iv rfl rfl v_S_66
        have h20 : (S_66.1 43 ((r_46).toNatClampNeg)).toInt = (S_58.1 43 ((r_46).toNatClampNeg)).toInt := ti_eq (f_S_66 43 ((r_46).toNatClampNeg) (fun e => absurd e (by decide)))
        refine Sf.g (ck_iv (by omega) (by omega)) ?_
        refine Sf.j I_S_66 F_S_66 (fun S_81 I_S_81 F_S_81 l_S_81 => ?_)
        have h21 : (S_81.1 42 6).toInt = (S_66.1 42 6).toInt := by rw [l_S_81]
        have h22 : (S_81.1 42 7).toInt = (S_66.1 42 7).toInt := by rw [l_S_81]
        have h23 : (S_81.1 42 8).toInt = (S_66.1 42 8).toInt := by rw [l_S_81]
        have h24 : (S_81.1 43 ((r_46).toNatClampNeg)).toInt = (S_66.1 43 ((r_46).toNatClampNeg)).toInt := (by rw [l_S_81])
        have h25 : (S_81.1 44 ((r_46).toNatClampNeg)).toInt = (S_66.1 44 ((r_46).toNatClampNeg)).toInt := (by rw [l_S_81])
        refine Sf.g (ck_iv (by omega) (by omega)) ?_
        refine Sf.w I_S_81 F_S_81 rfl (i32 _).1 (i32 _).2 (fun S_92 I_S_92 F_S_92 v_S_92 f_S_92 l_S_92 => ?_)
        have h26 := ti_eq (f_S_92 42 6 (fun e => absurd e (by decide)))
        have h27 := ti_eq (f_S_92 42 7 (fun e => absurd e (by decide)))
        have h28 := ti_eq (f_S_92 42 8 (fun e => absurd e (by decide)))
        have h29 : (S_92.1 46 ((r_46).toNatClampNeg)).toInt = ((S_81.1 42 7)).toInt := eq_iv rfl rfl v_S_92
        have h30 : (S_92.1 43 ((r_46).toNatClampNeg)).toInt = (S_81.1 43 ((r_46).toNatClampNeg)).toInt := ti_eq (f_S_92 43 ((r_46).toNatClampNeg) (fun e => absurd e (by decide)))
        have h31 : (S_92.1 44 ((r_46).toNatClampNeg)).toInt = (S_81.1 44 ((r_46).toNatClampNeg)).toInt := ti_eq (f_S_92 44 ((r_46).toNatClampNeg) (fun e => absurd e (by decide)))
        try have h32 : (((S_92.1 42 7) + (1 : Int32))).toInt = ((S_92.1 42 7)).toInt + (1) := add_iv rfl li_1 (by omega) (by omega)
        refine Sf.w I_S_92 F_S_92 rfl (i32 _).1 (i32 _).2 (fun S_100 I_S_100 F_S_100 v_S_100 f_S_100 l_S_100 => ?_)
        have h33 := ti_eq (f_S_100 42 6 (fun _ e => absurd e (by decide)))
        have h34 := eq_iv rfl rfl v_S_100
        have h35 := ti_eq (f_S_100 42 8 (fun _ e => absurd e (by decide)))
        have h36 : (S_100.1 43 ((r_46).toNatClampNeg)).toInt = (S_92.1 43 ((r_46).toNatClampNeg)).toInt := ti_eq (f_S_100 43 ((r_46).toNatClampNeg) (fun e => absurd e (by decide)))
        have h37 : (S_100.1 44 ((r_46).toNatClampNeg)).toInt = (S_92.1 44 ((r_46).toNatClampNeg)).toInt := ti_eq (f_S_100 44 ((r_46).toNatClampNeg) (fun e => absurd e (by decide)))
        have h38 : (S_100.1 46 ((r_46).toNatClampNeg)).toInt = (S_92.1 46 ((r_46).toNatClampNeg)).toInt := ti_eq (f_S_100 46 ((r_46).toNatClampNeg) (fun e => absurd e (by decide)))
        refine Sf.g (ck_iv (by omega) (by omega)) ?_
        refine Sf.w I_S_100 F_S_100 rfl (show ((0) : Int) ≤ ((0 : Int32)).toInt by rw [li_0]; omega) (show ((0 : Int32)).toInt ≤ (10 : Int) by rw [li_0]; omega) (fun S_110 I_S_110 F_S_110 v_S_110 f_S_110 l_S_110 => ?_)
        have h39 := ti_eq (f_S_110 42 6 (fun e => absurd e (by decide)))
        have h40 := ti_eq (f_S_110 42 7 (fun e => absurd e (by decide)))
        have h41 := ti_eq (f_S_110 42 8 (fun e => absurd e (by decide)))
        have h42 : (S_110.1 47 ((r_46).toNatClampNeg)).toInt = (0) := eq_iv rfl li_0 v_S_110
        have h43 : (S_110.1 43 ((r_46).toNatClampNeg)).toInt = (S_100.1 43 ((r_46).toNatClampNeg)).toInt := ti_eq (f_S_110 43 ((r_46).toNatClampNeg) (fun e => absurd e (by decide)))
        have h44 : (S_110.1 44 ((r_46).toNatClampNeg)).toInt = (S_100.1 44 ((r_46).toNatClampNeg)).toInt := ti_eq (f_S_110 44 ((r_46).toNatClampNeg) (fun e => absurd e (by decide)))
        have h45 : (S_110.1 46 ((r_46).toNatClampNeg)).toInt = (S_100.1 46 ((r_46).toNatClampNeg)).toInt := ti_eq (f_S_110 46 ((r_46).toNatClampNeg) (fun e => absurd e (by decide)))
        have h46 := i32 x4
        have h47 : ((0 : Int32)).toInt = 0 := li_0
        refine Sf.mono (s_fX1_put_114 fu hfu fu x4 r_46 (0 : Int32) S_110 I_S_110 (by omega) (by omega) (by omega) (by omega)) (fun U r p_h48 => ?_)
        obtain ⟨I_U, G_U, p_h48⟩ := p_h48
        have h49 := ti_eq (G_U 42 6 rfl)
        have h50 := ti_eq (G_U 42 7 rfl)
        have h51 := ti_eq (G_U 42 8 rfl)
        exact ⟨I_U, Fr.tr F_S_110 G_U rfl, trivial⟩
      · have h52 := neq_iv rfl li_m1 c_h9
        unfold fX1_put_51
        refine Sf.g (ck_iv (by omega) (by omega)) ?_
        refine Sf.w I_S F_S rfl (i32 _).1 (i32 _).2 (fun S_58 I_S_58 F_S_58 v_S_58 f_S_58 l_S_58 => ?_)
        have h53 := ti_eq (f_S_58 42 6 (fun e => absurd e (by decide)))
        have h54 := ti_eq (f_S_58 42 7 (fun e => absurd e (by decide)))
        have h55 := ti_eq (f_S_58 42 8 (fun e => absurd e (by decide)))
        have h56 : (S_58.1 43 ((r_3).toNatClampNeg)).toInt = (x1).toInt := eq_iv rfl rfl v_S_58
        refine Sf.g (ck_iv (by omega) (by omega)) ?_
        refine Sf.w I_S_58 F_S_58 rfl (i32 _).1 (i32 _).2 (fun S_66 I_S_66 F_S_66 v_S_66 f_S_66 l_S_66 => ?_)
        have h57 := ti_eq (f_S_66 42 6 (fun e => absurd e (by decide)))
        have h58 := ti_eq (f_S_66 42 7 (fun e => absurd e (by decide)))
        have h59 := ti_eq (f_S_66 42 8 (fun e => absurd e (by decide)))
        have h60 : (S_66.1 44 ((r_3).toNatClampNeg)).toInt = (x2).toInt := eq_iv rfl rfl v_S_66
        have h61 : (S_66.1 43 ((r_3).toNatClampNeg)).toInt = (S_58.1 43 ((r_3).toNatClampNeg)).toInt := ti_eq (f_S_66 43 ((r_3).toNatClampNeg) (fun e => absurd e (by decide)))
        refine Sf.g (ck_iv (by omega) (by omega)) ?_
        refine Sf.j I_S_66 F_S_66 (fun S_81 I_S_81 F_S_81 l_S_81 => ?_)
        have h62 : (S_81.1 42 6).toInt = (S_66.1 42 6).toInt := by rw [l_S_81]
        have h63 : (S_81.1 42 7).toInt = (S_66.1 42 7).toInt := by rw [l_S_81]
        have h64 : (S_81.1 42 8).toInt = (S_66.1 42 8).toInt := by rw [l_S_81]
        have h65 : (S_81.1 43 ((r_3).toNatClampNeg)).toInt = (S_66.1 43 ((r_3).toNatClampNeg)).toInt := (by rw [l_S_81])
        have h66 : (S_81.1 44 ((r_3).toNatClampNeg)).toInt = (S_66.1 44 ((r_3).toNatClampNeg)).toInt := (by rw [l_S_81])
        refine Sf.g (ck_iv (by omega) (by omega)) ?_
        refine Sf.w I_S_81 F_S_81 rfl (i32 _).1 (i32 _).2 (fun S_92 I_S_92 F_S_92 v_S_92 f_S_92 l_S_92 => ?_)
        have h67 := ti_eq (f_S_92 42 6 (fun e => absurd e (by decide)))
        have h68 := ti_eq (f_S_92 42 7 (fun e => absurd e (by decide)))
        have h69 := ti_eq (f_S_92 42 8 (fun e => absurd e (by decide)))
        have h70 : (S_92.1 46 ((r_3).toNatClampNeg)).toInt = ((S_81.1 42 7)).toInt := eq_iv rfl rfl v_S_92
        have h71 : (S_92.1 43 ((r_3).toNatClampNeg)).toInt = (S_81.1 43 ((r_3).toNatClampNeg)).toInt := ti_eq (f_S_92 43 ((r_3).toNatClampNeg) (fun e => absurd e (by decide)))
        have h72 : (S_92.1 44 ((r_3).toNatClampNeg)).toInt = (S_81.1 44 ((r_3).toNatClampNeg)).toInt := ti_eq (f_S_92 44 ((r_3).toNatClampNeg) (fun e => absurd e (by decide)))
        try have h73 : (((S_92.1 42 7) + (1 : Int32))).toInt = ((S_92.1 42 7)).toInt + (1) := add_iv rfl li_1 (by omega) (by omega)
        refine Sf.w I_S_92 F_S_92 rfl (i32 _).1 (i32 _).2 (fun S_100 I_S_100 F_S_100 v_S_100 f_S_100 l_S_100 => ?_)
        have h74 := ti_eq (f_S_100 42 6 (fun _ e => absurd e (by decide)))
        have h75 := eq_iv rfl rfl v_S_100
        have h76 := ti_eq (f_S_100 42 8 (fun _ e => absurd e (by decide)))
        have h77 : (S_100.1 43 ((r_3).toNatClampNeg)).toInt = (S_92.1 43 ((r_3).toNatClampNeg)).toInt := ti_eq (f_S_100 43 ((r_3).toNatClampNeg) (fun e => absurd e (by decide)))
        have h78 : (S_100.1 44 ((r_3).toNatClampNeg)).toInt = (S_92.1 44 ((r_3).toNatClampNeg)).toInt := ti_eq (f_S_100 44 ((r_3).toNatClampNeg) (fun e => absurd e (by decide)))
        have h79 : (S_100.1 46 ((r_3).toNatClampNeg)).toInt = (S_92.1 46 ((r_3).toNatClampNeg)).toInt := ti_eq (f_S_100 46 ((r_3).toNatClampNeg) (fun e => absurd e (by decide)))
        refine Sf.g (ck_iv (by omega) (by omega)) ?_
        refine Sf.w I_S_100 F_S_100 rfl (show ((0) : Int) ≤ ((0 : Int32)).toInt by rw [li_0]; omega) (show ((0 : Int32)).toInt ≤ (10 : Int) by rw [li_0]; omega) (fun S_110 I_S_110 F_S_110 v_S_110 f_S_110 l_S_110 => ?_)
        have h80 := ti_eq (f_S_110 42 6 (fun e => absurd e (by decide)))
        have h81 := ti_eq (f_S_110 42 7 (fun e => absurd e (by decide)))
        have h82 := ti_eq (f_S_110 42 8 (fun e => absurd e (by decide)))
        have h83 : (S_110.1 47 ((r_3).toNatClampNeg)).toInt = (0) := eq_iv rfl li_0 v_S_110
        have h84 : (S_110.1 43 ((r_3).toNatClampNeg)).toInt = (S_100.1 43 ((r_3).toNatClampNeg)).toInt := ti_eq (f_S_110 43 ((r_3).toNatClampNeg) (fun e => absurd e (by decide)))
        have h85 : (S_110.1 44 ((r_3).toNatClampNeg)).toInt = (S_100.1 44 ((r_3).toNatClampNeg)).toInt := ti_eq (f_S_110 44 ((r_3).toNatClampNeg) (fun e => absurd e (by decide)))
        have h86 : (S_110.1 46 ((r_3).toNatClampNeg)).toInt = (S_100.1 46 ((r_3).toNatClampNeg)).toInt := ti_eq (f_S_110 46 ((r_3).toNatClampNeg) (fun e => absurd e (by decide)))
        have h87 := i32 x4
        have h88 : ((0 : Int32)).toInt = 0 := li_0
        refine Sf.mono (s_fX1_put_114 fu hfu fu x4 r_3 (0 : Int32) S_110 I_S_110 (by omega) (by omega) (by omega) (by omega)) (fun U r p_h89 => ?_)
        obtain ⟨I_U, G_U, p_h89⟩ := p_h89
        have h90 := ti_eq (G_U 42 6 rfl)
        have h91 := ti_eq (G_U 42 7 rfl)
        have h92 := ti_eq (G_U 42 8 rfl)
        exact ⟨I_U, Fr.tr F_S_110 G_U rfl, trivial⟩
    · have h93 := nle_iv li_100 rfl c_h7
      try have h94 : (((S.1 42 6) + (1 : Int32))).toInt = ((S.1 42 6)).toInt + (1) := add_iv rfl li_1 (by omega) (by omega)
      refine Sf.w I_S F_S rfl (show ((0) : Int) ≤ (((S.1 42 6) + (1 : Int32))).toInt by omega) (show (((S.1 42 6) + (1 : Int32))).toInt ≤ (100 : Int) by omega) (fun S_36 I_S_36 F_S_36 v_S_36 f_S_36 l_S_36 => ?_)
      have h95 := eq_iv rfl rfl v_S_36
      have h96 := ti_eq (f_S_36 42 7 (fun _ e => absurd e (by decide)))
      have h97 := ti_eq (f_S_36 42 8 (fun _ e => absurd e (by decide)))
      unfold fX1_put_39
      refine Sf.i (fun c_h98 => ?_) (fun c_h98 => ?_)
      · have h99 := eq_iv rfl li_m1 c_h98
        refine Sf.bp (s_fX1_firstToEnd fu hfu S_36 I_S_36) (fun r_46 p_r_46 => ?_)
        unfold fX1_put_51
        have h100 := i32 r_46
        refine Sf.g (ck_iv (by omega) (by omega)) ?_
        refine Sf.w I_S_36 F_S_36 rfl (i32 _).1 (i32 _).2 (fun S_58 I_S_58 F_S_58 v_S_58 f_S_58 l_S_58 => ?_)
        have h101 := ti_eq (f_S_58 42 6 (fun e => absurd e (by decide)))
        have h102 := ti_eq (f_S_58 42 7 (fun e => absurd e (by decide)))
        have h103 := ti_eq (f_S_58 42 8 (fun e => absurd e (by decide)))
        have h104 : (S_58.1 43 ((r_46).toNatClampNeg)).toInt = (x1).toInt := eq_iv rfl rfl v_S_58
        refine Sf.g (ck_iv (by omega) (by omega)) ?_
        refine Sf.w I_S_58 F_S_58 rfl (i32 _).1 (i32 _).2 (fun S_66 I_S_66 F_S_66 v_S_66 f_S_66 l_S_66 => ?_)
        have h105 := ti_eq (f_S_66 42 6 (fun e => absurd e (by decide)))
        have h106 := ti_eq (f_S_66 42 7 (fun e => absurd e (by decide)))
        have h107 := ti_eq (f_S_66 42 8 (fun e => absurd e (by decide)))
        have h108 : (S_66.1 44 ((r_46).toNatClampNeg)).toInt = (x2).toInt := eq_iv rfl rfl v_S_66
        have h109 : (S_66.1 43 ((r_46).toNatClampNeg)).toInt = (S_58.1 43 ((r_46).toNatClampNeg)).toInt := ti_eq (f_S_66 43 ((r_46).toNatClampNeg) (fun e => absurd e (by decide)))
        refine Sf.g (ck_iv (by omega) (by omega)) ?_
        refine Sf.j I_S_66 F_S_66 (fun S_81 I_S_81 F_S_81 l_S_81 => ?_)
        have h110 : (S_81.1 42 6).toInt = (S_66.1 42 6).toInt := by rw [l_S_81]
        have h111 : (S_81.1 42 7).toInt = (S_66.1 42 7).toInt := by rw [l_S_81]
        have h112 : (S_81.1 42 8).toInt = (S_66.1 42 8).toInt := by rw [l_S_81]
        have h113 : (S_81.1 43 ((r_46).toNatClampNeg)).toInt = (S_66.1 43 ((r_46).toNatClampNeg)).toInt := (by rw [l_S_81])
        have h114 : (S_81.1 44 ((r_46).toNatClampNeg)).toInt = (S_66.1 44 ((r_46).toNatClampNeg)).toInt := (by rw [l_S_81])
        refine Sf.g (ck_iv (by omega) (by omega)) ?_
        refine Sf.w I_S_81 F_S_81 rfl (i32 _).1 (i32 _).2 (fun S_92 I_S_92 F_S_92 v_S_92 f_S_92 l_S_92 => ?_)
        have h115 := ti_eq (f_S_92 42 6 (fun e => absurd e (by decide)))
        have h116 := ti_eq (f_S_92 42 7 (fun e => absurd e (by decide)))
        have h117 := ti_eq (f_S_92 42 8 (fun e => absurd e (by decide)))
        have h118 : (S_92.1 46 ((r_46).toNatClampNeg)).toInt = ((S_81.1 42 7)).toInt := eq_iv rfl rfl v_S_92
        have h119 : (S_92.1 43 ((r_46).toNatClampNeg)).toInt = (S_81.1 43 ((r_46).toNatClampNeg)).toInt := ti_eq (f_S_92 43 ((r_46).toNatClampNeg) (fun e => absurd e (by decide)))
        have h120 : (S_92.1 44 ((r_46).toNatClampNeg)).toInt = (S_81.1 44 ((r_46).toNatClampNeg)).toInt := ti_eq (f_S_92 44 ((r_46).toNatClampNeg) (fun e => absurd e (by decide)))
        try have h121 : (((S_92.1 42 7) + (1 : Int32))).toInt = ((S_92.1 42 7)).toInt + (1) := add_iv rfl li_1 (by omega) (by omega)
        refine Sf.w I_S_92 F_S_92 rfl (i32 _).1 (i32 _).2 (fun S_100 I_S_100 F_S_100 v_S_100 f_S_100 l_S_100 => ?_)
        have h122 := ti_eq (f_S_100 42 6 (fun _ e => absurd e (by decide)))
        have h123 := eq_iv rfl rfl v_S_100
        have h124 := ti_eq (f_S_100 42 8 (fun _ e => absurd e (by decide)))
        have h125 : (S_100.1 43 ((r_46).toNatClampNeg)).toInt = (S_92.1 43 ((r_46).toNatClampNeg)).toInt := ti_eq (f_S_100 43 ((r_46).toNatClampNeg) (fun e => absurd e (by decide)))
        have h126 : (S_100.1 44 ((r_46).toNatClampNeg)).toInt = (S_92.1 44 ((r_46).toNatClampNeg)).toInt := ti_eq (f_S_100 44 ((r_46).toNatClampNeg) (fun e => absurd e (by decide)))
        have h127 : (S_100.1 46 ((r_46).toNatClampNeg)).toInt = (S_92.1 46 ((r_46).toNatClampNeg)).toInt := ti_eq (f_S_100 46 ((r_46).toNatClampNeg) (fun e => absurd e (by decide)))
        refine Sf.g (ck_iv (by omega) (by omega)) ?_
        refine Sf.w I_S_100 F_S_100 rfl (show ((0) : Int) ≤ ((0 : Int32)).toInt by rw [li_0]; omega) (show ((0 : Int32)).toInt ≤ (10 : Int) by rw [li_0]; omega) (fun S_110 I_S_110 F_S_110 v_S_110 f_S_110 l_S_110 => ?_)
        have h128 := ti_eq (f_S_110 42 6 (fun e => absurd e (by decide)))
        have h129 := ti_eq (f_S_110 42 7 (fun e => absurd e (by decide)))
        have h130 := ti_eq (f_S_110 42 8 (fun e => absurd e (by decide)))
        have h131 : (S_110.1 47 ((r_46).toNatClampNeg)).toInt = (0) := eq_iv rfl li_0 v_S_110
        have h132 : (S_110.1 43 ((r_46).toNatClampNeg)).toInt = (S_100.1 43 ((r_46).toNatClampNeg)).toInt := ti_eq (f_S_110 43 ((r_46).toNatClampNeg) (fun e => absurd e (by decide)))
        have h133 : (S_110.1 44 ((r_46).toNatClampNeg)).toInt = (S_100.1 44 ((r_46).toNatClampNeg)).toInt := ti_eq (f_S_110 44 ((r_46).toNatClampNeg) (fun e => absurd e (by decide)))
        have h134 : (S_110.1 46 ((r_46).toNatClampNeg)).toInt = (S_100.1 46 ((r_46).toNatClampNeg)).toInt := ti_eq (f_S_110 46 ((r_46).toNatClampNeg) (fun e => absurd e (by decide)))
        have h135 := i32 x4
        have h136 : ((0 : Int32)).toInt = 0 := li_0
        refine Sf.mono (s_fX1_put_114 fu hfu fu x4 r_46 (0 : Int32) S_110 I_S_110 (by omega) (by omega) (by omega) (by omega)) (fun U r p_h137 => ?_)
        obtain ⟨I_U, G_U, p_h137⟩ := p_h137
        have h138 := ti_eq (G_U 42 6 rfl)
        have h139 := ti_eq (G_U 42 7 rfl)
        have h140 := ti_eq (G_U 42 8 rfl)
        exact ⟨I_U, Fr.tr F_S_110 G_U rfl, trivial⟩
      · have h141 := neq_iv rfl li_m1 c_h98
        unfold fX1_put_51
        refine Sf.g (ck_iv (by omega) (by omega)) ?_
        refine Sf.w I_S_36 F_S_36 rfl (i32 _).1 (i32 _).2 (fun S_58 I_S_58 F_S_58 v_S_58 f_S_58 l_S_58 => ?_)
        have h142 := ti_eq (f_S_58 42 6 (fun e => absurd e (by decide)))
        have h143 := ti_eq (f_S_58 42 7 (fun e => absurd e (by decide)))
        have h144 := ti_eq (f_S_58 42 8 (fun e => absurd e (by decide)))
        have h145 : (S_58.1 43 (((S.1 42 6)).toNatClampNeg)).toInt = (x1).toInt := eq_iv rfl rfl v_S_58
        refine Sf.g (ck_iv (by omega) (by omega)) ?_
        refine Sf.w I_S_58 F_S_58 rfl (i32 _).1 (i32 _).2 (fun S_66 I_S_66 F_S_66 v_S_66 f_S_66 l_S_66 => ?_)
        have h146 := ti_eq (f_S_66 42 6 (fun e => absurd e (by decide)))
        have h147 := ti_eq (f_S_66 42 7 (fun e => absurd e (by decide)))
        have h148 := ti_eq (f_S_66 42 8 (fun e => absurd e (by decide)))
        have h149 : (S_66.1 44 (((S.1 42 6)).toNatClampNeg)).toInt = (x2).toInt := eq_iv rfl rfl v_S_66
        have h150 : (S_66.1 43 (((S.1 42 6)).toNatClampNeg)).toInt = (S_58.1 43 (((S.1 42 6)).toNatClampNeg)).toInt := ti_eq (f_S_66 43 (((S.1 42 6)).toNatClampNeg) (fun e => absurd e (by decide)))
        refine Sf.g (ck_iv (by omega) (by omega)) ?_
        refine Sf.j I_S_66 F_S_66 (fun S_81 I_S_81 F_S_81 l_S_81 => ?_)
        have h151 : (S_81.1 42 6).toInt = (S_66.1 42 6).toInt := by rw [l_S_81]
        have h152 : (S_81.1 42 7).toInt = (S_66.1 42 7).toInt := by rw [l_S_81]
        have h153 : (S_81.1 42 8).toInt = (S_66.1 42 8).toInt := by rw [l_S_81]
        have h154 : (S_81.1 43 (((S.1 42 6)).toNatClampNeg)).toInt = (S_66.1 43 (((S.1 42 6)).toNatClampNeg)).toInt := (by rw [l_S_81])
        have h155 : (S_81.1 44 (((S.1 42 6)).toNatClampNeg)).toInt = (S_66.1 44 (((S.1 42 6)).toNatClampNeg)).toInt := (by rw [l_S_81])
        refine Sf.g (ck_iv (by omega) (by omega)) ?_
        refine Sf.w I_S_81 F_S_81 rfl (i32 _).1 (i32 _).2 (fun S_92 I_S_92 F_S_92 v_S_92 f_S_92 l_S_92 => ?_)
        have h156 := ti_eq (f_S_92 42 6 (fun e => absurd e (by decide)))
        have h157 := ti_eq (f_S_92 42 7 (fun e => absurd e (by decide)))
        have h158 := ti_eq (f_S_92 42 8 (fun e => absurd e (by decide)))
        have h159 : (S_92.1 46 (((S.1 42 6)).toNatClampNeg)).toInt = ((S_81.1 42 7)).toInt := eq_iv rfl rfl v_S_92
        have h160 : (S_92.1 43 (((S.1 42 6)).toNatClampNeg)).toInt = (S_81.1 43 (((S.1 42 6)).toNatClampNeg)).toInt := ti_eq (f_S_92 43 (((S.1 42 6)).toNatClampNeg) (fun e => absurd e (by decide)))
        have h161 : (S_92.1 44 (((S.1 42 6)).toNatClampNeg)).toInt = (S_81.1 44 (((S.1 42 6)).toNatClampNeg)).toInt := ti_eq (f_S_92 44 (((S.1 42 6)).toNatClampNeg) (fun e => absurd e (by decide)))
        try have h162 : (((S_92.1 42 7) + (1 : Int32))).toInt = ((S_92.1 42 7)).toInt + (1) := add_iv rfl li_1 (by omega) (by omega)
        refine Sf.w I_S_92 F_S_92 rfl (i32 _).1 (i32 _).2 (fun S_100 I_S_100 F_S_100 v_S_100 f_S_100 l_S_100 => ?_)
        have h163 := ti_eq (f_S_100 42 6 (fun _ e => absurd e (by decide)))
        have h164 := eq_iv rfl rfl v_S_100
        have h165 := ti_eq (f_S_100 42 8 (fun _ e => absurd e (by decide)))
        have h166 : (S_100.1 43 (((S.1 42 6)).toNatClampNeg)).toInt = (S_92.1 43 (((S.1 42 6)).toNatClampNeg)).toInt := ti_eq (f_S_100 43 (((S.1 42 6)).toNatClampNeg) (fun e => absurd e (by decide)))
        have h167 : (S_100.1 44 (((S.1 42 6)).toNatClampNeg)).toInt = (S_92.1 44 (((S.1 42 6)).toNatClampNeg)).toInt := ti_eq (f_S_100 44 (((S.1 42 6)).toNatClampNeg) (fun e => absurd e (by decide)))
        have h168 : (S_100.1 46 (((S.1 42 6)).toNatClampNeg)).toInt = (S_92.1 46 (((S.1 42 6)).toNatClampNeg)).toInt := ti_eq (f_S_100 46 (((S.1 42 6)).toNatClampNeg) (fun e => absurd e (by decide)))
        refine Sf.g (ck_iv (by omega) (by omega)) ?_
        refine Sf.w I_S_100 F_S_100 rfl (show ((0) : Int) ≤ ((0 : Int32)).toInt by rw [li_0]; omega) (show ((0 : Int32)).toInt ≤ (10 : Int) by rw [li_0]; omega) (fun S_110 I_S_110 F_S_110 v_S_110 f_S_110 l_S_110 => ?_)
        have h169 := ti_eq (f_S_110 42 6 (fun e => absurd e (by decide)))
        have h170 := ti_eq (f_S_110 42 7 (fun e => absurd e (by decide)))
        have h171 := ti_eq (f_S_110 42 8 (fun e => absurd e (by decide)))
        have h172 : (S_110.1 47 (((S.1 42 6)).toNatClampNeg)).toInt = (0) := eq_iv rfl li_0 v_S_110
        have h173 : (S_110.1 43 (((S.1 42 6)).toNatClampNeg)).toInt = (S_100.1 43 (((S.1 42 6)).toNatClampNeg)).toInt := ti_eq (f_S_110 43 (((S.1 42 6)).toNatClampNeg) (fun e => absurd e (by decide)))
        have h174 : (S_110.1 44 (((S.1 42 6)).toNatClampNeg)).toInt = (S_100.1 44 (((S.1 42 6)).toNatClampNeg)).toInt := ti_eq (f_S_110 44 (((S.1 42 6)).toNatClampNeg) (fun e => absurd e (by decide)))
        have h175 : (S_110.1 46 (((S.1 42 6)).toNatClampNeg)).toInt = (S_100.1 46 (((S.1 42 6)).toNatClampNeg)).toInt := ti_eq (f_S_110 46 (((S.1 42 6)).toNatClampNeg) (fun e => absurd e (by decide)))
        have h176 := i32 x4
        have h177 : ((0 : Int32)).toInt = 0 := li_0
        refine Sf.mono (s_fX1_put_114 fu hfu fu x4 (S.1 42 6) (0 : Int32) S_110 I_S_110 (by omega) (by omega) (by omega) (by omega)) (fun U r p_h178 => ?_)
        obtain ⟨I_U, G_U, p_h178⟩ := p_h178
        have h179 := ti_eq (G_U 42 6 rfl)
        have h180 := ti_eq (G_U 42 7 rfl)
        have h181 := ti_eq (G_U 42 8 rfl)
        exact ⟨I_U, Fr.tr F_S_110 G_U rfl, trivial⟩
  · have h182 := neq_iv rfl li_m1 c_h5
    unfold fX1_put_39
    refine Sf.i (fun c_h183 => ?_) (fun c_h183 => ?_)
    · have h184 := eq_iv rfl li_m1 c_h183
      refine Sf.bp (s_fX1_firstToEnd fu hfu S I_S) (fun r_46 p_r_46 => ?_)
      unfold fX1_put_51
      have h185 := i32 r_46
      refine Sf.g (ck_iv (by omega) (by omega)) ?_
      refine Sf.w I_S F_S rfl (i32 _).1 (i32 _).2 (fun S_58 I_S_58 F_S_58 v_S_58 f_S_58 l_S_58 => ?_)
      have h186 := ti_eq (f_S_58 42 6 (fun e => absurd e (by decide)))
      have h187 := ti_eq (f_S_58 42 7 (fun e => absurd e (by decide)))
      have h188 := ti_eq (f_S_58 42 8 (fun e => absurd e (by decide)))
      have h189 : (S_58.1 43 ((r_46).toNatClampNeg)).toInt = (x1).toInt := eq_iv rfl rfl v_S_58
      refine Sf.g (ck_iv (by omega) (by omega)) ?_
      refine Sf.w I_S_58 F_S_58 rfl (i32 _).1 (i32 _).2 (fun S_66 I_S_66 F_S_66 v_S_66 f_S_66 l_S_66 => ?_)
      have h190 := ti_eq (f_S_66 42 6 (fun e => absurd e (by decide)))
      have h191 := ti_eq (f_S_66 42 7 (fun e => absurd e (by decide)))
      have h192 := ti_eq (f_S_66 42 8 (fun e => absurd e (by decide)))
      have h193 : (S_66.1 44 ((r_46).toNatClampNeg)).toInt = (x2).toInt := eq_iv rfl rfl v_S_66
      have h194 : (S_66.1 43 ((r_46).toNatClampNeg)).toInt = (S_58.1 43 ((r_46).toNatClampNeg)).toInt := ti_eq (f_S_66 43 ((r_46).toNatClampNeg) (fun e => absurd e (by decide)))
      refine Sf.g (ck_iv (by omega) (by omega)) ?_
      refine Sf.j I_S_66 F_S_66 (fun S_81 I_S_81 F_S_81 l_S_81 => ?_)
      have h195 : (S_81.1 42 6).toInt = (S_66.1 42 6).toInt := by rw [l_S_81]
      have h196 : (S_81.1 42 7).toInt = (S_66.1 42 7).toInt := by rw [l_S_81]
      have h197 : (S_81.1 42 8).toInt = (S_66.1 42 8).toInt := by rw [l_S_81]
      have h198 : (S_81.1 43 ((r_46).toNatClampNeg)).toInt = (S_66.1 43 ((r_46).toNatClampNeg)).toInt := (by rw [l_S_81])
      have h199 : (S_81.1 44 ((r_46).toNatClampNeg)).toInt = (S_66.1 44 ((r_46).toNatClampNeg)).toInt := (by rw [l_S_81])
      refine Sf.g (ck_iv (by omega) (by omega)) ?_
      refine Sf.w I_S_81 F_S_81 rfl (i32 _).1 (i32 _).2 (fun S_92 I_S_92 F_S_92 v_S_92 f_S_92 l_S_92 => ?_)
      have h200 := ti_eq (f_S_92 42 6 (fun e => absurd e (by decide)))
      have h201 := ti_eq (f_S_92 42 7 (fun e => absurd e (by decide)))
      have h202 := ti_eq (f_S_92 42 8 (fun e => absurd e (by decide)))
      have h203 : (S_92.1 46 ((r_46).toNatClampNeg)).toInt = ((S_81.1 42 7)).toInt := eq_iv rfl rfl v_S_92
      have h204 : (S_92.1 43 ((r_46).toNatClampNeg)).toInt = (S_81.1 43 ((r_46).toNatClampNeg)).toInt := ti_eq (f_S_92 43 ((r_46).toNatClampNeg) (fun e => absurd e (by decide)))
      have h205 : (S_92.1 44 ((r_46).toNatClampNeg)).toInt = (S_81.1 44 ((r_46).toNatClampNeg)).toInt := ti_eq (f_S_92 44 ((r_46).toNatClampNeg) (fun e => absurd e (by decide)))
      try have h206 : (((S_92.1 42 7) + (1 : Int32))).toInt = ((S_92.1 42 7)).toInt + (1) := add_iv rfl li_1 (by omega) (by omega)
      refine Sf.w I_S_92 F_S_92 rfl (i32 _).1 (i32 _).2 (fun S_100 I_S_100 F_S_100 v_S_100 f_S_100 l_S_100 => ?_)
      have h207 := ti_eq (f_S_100 42 6 (fun _ e => absurd e (by decide)))
      have h208 := eq_iv rfl rfl v_S_100
      have h209 := ti_eq (f_S_100 42 8 (fun _ e => absurd e (by decide)))
      have h210 : (S_100.1 43 ((r_46).toNatClampNeg)).toInt = (S_92.1 43 ((r_46).toNatClampNeg)).toInt := ti_eq (f_S_100 43 ((r_46).toNatClampNeg) (fun e => absurd e (by decide)))
      have h211 : (S_100.1 44 ((r_46).toNatClampNeg)).toInt = (S_92.1 44 ((r_46).toNatClampNeg)).toInt := ti_eq (f_S_100 44 ((r_46).toNatClampNeg) (fun e => absurd e (by decide)))
      have h212 : (S_100.1 46 ((r_46).toNatClampNeg)).toInt = (S_92.1 46 ((r_46).toNatClampNeg)).toInt := ti_eq (f_S_100 46 ((r_46).toNatClampNeg) (fun e => absurd e (by decide)))
      refine Sf.g (ck_iv (by omega) (by omega)) ?_
      refine Sf.w I_S_100 F_S_100 rfl (show ((0) : Int) ≤ ((0 : Int32)).toInt by rw [li_0]; omega) (show ((0 : Int32)).toInt ≤ (10 : Int) by rw [li_0]; omega) (fun S_110 I_S_110 F_S_110 v_S_110 f_S_110 l_S_110 => ?_)
      have h213 := ti_eq (f_S_110 42 6 (fun e => absurd e (by decide)))
      have h214 := ti_eq (f_S_110 42 7 (fun e => absurd e (by decide)))
      have h215 := ti_eq (f_S_110 42 8 (fun e => absurd e (by decide)))
      have h216 : (S_110.1 47 ((r_46).toNatClampNeg)).toInt = (0) := eq_iv rfl li_0 v_S_110
      have h217 : (S_110.1 43 ((r_46).toNatClampNeg)).toInt = (S_100.1 43 ((r_46).toNatClampNeg)).toInt := ti_eq (f_S_110 43 ((r_46).toNatClampNeg) (fun e => absurd e (by decide)))
      have h218 : (S_110.1 44 ((r_46).toNatClampNeg)).toInt = (S_100.1 44 ((r_46).toNatClampNeg)).toInt := ti_eq (f_S_110 44 ((r_46).toNatClampNeg) (fun e => absurd e (by decide)))
      have h219 : (S_110.1 46 ((r_46).toNatClampNeg)).toInt = (S_100.1 46 ((r_46).toNatClampNeg)).toInt := ti_eq (f_S_110 46 ((r_46).toNatClampNeg) (fun e => absurd e (by decide)))
      have h220 := i32 x4
      have h221 : ((0 : Int32)).toInt = 0 := li_0
      refine Sf.mono (s_fX1_put_114 fu hfu fu x4 r_46 (0 : Int32) S_110 I_S_110 (by omega) (by omega) (by omega) (by omega)) (fun U r p_h222 => ?_)
      obtain ⟨I_U, G_U, p_h222⟩ := p_h222
      have h223 := ti_eq (G_U 42 6 rfl)
      have h224 := ti_eq (G_U 42 7 rfl)
      have h225 := ti_eq (G_U 42 8 rfl)
      exact ⟨I_U, Fr.tr F_S_110 G_U rfl, trivial⟩
    · have h226 := neq_iv rfl li_m1 c_h183
      unfold fX1_put_51
      refine Sf.g (ck_iv (by omega) (by omega)) ?_
      refine Sf.w I_S F_S rfl (i32 _).1 (i32 _).2 (fun S_58 I_S_58 F_S_58 v_S_58 f_S_58 l_S_58 => ?_)
      have h227 := ti_eq (f_S_58 42 6 (fun e => absurd e (by decide)))
      have h228 := ti_eq (f_S_58 42 7 (fun e => absurd e (by decide)))
      have h229 := ti_eq (f_S_58 42 8 (fun e => absurd e (by decide)))
      have h230 : (S_58.1 43 ((r_3).toNatClampNeg)).toInt = (x1).toInt := eq_iv rfl rfl v_S_58
      refine Sf.g (ck_iv (by omega) (by omega)) ?_
      refine Sf.w I_S_58 F_S_58 rfl (i32 _).1 (i32 _).2 (fun S_66 I_S_66 F_S_66 v_S_66 f_S_66 l_S_66 => ?_)
      have h231 := ti_eq (f_S_66 42 6 (fun e => absurd e (by decide)))
      have h232 := ti_eq (f_S_66 42 7 (fun e => absurd e (by decide)))
      have h233 := ti_eq (f_S_66 42 8 (fun e => absurd e (by decide)))
      have h234 : (S_66.1 44 ((r_3).toNatClampNeg)).toInt = (x2).toInt := eq_iv rfl rfl v_S_66
      have h235 : (S_66.1 43 ((r_3).toNatClampNeg)).toInt = (S_58.1 43 ((r_3).toNatClampNeg)).toInt := ti_eq (f_S_66 43 ((r_3).toNatClampNeg) (fun e => absurd e (by decide)))
      refine Sf.g (ck_iv (by omega) (by omega)) ?_
      refine Sf.j I_S_66 F_S_66 (fun S_81 I_S_81 F_S_81 l_S_81 => ?_)
      have h236 : (S_81.1 42 6).toInt = (S_66.1 42 6).toInt := by rw [l_S_81]
      have h237 : (S_81.1 42 7).toInt = (S_66.1 42 7).toInt := by rw [l_S_81]
      have h238 : (S_81.1 42 8).toInt = (S_66.1 42 8).toInt := by rw [l_S_81]
      have h239 : (S_81.1 43 ((r_3).toNatClampNeg)).toInt = (S_66.1 43 ((r_3).toNatClampNeg)).toInt := (by rw [l_S_81])
      have h240 : (S_81.1 44 ((r_3).toNatClampNeg)).toInt = (S_66.1 44 ((r_3).toNatClampNeg)).toInt := (by rw [l_S_81])
      refine Sf.g (ck_iv (by omega) (by omega)) ?_
      refine Sf.w I_S_81 F_S_81 rfl (i32 _).1 (i32 _).2 (fun S_92 I_S_92 F_S_92 v_S_92 f_S_92 l_S_92 => ?_)
      have h241 := ti_eq (f_S_92 42 6 (fun e => absurd e (by decide)))
      have h242 := ti_eq (f_S_92 42 7 (fun e => absurd e (by decide)))
      have h243 := ti_eq (f_S_92 42 8 (fun e => absurd e (by decide)))
      have h244 : (S_92.1 46 ((r_3).toNatClampNeg)).toInt = ((S_81.1 42 7)).toInt := eq_iv rfl rfl v_S_92
      have h245 : (S_92.1 43 ((r_3).toNatClampNeg)).toInt = (S_81.1 43 ((r_3).toNatClampNeg)).toInt := ti_eq (f_S_92 43 ((r_3).toNatClampNeg) (fun e => absurd e (by decide)))
      have h246 : (S_92.1 44 ((r_3).toNatClampNeg)).toInt = (S_81.1 44 ((r_3).toNatClampNeg)).toInt := ti_eq (f_S_92 44 ((r_3).toNatClampNeg) (fun e => absurd e (by decide)))
      try have h247 : (((S_92.1 42 7) + (1 : Int32))).toInt = ((S_92.1 42 7)).toInt + (1) := add_iv rfl li_1 (by omega) (by omega)
      refine Sf.w I_S_92 F_S_92 rfl (i32 _).1 (i32 _).2 (fun S_100 I_S_100 F_S_100 v_S_100 f_S_100 l_S_100 => ?_)
      have h248 := ti_eq (f_S_100 42 6 (fun _ e => absurd e (by decide)))
      have h249 := eq_iv rfl rfl v_S_100
      have h250 := ti_eq (f_S_100 42 8 (fun _ e => absurd e (by decide)))
      have h251 : (S_100.1 43 ((r_3).toNatClampNeg)).toInt = (S_92.1 43 ((r_3).toNatClampNeg)).toInt := ti_eq (f_S_100 43 ((r_3).toNatClampNeg) (fun e => absurd e (by decide)))
      have h252 : (S_100.1 44 ((r_3).toNatClampNeg)).toInt = (S_92.1 44 ((r_3).toNatClampNeg)).toInt := ti_eq (f_S_100 44 ((r_3).toNatClampNeg) (fun e => absurd e (by decide)))
      have h253 : (S_100.1 46 ((r_3).toNatClampNeg)).toInt = (S_92.1 46 ((r_3).toNatClampNeg)).toInt := ti_eq (f_S_100 46 ((r_3).toNatClampNeg) (fun e => absurd e (by decide)))
      refine Sf.g (ck_iv (by omega) (by omega)) ?_
      refine Sf.w I_S_100 F_S_100 rfl (show ((0) : Int) ≤ ((0 : Int32)).toInt by rw [li_0]; omega) (show ((0 : Int32)).toInt ≤ (10 : Int) by rw [li_0]; omega) (fun S_110 I_S_110 F_S_110 v_S_110 f_S_110 l_S_110 => ?_)
      have h254 := ti_eq (f_S_110 42 6 (fun e => absurd e (by decide)))
      have h255 := ti_eq (f_S_110 42 7 (fun e => absurd e (by decide)))
      have h256 := ti_eq (f_S_110 42 8 (fun e => absurd e (by decide)))
      have h257 : (S_110.1 47 ((r_3).toNatClampNeg)).toInt = (0) := eq_iv rfl li_0 v_S_110
      have h258 : (S_110.1 43 ((r_3).toNatClampNeg)).toInt = (S_100.1 43 ((r_3).toNatClampNeg)).toInt := ti_eq (f_S_110 43 ((r_3).toNatClampNeg) (fun e => absurd e (by decide)))
      have h259 : (S_110.1 44 ((r_3).toNatClampNeg)).toInt = (S_100.1 44 ((r_3).toNatClampNeg)).toInt := ti_eq (f_S_110 44 ((r_3).toNatClampNeg) (fun e => absurd e (by decide)))
      have h260 : (S_110.1 46 ((r_3).toNatClampNeg)).toInt = (S_100.1 46 ((r_3).toNatClampNeg)).toInt := ti_eq (f_S_110 46 ((r_3).toNatClampNeg) (fun e => absurd e (by decide)))
      have h261 := i32 x4
      have h262 : ((0 : Int32)).toInt = 0 := li_0
      refine Sf.mono (s_fX1_put_114 fu hfu fu x4 r_3 (0 : Int32) S_110 I_S_110 (by omega) (by omega) (by omega) (by omega)) (fun U r p_h263 => ?_)
      obtain ⟨I_U, G_U, p_h263⟩ := p_h263
      have h264 := ti_eq (G_U 42 6 rfl)
      have h265 := ti_eq (G_U 42 7 rfl)
      have h266 := ti_eq (G_U 42 8 rfl)
      exact ⟨I_U, Fr.tr F_S_110 G_U rfl, trivial⟩
theorem s_fX5_has_30 (fu : Nat) (hfu : 1000000000000000000 ≤ fu) (x1 : Int32) (S : St) (I_S : Inv S) : Sp (fX5_has fu 30 x1 S) S (fun r => ((r.toInt = 0 ∨ r.toInt = 1 ∧ 0 ≤ (x1).toInt ∧ (x1).toInt < (S.1 30 5).toInt))) := by
  unfold fX5_has
  try simp only [Nat.reduceAdd]
  have h1 := i32 x1
  refine Sp.i (fun c_h2 => ?_) (fun c_h2 => ?_)
  · have h3 := lt_iv rfl li_0 c_h2
    have h4 := b_30_5 I_S
    have h5 : ((0 : Int32)).toInt = 0 := li_0
    exact Sp.so (by omega)
  · have h6 := nlt_iv rfl li_0 c_h2
    have h7 := b_30_5 I_S
    refine Sp.i (fun c_h8 => ?_) (fun c_h8 => ?_)
    · have h9 := le_iv rfl rfl c_h8
      have h10 := b_30_5 I_S
      have h11 : ((0 : Int32)).toInt = 0 := li_0
      exact Sp.so (by omega)
    · have h12 := nle_iv rfl rfl c_h8
      have h13 := b_30_5 I_S
      have h14 : ((1 : Int32)).toInt = 1 := li_1
      exact Sp.so (by omega)
theorem s_fX5_isOf_30 (fu : Nat) (hfu : 1000000000000000000 ≤ fu) (x1 : Int32) (x2 : Int32) (x3 : Int32) (x4 : Int32) (S : St) (I_S : Inv S) : Sp (fX5_isOf fu 30 x1 x2 x3 x4 S) S (fun r => (0 ≤ r.toInt) ∧ (r.toInt ≤ 1)) := by
  unfold fX5_isOf
  try simp only [Nat.reduceAdd]
  have h1 := i32 x1
  have h2 := b_30_5 I_S
  refine Sp.b (s_fX5_has_30 fu hfu x1 S I_S) (fun r_2 p_r_2 => ?_)
  have h3 := i32 r_2
  refine Sp.i (fun c_h4 => ?_) (fun c_h4 => ?_)
  · have h5 := eq_iv rfl li_0 c_h4
    have h6 : ((0 : Int32)).toInt = 0 := li_0
    exact Sp.so (by omega)
  · have h7 := neq_iv rfl li_0 c_h4
    refine Sp.g (ck_iv (by omega) (by omega)) ?_
    have h8 := i32 x2
    refine Sp.i (fun c_h9 => ?_) (fun c_h9 => ?_)
    · have h10 := eq_iv rfl rfl c_h9
      refine Sp.g (ck_iv (by omega) (by omega)) ?_
      have h11 := i32 x3
      refine Sp.i (fun c_h12 => ?_) (fun c_h12 => ?_)
      · have h13 := eq_iv rfl rfl c_h12
        refine Sp.g (ck_iv (by omega) (by omega)) ?_
        have h14 := i32 x4
        refine Sp.i (fun c_h15 => ?_) (fun c_h15 => ?_)
        · have h16 := eq_iv rfl rfl c_h15
          have h17 : ((1 : Int32)).toInt = 1 := li_1
          exact Sp.so (by omega)
        · have h18 := neq_iv rfl rfl c_h15
          have h19 : ((0 : Int32)).toInt = 0 := li_0
          exact Sp.so (by omega)
      · have h20 := neq_iv rfl rfl c_h12
        have h21 : ((0 : Int32)).toInt = 0 := li_0
        exact Sp.so (by omega)
    · have h22 := neq_iv rfl rfl c_h9
      have h23 : ((0 : Int32)).toInt = 0 := li_0
      exact Sp.so (by omega)
theorem s_fX5_life_30 (fu : Nat) (hfu : 1000000000000000000 ≤ fu) (x1 : Int32) (S : St) (I_S : Inv S) : Sp (fX5_life fu 30 x1 S) S (fun r => True) := by
  unfold fX5_life
  try simp only [Nat.reduceAdd]
  have h1 := i32 x1
  have h2 := b_30_5 I_S
  refine Sp.b (s_fX5_has_30 fu hfu x1 S I_S) (fun r_2 p_r_2 => ?_)
  have h3 := i32 r_2
  refine Sp.i (fun c_h4 => ?_) (fun c_h4 => ?_)
  · have h5 := eq_iv rfl li_0 c_h4
    exact Sp.so trivial
  · have h6 := neq_iv rfl li_0 c_h4
    refine Sp.g (ck_iv (by omega) (by omega)) ?_
    exact Sp.so trivial
theorem s_fX6_unsigned (fu : Nat) (hfu : 1000000000000000000 ≤ fu) (x0 : Int32) (S : St) (I_S : Inv S) : Sp (fX6_unsigned fu x0 S) S (fun r => True) := by
  unfold fX6_unsigned
  exact Sp.so trivial
theorem s_fX5_value_30 (fu : Nat) (hfu : 1000000000000000000 ≤ fu) (x1 : Int32) (S : St) (I_S : Inv S) : Sp (fX5_value fu 30 x1 S) S (fun r => True) := by
  unfold fX5_value
  try simp only [Nat.reduceAdd]
  have h1 := i32 x1
  have h2 := b_30_5 I_S
  refine Sp.b (s_fX5_has_30 fu hfu x1 S I_S) (fun r_2 p_r_2 => ?_)
  have h3 := i32 r_2
  refine Sp.i (fun c_h4 => ?_) (fun c_h4 => ?_)
  · have h5 := eq_iv rfl li_0 c_h4
    exact Sp.so trivial
  · have h6 := neq_iv rfl li_0 c_h4
    refine Sp.g (ck_iv (by omega) (by omega)) ?_
    exact Sp.so trivial
theorem s_fX6_addUnlike_2 (fu : Nat) (hfu : 1000000000000000000 ≤ fu) : ∀ (n : Nat) (x1 : Int32) (x2 : Int32) (x3 : Int32) (S : St), Inv S → (0 ≤ (x3).toInt) → (10 - (x3).toInt).toNat < n → Sf (fX6_addUnlike_2 fu n x1 x2 x3 S) (fun U r => Inv U ∧ Fr [(61, 0)] S U ∧ (True)) := by
  intro n
  induction n with
  | zero => intro x1 x2 x3 S I_S g0 hm; exact absurd hm (Nat.not_lt_zero _)
  | succ n ih =>
    intro x1 x2 x3 S I_S g0 hm
    rw [fX6_addUnlike_2_s]
    have F_S : Fr [(61, 0)] S S := Fr.refl _ _
    have h1 := i32 x1
    have h2 := i32 x3
    refine Sf.i (fun c_h3 => ?_) (fun c_h3 => ?_)
    · have h4 := le_iv rfl rfl c_h3
      unfold fX6_addUnlike_31
      refine Sf.i (fun c_h5 => ?_) (fun c_h5 => ?_)
      · have h6 := lt_iv rfl li_0 c_h5
        exact Sf.so ⟨I_S, F_S, trivial⟩
      · have h7 := nlt_iv rfl li_0 c_h5
        refine Sf.i (fun c_h8 => ?_) (fun c_h8 => ?_)
        · have h9 := lt_iv rfl li_10 c_h8
          refine Sf.g (ck_iv (by omega) (by omega)) ?_
          have h10 := i32 x2
          refine Sf.w I_S F_S rfl (i32 _).1 (i32 _).2 (fun S_49 I_S_49 F_S_49 v_S_49 f_S_49 l_S_49 => ?_)
          have h11 : (S_49.1 61 ((x1).toNatClampNeg)).toInt = (x2).toInt := eq_iv rfl rfl v_S_49
          exact Sf.so ⟨I_S_49, F_S_49, trivial⟩
        · have h12 := nlt_iv rfl li_10 c_h8
          exact Sf.so ⟨I_S, F_S, trivial⟩
    · have h13 := nle_iv rfl rfl c_h3
      refine Sf.i (fun c_h14 => ?_) (fun c_h14 => ?_)
      · have h15 := le_iv li_10 rfl c_h14
        unfold fX6_addUnlike_31
        refine Sf.i (fun c_h16 => ?_) (fun c_h16 => ?_)
        · have h17 := lt_iv rfl li_0 c_h16
          exact Sf.so ⟨I_S, F_S, trivial⟩
        · have h18 := nlt_iv rfl li_0 c_h16
          refine Sf.i (fun c_h19 => ?_) (fun c_h19 => ?_)
          · have h20 := lt_iv rfl li_10 c_h19
            refine Sf.g (ck_iv (by omega) (by omega)) ?_
            have h21 := i32 x2
            refine Sf.w I_S F_S rfl (i32 _).1 (i32 _).2 (fun S_49 I_S_49 F_S_49 v_S_49 f_S_49 l_S_49 => ?_)
            have h22 : (S_49.1 61 ((x1).toNatClampNeg)).toInt = (x2).toInt := eq_iv rfl rfl v_S_49
            exact Sf.so ⟨I_S_49, F_S_49, trivial⟩
          · have h23 := nlt_iv rfl li_10 c_h19
            exact Sf.so ⟨I_S, F_S, trivial⟩
      · have h24 := nle_iv li_10 rfl c_h14
        refine Sf.g (ck_iv (by omega) (by omega)) ?_
        have h25 := i32 x2
        refine Sf.i (fun c_h26 => ?_) (fun c_h26 => ?_)
        · have h27 := eq_iv rfl rfl c_h26
          exact Sf.so ⟨I_S, F_S, trivial⟩
        · have h28 := neq_iv rfl rfl c_h26
          try have h29 : ((x3 + (1 : Int32))).toInt = (x3).toInt + (1) := add_iv rfl li_1 (by omega) (by omega)
          refine Sf.mono (ih x1 x2 (x3 + (1 : Int32)) S I_S (by omega) (by omega)) (fun U r p_h30 => ?_)
          obtain ⟨I_U, G_U, p_h30⟩ := p_h30
          exact ⟨I_U, Fr.tr F_S G_U rfl, trivial⟩
theorem s_fX6_addUnlike (fu : Nat) (hfu : 1000000000000000000 ≤ fu) (x1 : Int32) (x2 : Int32) (S : St) (I_S : Inv S) : Sf (fX6_addUnlike fu x1 x2 S) (fun U r => Inv U ∧ Fr [(61, 0)] S U ∧ (True)) := by
  unfold fX6_addUnlike
  have F_S : Fr [(61, 0)] S S := Fr.refl _ _
  have h1 := i32 x1
  have h2 := i32 x2
  have h3 : ((0 : Int32)).toInt = 0 := li_0
  refine Sf.mono (s_fX6_addUnlike_2 fu hfu fu x1 x2 (0 : Int32) S I_S (by omega) (by omega)) (fun U r p_h4 => ?_)
  obtain ⟨I_U, G_U, p_h4⟩ := p_h4
  exact ⟨I_U, Fr.tr F_S G_U rfl, trivial⟩
theorem s_fX6_keepSet_11 (fu : Nat) (hfu : 1000000000000000000 ≤ fu) : ∀ (n : Nat) (x2 : Int32) (x3 : Int32) (x4 : Int32) (x5 : Int32) (x6 : Int64) (x8 : Int32) (S : St), Inv S → (0 ≤ (x8).toInt) → (90 - (x8).toInt).toNat < n → Sf (fX6_keepSet_11 fu n x2 x3 x4 x5 x6 x8 S) (fun U r => Inv U ∧ Fr [(42, 7), (42, 8), (43, 0), (44, 0), (46, 0), (47, 0), (48, 0), (61, 0)] S U ∧ (True)) := by
  intro n
  induction n with
  | zero => intro x2 x3 x4 x5 x6 x8 S I_S g0 hm; exact absurd hm (Nat.not_lt_zero _)
  | succ n ih =>
    intro x2 x3 x4 x5 x6 x8 S I_S g0 hm
    rw [fX6_keepSet_11_s]
    have F_S : Fr [(42, 7), (42, 8), (43, 0), (44, 0), (46, 0), (47, 0), (48, 0), (61, 0)] S S := Fr.refl _ _
    have h1 := b_30_5 I_S
    refine Sf.bp (s_fX5_size_30 fu hfu S I_S) (fun r_14 p_r_14 => ?_)
    have h2 := i32 r_14
    have h3 := i32 x8
    refine Sf.i (fun c_h4 => ?_) (fun c_h4 => ?_)
    · have h5 := le_iv rfl rfl c_h4
      have h6 := i32 x5
      refine Sf.i (fun c_h7 => ?_) (fun c_h7 => ?_)
      · have h8 := le_iv rfl li_0 c_h7
        exact Sf.so ⟨I_S, F_S, trivial⟩
      · have h9 := nle_iv rfl li_0 c_h7
        have h10 := i32 x3
        have h11 := i32 x4
        refine Sf.b (s_fX1_put fu hfu x3 x4 x5 x6 S I_S) (fun S_89 r_89_ p_r_89_ => ?_)
        obtain ⟨I_S_89, G_S_89, p_r_89_⟩ := p_r_89_
        have F_S_89 := Fr.tr F_S G_S_89 rfl
        have h12 := ti_eq (G_S_89 30 5 rfl)
        exact Sf.so ⟨I_S_89, F_S_89, trivial⟩
    · have h13 := nle_iv rfl rfl c_h4
      have h14 := i32 x2
      have h15 := i32 x3
      have h16 := i32 x4
      refine Sf.bp (s_fX5_isOf_30 fu hfu x8 x2 x3 x4 S I_S) (fun r_27 p_r_27 => ?_)
      have h17 := i32 r_27
      refine Sf.i (fun c_h18 => ?_) (fun c_h18 => ?_)
      · have h19 := eq_iv rfl li_0 c_h18
        unfold fX6_keepSet_63
        have h20 := i32 x5
        try have h21 : ((x8 + (1 : Int32))).toInt = (x8).toInt + (1) := add_iv rfl li_1 (by omega) (by omega)
        refine Sf.mono (ih x2 x3 x4 x5 x6 (x8 + (1 : Int32)) S I_S (by omega) (by omega)) (fun U r p_h22 => ?_)
        obtain ⟨I_U, G_U, p_h22⟩ := p_h22
        have h23 := ti_eq (G_U 30 5 rfl)
        exact ⟨I_U, Fr.tr F_S G_U rfl, trivial⟩
      · have h24 := neq_iv rfl li_0 c_h18
        refine Sf.bp (s_fX5_life_30 fu hfu x8 S I_S) (fun r_38 p_r_38 => ?_)
        have h25 := i32 r_38
        refine Sf.bp (s_fX6_unsigned fu hfu r_38 S I_S) (fun r_41 p_r_41 => ?_)
        refine Sf.bp (s_fX5_value_30 fu hfu x8 S I_S) (fun r_55 p_r_55 => ?_)
        have h26 := i32 x5
        have h27 := i32 r_55
        refine Sf.b (s_fX6_addUnlike fu hfu x5 r_55 S I_S) (fun S_58 r_58 p_r_58 => ?_)
        obtain ⟨I_S_58, G_S_58, p_r_58⟩ := p_r_58
        have F_S_58 := Fr.tr F_S G_S_58 rfl
        have h28 := ti_eq (G_S_58 30 5 rfl)
        unfold fX6_keepSet_63
        have h29 := i32 r_58
        try have h30 : ((x8 + (1 : Int32))).toInt = (x8).toInt + (1) := add_iv rfl li_1 (by omega) (by omega)
        refine Sf.mono (ih x2 x3 x4 r_58 (if (r_41 < x6) then r_41 else x6) (x8 + (1 : Int32)) S_58 I_S_58 (by omega) (by omega)) (fun U r p_h31 => ?_)
        obtain ⟨I_U, G_U, p_h31⟩ := p_h31
        have h32 := ti_eq (G_U 30 5 rfl)
        exact ⟨I_U, Fr.tr F_S_58 G_U rfl, trivial⟩
theorem s_fX6_keepSet (fu : Nat) (hfu : 1000000000000000000 ≤ fu) (x2 : Int32) (x3 : Int32) (x4 : Int32) (S : St) (I_S : Inv S) : Sf (fX6_keepSet fu x2 x3 x4 S) (fun U r => Inv U ∧ Fr [(42, 7), (42, 8), (43, 0), (44, 0), (46, 0), (47, 0), (48, 0), (61, 0)] S U ∧ (True)) := by
  unfold fX6_keepSet
  have F_S : Fr [(42, 7), (42, 8), (43, 0), (44, 0), (46, 0), (47, 0), (48, 0), (61, 0)] S S := Fr.refl _ _
  have h1 := i32 x2
  have h2 := i32 x3
  have h3 := i32 x4
  have h4 : ((0 : Int32)).toInt = 0 := li_0
  refine Sf.mono (s_fX6_keepSet_11 fu hfu fu x2 x3 x4 (0 : Int32) (4294967296 : Int64) (0 : Int32) S I_S (by omega) (by omega)) (fun U r p_h5 => ?_)
  obtain ⟨I_U, G_U, p_h5⟩ := p_h5
  have h6 := ti_eq (G_U 30 5 rfl)
  exact ⟨I_U, Fr.tr F_S G_U rfl, trivial⟩
theorem s_fX5_first_2_30 (fu : Nat) (hfu : 1000000000000000000 ≤ fu) : ∀ (n : Nat) (x1 : Int32) (x2 : Int32) (x3 : Int32) (S : St), Inv S → (0 ≤ (x3).toInt) → (90 - (x3).toInt).toNat < n → Sp (fX5_first_2 fu 30 n x1 x2 x3 S) S (fun r => True) := by
  intro n
  induction n with
  | zero => intro x1 x2 x3 S I_S g0 hm; exact absurd hm (Nat.not_lt_zero _)
  | succ n ih =>
    intro x1 x2 x3 S I_S g0 hm
    rw [fX5_first_2_s]
    try simp only [Nat.reduceAdd]
    have h1 := b_30_5 I_S
    have h2 := i32 x3
    refine Sp.i (fun c_h3 => ?_) (fun c_h3 => ?_)
    · have h4 := le_iv rfl rfl c_h3
      exact Sp.so trivial
    · have h5 := nle_iv rfl rfl c_h3
      refine Sp.g (ck_iv (by omega) (by omega)) ?_
      have h6 := i32 x1
      refine Sp.i (fun c_h7 => ?_) (fun c_h7 => ?_)
      · have h8 := eq_iv rfl rfl c_h7
        refine Sp.g (ck_iv (by omega) (by omega)) ?_
        have h9 := i32 x2
        refine Sp.i (fun c_h10 => ?_) (fun c_h10 => ?_)
        · have h11 := eq_iv rfl rfl c_h10
          exact Sp.so trivial
        · have h12 := neq_iv rfl rfl c_h10
          unfold fX5_first_32
          try simp only [Nat.reduceAdd]
          try have h13 : ((x3 + (1 : Int32))).toInt = (x3).toInt + (1) := add_iv rfl li_1 (by omega) (by omega)
          refine Sp.mono (ih x1 x2 (x3 + (1 : Int32)) S I_S (by omega) (by omega)) (fun r p_h14 => ?_)
          exact trivial
      · have h15 := neq_iv rfl rfl c_h7
        unfold fX5_first_32
        try simp only [Nat.reduceAdd]
        have h16 := i32 x2
        try have h17 : ((x3 + (1 : Int32))).toInt = (x3).toInt + (1) := add_iv rfl li_1 (by omega) (by omega)
        refine Sp.mono (ih x1 x2 (x3 + (1 : Int32)) S I_S (by omega) (by omega)) (fun r p_h18 => ?_)
        exact trivial
theorem s_fX5_first_30 (fu : Nat) (hfu : 1000000000000000000 ≤ fu) (x1 : Int32) (x2 : Int32) (S : St) (I_S : Inv S) : Sp (fX5_first fu 30 x1 x2 S) S (fun r => True) := by
  unfold fX5_first
  try simp only [Nat.reduceAdd]
  have h1 := i32 x1
  have h2 := i32 x2
  have h3 : ((0 : Int32)).toInt = 0 := li_0
  refine Sp.mono (s_fX5_first_2_30 fu hfu fu x1 x2 (0 : Int32) S I_S (by omega) (by omega)) (fun r p_h4 => ?_)
  exact trivial
theorem s_fX4_flags (fu : Nat) (hfu : 1000000000000000000 ≤ fu) (S : St) (I_S : Inv S) : Sp (fX4_flags fu S) S (fun r => True) := by
  unfold fX4_flags
  exact Sp.so trivial
theorem s_fX5_owner_30 (fu : Nat) (hfu : 1000000000000000000 ≤ fu) (x1 : Int32) (S : St) (I_S : Inv S) : Sp (fX5_owner fu 30 x1 S) S (fun r => True) := by
  unfold fX5_owner
  try simp only [Nat.reduceAdd]
  have h1 := i32 x1
  have h2 := b_30_5 I_S
  refine Sp.b (s_fX5_has_30 fu hfu x1 S I_S) (fun r_2 p_r_2 => ?_)
  have h3 := i32 r_2
  refine Sp.i (fun c_h4 => ?_) (fun c_h4 => ?_)
  · have h5 := eq_iv rfl li_0 c_h4
    exact Sp.so trivial
  · have h6 := neq_iv rfl li_0 c_h4
    refine Sp.g (ck_iv (by omega) (by omega)) ?_
    exact Sp.so trivial
theorem s_fX2_topPlace (fu : Nat) (hfu : 1000000000000000000 ≤ fu) (S : St) (I_S : Inv S) : Sp (fX2_topPlace fu S) S (fun r => True) := by
  unfold fX2_topPlace
  have h1 := b_50_9 I_S
  refine Sp.g (ck_iv (by omega) (by omega)) ?_
  exact Sp.so trivial
theorem s_fX6_keepReferral_115 (fu : Nat) (hfu : 1000000000000000000 ≤ fu) : ∀ (n : Nat) (x6 : Int32) (x7 : Int32) (S : St), Inv S → (0 ≤ (x7).toInt) → (10 - (x7).toInt).toNat < n → Sf (fX6_keepReferral_115 fu n x6 x7 S) (fun U r => Inv U ∧ Fr [(42, 7), (42, 8), (43, 0), (44, 0), (46, 0), (47, 0), (48, 0), (61, 0)] S U ∧ (True)) := by
  intro n
  induction n with
  | zero => intro x6 x7 S I_S g0 hm; exact absurd hm (Nat.not_lt_zero _)
  | succ n ih =>
    intro x6 x7 S I_S g0 hm
    rw [fX6_keepReferral_115_s]
    have F_S : Fr [(42, 7), (42, 8), (43, 0), (44, 0), (46, 0), (47, 0), (48, 0), (61, 0)] S S := Fr.refl _ _
    have h1 := i32 x6
    have h2 := i32 x7
    refine Sf.i (fun c_h3 => ?_) (fun c_h3 => ?_)
    · have h4 := le_iv rfl rfl c_h3
      exact Sf.so ⟨I_S, F_S, trivial⟩
    · have h5 := nle_iv rfl rfl c_h3
      refine Sf.i (fun c_h6 => ?_) (fun c_h6 => ?_)
      · have h7 := le_iv li_10 rfl c_h6
        exact Sf.so ⟨I_S, F_S, trivial⟩
      · have h8 := nle_iv li_10 rfl c_h6
        refine Sf.g (ck_iv (by omega) (by omega)) ?_
        have h9 : ((2 : Int32)).toInt = 2 := li_2
        have h10 : ((1 : Int32)).toInt = 1 := li_1
        refine Sf.b (s_fX6_keepSet fu hfu (2 : Int32) (S.1 62 ((x7).toNatClampNeg)) (1 : Int32) S I_S) (fun S_140 r_140 p_r_140 => ?_)
        obtain ⟨I_S_140, G_S_140, p_r_140⟩ := p_r_140
        have F_S_140 := Fr.tr F_S G_S_140 rfl
        have h11 : (S_140.1 62 ((x7).toNatClampNeg)).toInt = (S.1 62 ((x7).toNatClampNeg)).toInt := ti_eq (G_S_140 62 ((x7).toNatClampNeg) rfl)
        try have h12 : ((x7 + (1 : Int32))).toInt = (x7).toInt + (1) := add_iv rfl li_1 (by omega) (by omega)
        refine Sf.mono (ih x6 (x7 + (1 : Int32)) S_140 I_S_140 (by omega) (by omega)) (fun U r p_h13 => ?_)
        obtain ⟨I_U, G_U, p_h13⟩ := p_h13
        exact ⟨I_U, Fr.tr F_S_140 G_U rfl, trivial⟩
theorem s_fX6_keepReferral_78 (fu : Nat) (hfu : 1000000000000000000 ≤ fu) : ∀ (n : Nat) (x6 : Int32) (x7 : Int32) (S : St), Inv S → (0 ≤ (x7).toInt) → (10 - (x7).toInt).toNat < n → Sf (fX6_keepReferral_78 fu n x6 x7 S) (fun U r => Inv U ∧ Fr [(42, 7), (42, 8), (43, 0), (44, 0), (46, 0), (47, 0), (48, 0), (61, 0), (62, 0)] S U ∧ (True)) := by
  intro n
  induction n with
  | zero => intro x6 x7 S I_S g0 hm; exact absurd hm (Nat.not_lt_zero _)
  | succ n ih =>
    intro x6 x7 S I_S g0 hm
    rw [fX6_keepReferral_78_s]
    have F_S : Fr [(42, 7), (42, 8), (43, 0), (44, 0), (46, 0), (47, 0), (48, 0), (61, 0), (62, 0)] S S := Fr.refl _ _
    have h1 := i32 x6
    have h2 := i32 x7
    refine Sf.i (fun c_h3 => ?_) (fun c_h3 => ?_)
    · have h4 := le_iv rfl rfl c_h3
      unfold fX6_keepReferral_112
      have h5 : ((0 : Int32)).toInt = 0 := li_0
      refine Sf.mono (s_fX6_keepReferral_115 fu hfu fu x6 (0 : Int32) S I_S (by omega) (by omega)) (fun U r p_h6 => ?_)
      obtain ⟨I_U, G_U, p_h6⟩ := p_h6
      exact ⟨I_U, Fr.tr F_S G_U rfl, trivial⟩
    · have h7 := nle_iv rfl rfl c_h3
      refine Sf.i (fun c_h8 => ?_) (fun c_h8 => ?_)
      · have h9 := le_iv li_10 rfl c_h8
        unfold fX6_keepReferral_112
        have h10 : ((0 : Int32)).toInt = 0 := li_0
        refine Sf.mono (s_fX6_keepReferral_115 fu hfu fu x6 (0 : Int32) S I_S (by omega) (by omega)) (fun U r p_h11 => ?_)
        obtain ⟨I_U, G_U, p_h11⟩ := p_h11
        exact ⟨I_U, Fr.tr F_S G_U rfl, trivial⟩
      · have h12 := nle_iv li_10 rfl c_h8
        refine Sf.g (ck_iv (by omega) (by omega)) ?_
        refine Sf.g (ck_iv (by omega) (by omega)) ?_
        refine Sf.w I_S F_S rfl (i32 _).1 (i32 _).2 (fun S_105 I_S_105 F_S_105 v_S_105 f_S_105 l_S_105 => ?_)
        have h13 : (S_105.1 62 ((x7).toNatClampNeg)).toInt = ((S.1 61 ((x7).toNatClampNeg))).toInt := eq_iv rfl rfl v_S_105
        have h14 : (S_105.1 61 ((x7).toNatClampNeg)).toInt = (S.1 61 ((x7).toNatClampNeg)).toInt := ti_eq (f_S_105 61 ((x7).toNatClampNeg) (fun e => absurd e (by decide)))
        try have h15 : ((x7 + (1 : Int32))).toInt = (x7).toInt + (1) := add_iv rfl li_1 (by omega) (by omega)
        refine Sf.mono (ih x6 (x7 + (1 : Int32)) S_105 I_S_105 (by omega) (by omega)) (fun U r p_h16 => ?_)
        obtain ⟨I_U, G_U, p_h16⟩ := p_h16
        exact ⟨I_U, Fr.tr F_S_105 G_U rfl, trivial⟩
theorem s_fX6_keepReferral (fu : Nat) (hfu : 1000000000000000000 ≤ fu) (x2 : Int32) (S : St) (I_S : Inv S) : Sf (fX6_keepReferral fu x2 S) (fun U r => Inv U ∧ Fr [(42, 7), (42, 8), (43, 0), (44, 0), (46, 0), (47, 0), (48, 0), (61, 0), (62, 0)] S U ∧ (True)) := by
  unfold fX6_keepReferral
  have F_S : Fr [(42, 7), (42, 8), (43, 0), (44, 0), (46, 0), (47, 0), (48, 0), (61, 0), (62, 0)] S S := Fr.refl _ _
  have h1 : ((1 : Int32)).toInt = 1 := li_1
  have h2 : ((2 : Int32)).toInt = 2 := li_2
  refine Sf.bp (s_fX5_first_30 fu hfu (1 : Int32) (2 : Int32) S I_S) (fun r_3 p_r_3 => ?_)
  have h3 := i32 r_3
  refine Sf.i (fun c_h4 => ?_) (fun c_h4 => ?_)
  · have h5 := eq_iv rfl li_m1 c_h4
    exact Sf.so ⟨I_S, F_S, trivial⟩
  · have h6 := neq_iv rfl li_m1 c_h4
    refine Sf.bp (s_fX5_owner_30 fu hfu r_3 S I_S) (fun r_15 p_r_15 => ?_)
    refine Sf.bp (s_fX2_topPlace fu hfu S I_S) (fun r_24 p_r_24 => ?_)
    have h7 := i32 r_15
    have h8 := i32 r_24
    refine Sf.i (fun c_h9 => ?_) (fun c_h9 => ?_)
    · have h10 := eq_iv rfl rfl c_h9
      exact Sf.so ⟨I_S, F_S, trivial⟩
    · have h11 := neq_iv rfl rfl c_h9
      refine Sf.bp (s_fX3_isIn fu hfu r_15 r_24 S I_S) (fun r_44 p_r_44 => ?_)
      have h12 := i32 r_44
      refine Sf.i (fun c_h13 => ?_) (fun c_h13 => ?_)
      · have h14 := eq_iv rfl li_0 c_h13
        exact Sf.so ⟨I_S, F_S, trivial⟩
      · have h15 := neq_iv rfl li_0 c_h13
        have h16 := i32 x2
        refine Sf.bp (s_fX3_isIn fu hfu x2 r_15 S I_S) (fun r_57 p_r_57 => ?_)
        have h17 := i32 r_57
        refine Sf.i (fun c_h18 => ?_) (fun c_h18 => ?_)
        · have h19 := eq_iv rfl li_0 c_h18
          exact Sf.so ⟨I_S, F_S, trivial⟩
        · have h20 := neq_iv rfl li_0 c_h18
          refine Sf.b (s_fX6_keepSet fu hfu (1 : Int32) r_15 (2 : Int32) S I_S) (fun S_70 r_70 p_r_70 => ?_)
          obtain ⟨I_S_70, G_S_70, p_r_70⟩ := p_r_70
          have F_S_70 := Fr.tr F_S G_S_70 rfl
          have h21 := i32 r_70
          have h22 : ((0 : Int32)).toInt = 0 := li_0
          refine Sf.mono (s_fX6_keepReferral_78 fu hfu fu r_70 (0 : Int32) S_70 I_S_70 (by omega) (by omega)) (fun U r p_h23 => ?_)
          obtain ⟨I_U, G_U, p_h23⟩ := p_h23
          exact ⟨I_U, Fr.tr F_S_70 G_U rfl, trivial⟩
theorem s_fX6_keepNothing (fu : Nat) (hfu : 1000000000000000000 ≤ fu) (x2 : Int32) (x3 : Int32) (x4 : Int32) (S : St) (I_S : Inv S) : Sf (fX6_keepNothing fu x2 x3 x4 S) (fun U r => Inv U ∧ Fr [(42, 7), (42, 8), (43, 0), (44, 0), (46, 0), (47, 0), (48, 0)] S U ∧ (True)) := by
  unfold fX6_keepNothing
  have F_S : Fr [(42, 7), (42, 8), (43, 0), (44, 0), (46, 0), (47, 0), (48, 0)] S S := Fr.refl _ _
  have h1 := i32 x2
  refine Sf.bp (s_fX5_life_30 fu hfu x2 S I_S) (fun r_2 p_r_2 => ?_)
  have h2 := i32 r_2
  refine Sf.bp (s_fX6_unsigned fu hfu r_2 S I_S) (fun r_5 p_r_5 => ?_)
  refine Sf.bp (s_fX5_value_30 fu hfu x2 S I_S) (fun r_10 p_r_10 => ?_)
  have h3 := i32 r_10
  refine Sf.bp (s_fX6_unsigned fu hfu r_10 S I_S) (fun r_13 p_r_13 => ?_)
  have h4 := i32 x3
  have h5 := i32 x4
  have h6 : ((0 : Int32)).toInt = 0 := li_0
  refine Sf.b (s_fX1_put fu hfu x3 x4 (0 : Int32) (if (r_13 < r_5) then r_13 else r_5) S I_S) (fun S_35 r_35_ p_r_35_ => ?_)
  obtain ⟨I_S_35, G_S_35, p_r_35_⟩ := p_r_35_
  have F_S_35 := Fr.tr F_S G_S_35 rfl
  exact Sf.so ⟨I_S_35, F_S_35, trivial⟩
theorem s_fX6_keepFirstAlias_2 (fu : Nat) (hfu : 1000000000000000000 ≤ fu) : ∀ (n : Nat) (x2 : Int32) (x3 : Int32) (S : St), Inv S → (0 ≤ (x3).toInt) → (90 - (x3).toInt).toNat < n → Sf (fX6_keepFirstAlias_2 fu n x2 x3 S) (fun U r => Inv U ∧ Fr [(42, 7), (42, 8), (43, 0), (44, 0), (46, 0), (47, 0), (48, 0), (61, 0)] S U ∧ ((0 ≤ r.toInt) ∧ (r.toInt ≤ 1))) := by
  intro n
  induction n with
  | zero => intro x2 x3 S I_S g0 hm; exact absurd hm (Nat.not_lt_zero _)
  | succ n ih =>
    intro x2 x3 S I_S g0 hm
    rw [fX6_keepFirstAlias_2_s]
    have F_S : Fr [(42, 7), (42, 8), (43, 0), (44, 0), (46, 0), (47, 0), (48, 0), (61, 0)] S S := Fr.refl _ _
    have h1 := b_30_5 I_S
    refine Sf.bp (s_fX5_size_30 fu hfu S I_S) (fun r_4 p_r_4 => ?_)
    have h2 := i32 r_4
    have h3 := i32 x3
    refine Sf.i (fun c_h4 => ?_) (fun c_h4 => ?_)
    · have h5 := le_iv rfl rfl c_h4
      have h6 : ((0 : Int32)).toInt = 0 := li_0
      exact Sf.so ⟨I_S, F_S, by omega⟩
    · have h7 := nle_iv rfl rfl c_h4
      have h8 : ((0 : Int32)).toInt = 0 := li_0
      have h9 := i32 x2
      have h10 : ((5 : Int32)).toInt = 5 := li_5
      refine Sf.bp (s_fX5_isOf_30 fu hfu x3 (0 : Int32) x2 (5 : Int32) S I_S) (fun r_15 p_r_15 => ?_)
      have h11 := i32 r_15
      refine Sf.i (fun c_h12 => ?_) (fun c_h12 => ?_)
      · have h13 := eq_iv rfl li_0 c_h12
        try have h14 : ((x3 + (1 : Int32))).toInt = (x3).toInt + (1) := add_iv rfl li_1 (by omega) (by omega)
        refine Sf.mono (ih x2 (x3 + (1 : Int32)) S I_S (by omega) (by omega)) (fun U r p_h15 => ?_)
        obtain ⟨I_U, G_U, p_h15⟩ := p_h15
        have h16 := ti_eq (G_U 30 5 rfl)
        exact ⟨I_U, Fr.tr F_S G_U rfl, by omega⟩
      · have h17 := neq_iv rfl li_0 c_h12
        refine Sf.bp (s_fX5_value_30 fu hfu x3 S I_S) (fun r_28 p_r_28 => ?_)
        refine Sf.g (by decide) ?_
        have h18 := i32 r_28
        refine Sf.w I_S F_S rfl (i32 _).1 (i32 _).2 (fun S_31 I_S_31 F_S_31 v_S_31 f_S_31 l_S_31 => ?_)
        have h19 := ti_eq (f_S_31 30 5 (fun e => absurd e (by decide)))
        have h20 : (S_31.1 61 (((0 : Int32)).toNatClampNeg)).toInt = (r_28).toInt := eq_iv rfl rfl v_S_31
        refine Sf.bp (s_fX5_life_30 fu hfu x3 S_31 I_S_31) (fun r_45 p_r_45 => ?_)
        have h21 := i32 r_45
        refine Sf.bp (s_fX6_unsigned fu hfu r_45 S_31 I_S_31) (fun r_48 p_r_48 => ?_)
        have h22 : ((1 : Int32)).toInt = 1 := li_1
        refine Sf.b (s_fX1_put fu hfu x2 (5 : Int32) (1 : Int32) r_48 S_31 I_S_31) (fun S_51 r_51_ p_r_51_ => ?_)
        obtain ⟨I_S_51, G_S_51, p_r_51_⟩ := p_r_51_
        have F_S_51 := Fr.tr F_S_31 G_S_51 rfl
        have h23 := ti_eq (G_S_51 30 5 rfl)
        have h24 : (S_51.1 61 (((0 : Int32)).toNatClampNeg)).toInt = (S_31.1 61 (((0 : Int32)).toNatClampNeg)).toInt := ti_eq (G_S_51 61 (((0 : Int32)).toNatClampNeg) rfl)
        have h25 : ((1 : Int32)).toInt = 1 := li_1
        exact Sf.so ⟨I_S_51, F_S_51, by omega⟩
