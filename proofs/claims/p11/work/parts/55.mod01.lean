theorem s_fX12_isText (fu : Nat) (hfu : 1000000000000000000 ≤ fu) (x1 : Int32) (S : St) (I_S : Inv S) (g0 : (x1).toInt ≤ 1000) (g1 : 0 ≤ (x1).toInt) : Sf (fX12_isText fu x1 S) (fun U r => Inv U ∧ Fr [(63, 9), (68, 0), (69, 0)] S U ∧ ((0 ≤ r.toInt) ∧ (r.toInt ≤ 1)) ∧ PX U) := by
  unfold fX12_isText
  have F_S : Fr [(63, 9), (68, 0), (69, 0)] S S := Fr.refl _ _
  refine Sf.w I_S F_S rfl (show ((0) : Int) ≤ ((0 : Int32)).toInt by rw [li_0]; omega) (show ((0 : Int32)).toInt ≤ (6 : Int) by rw [li_0]; omega) (fun S_2 I_S_2 F_S_2 v_S_2 f_S_2 l_S_2 => ?_)
  have h1 := eq_iv rfl li_0 v_S_2
  have PX_S_2 : PX S_2 := RG_zero (by omega)
  have h2 := i32 x1
  refine Sf.i (fun c_h3 => ?_) (fun c_h3 => ?_)
  · have h4 := eq_iv rfl li_1 c_h3
    refine Sf.g (by decide) ?_
    refine Sf.i (fun c_h5 => ?_) (fun c_h5 => ?_)
    · have h6 := eq_iv rfl li_46 c_h5
      have h7 : ((1 : Int32)).toInt = 1 := li_1
      exact Sf.so ⟨I_S_2, F_S_2, by omega, PX_S_2⟩
    · have h8 := neq_iv rfl li_46 c_h5
      unfold fX12_isText_23
      have h9 : ((0 : Int32)).toInt = 0 := li_0
      refine Sf.mono (s_fX12_isText_27 fu hfu fu x1 (0 : Int32) (0 : Int32) S_2 I_S_2 PX_S_2 (by omega) (by omega) (by omega) (by omega) (by omega) (by omega) (by omega)) (fun U r p_h10 => ?_)
      obtain ⟨I_U, G_U, p_h10, PX_U⟩ := p_h10
      exact ⟨I_U, Fr.tr F_S_2 G_U rfl, by omega, PX_U⟩
  · have h11 := neq_iv rfl li_1 c_h3
    unfold fX12_isText_23
    have h12 : ((0 : Int32)).toInt = 0 := li_0
    refine Sf.mono (s_fX12_isText_27 fu hfu fu x1 (0 : Int32) (0 : Int32) S_2 I_S_2 PX_S_2 (by omega) (by omega) (by omega) (by omega) (by omega) (by omega) (by omega)) (fun U r p_h13 => ?_)
    obtain ⟨I_U, G_U, p_h13, PX_U⟩ := p_h13
    exact ⟨I_U, Fr.tr F_S_2 G_U rfl, by omega, PX_U⟩
theorem s_fX12_throwsIf (fu : Nat) (hfu : 1000000000000000000 ≤ fu) (x1 : Int32) (x2 : Int32) (S : St) (I_S : Inv S) (g0 : 0 ≤ (x1).toInt) (g1 : (x1).toInt ≤ 1) : Sf (fX12_throwsIf fu x1 x2 S) (fun U r => Inv U ∧ Fr [(63, 1)] S U ∧ ((r.toInt = (x1).toInt))) := by
  unfold fX12_throwsIf
  have F_S : Fr [(63, 1)] S S := Fr.refl _ _
  have h1 := i32 x1
  refine Sf.i (fun c_h2 => ?_) (fun c_h2 => ?_)
  · have h3 := eq_iv rfl li_0 c_h2
    refine Sf.g (isB_iv (by omega) (by omega)) ?_
    exact Sf.so ⟨I_S, F_S, by omega⟩
  · have h4 := neq_iv rfl li_0 c_h2
    have h5 := i32 x2
    refine Sf.w I_S F_S rfl (i32 _).1 (i32 _).2 (fun S_6 I_S_6 F_S_6 v_S_6 f_S_6 l_S_6 => ?_)
    refine Sf.g (isB_iv (by omega) (by omega)) ?_
    exact Sf.so ⟨I_S_6, F_S_6, by omega⟩
theorem s_fX12_child_45_70_1040 (fu : Nat) (hfu : 1000000000000000000 ≤ fu) (k_3 : Int32 → Int32 → Int32 → Int32 → St → Option (St × Int32)) (N : Nat) (hk_k_3 : ∀ (x1 : Int32) (x3 : Int32) (x4 : Int32) (x5 : Int32) (S : St), Inv S → (0 ≤ (x3).toInt) → (0 ≤ (x4).toInt) → ((x4).toInt ≤ 10) → ((x3).toInt + (x4).toInt ≤ 1040) → (1 ≤ (x5).toInt) → (300 - (x5).toInt).toNat < N → Sp (k_3 x1 x3 x4 x5 S) S (fun r => (-1 ≤ r.toInt) ∧ (r.toInt < (S.1 63 5).toInt))) : ∀ (n : Nat) (x1 : Int32) (x3 : Int32) (x4 : Int32) (x5 : Int32) (x6 : Int32) (x7 : Int32) (S : St), Inv S → (0 ≤ (x3).toInt) → (0 ≤ (x4).toInt) → ((x4).toInt ≤ 10) → ((x3).toInt + (x4).toInt ≤ 1040) → (1 ≤ (x5).toInt) → ((x5).toInt < (S.1 63 5).toInt) → (0 ≤ (x7).toInt) → ((300 - (x5).toInt).toNat ≤ N) → (10 - (x7).toInt).toNat < n → Sp (fX12_child_45 fu 70 1040 k_3 n x1 x3 x4 x5 x6 x7 S) S (fun r => (-1 ≤ r.toInt) ∧ (r.toInt < (S.1 63 5).toInt)) := by
  intro n
  induction n with
  | zero => intro x1 x3 x4 x5 x6 x7 S I_S g0 g1 g2 g3 g4 g5 g6 g7 hm; exact absurd hm (Nat.not_lt_zero _)
  | succ n ih =>
    intro x1 x3 x4 x5 x6 x7 S I_S g0 g1 g2 g3 g4 g5 g6 g7 hm
    rw [fX12_child_45_s]
    try simp only [Nat.reduceAdd]
    have h1 := b_63_5 I_S
    have h2 := i32 x6
    refine Sp.i (fun c_h3 => ?_) (fun c_h3 => ?_)
    · have h4 := eq_iv rfl li_0 c_h3
      unfold fX12_child_92
      try simp only [Nat.reduceAdd]
      refine Sp.i (fun c_h5 => ?_) (fun c_h5 => ?_)
      · have h6 := eq_iv rfl li_0 c_h5
        have h7 := i32 x1
        have h8 := i32 x3
        have h9 := i32 x4
        have h10 := i32 x5
        try have h11 : ((x5 + (1 : Int32))).toInt = (x5).toInt + (1) := add_iv rfl li_1 (by omega) (by omega)
        have h12 := b_63_5 I_S
        refine Sp.mono (hk_k_3 x1 x3 x4 (x5 + (1 : Int32)) S I_S (by omega) (by omega) (by omega) (by omega) (by omega) (by omega)) (fun r p_h13 => ?_)
        exact by omega
      · have h14 := neq_iv rfl li_0 c_h5
        have h15 := i32 x5
        have h16 := b_63_5 I_S
        exact Sp.so (by omega)
    · have h17 := neq_iv rfl li_0 c_h3
      have h18 := i32 x4
      have h19 := i32 x7
      refine Sp.i (fun c_h20 => ?_) (fun c_h20 => ?_)
      · have h21 := le_iv rfl rfl c_h20
        unfold fX12_child_92
        try simp only [Nat.reduceAdd]
        refine Sp.i (fun c_h22 => ?_) (fun c_h22 => ?_)
        · have h23 := eq_iv rfl li_0 c_h22
          have h24 := i32 x1
          have h25 := i32 x3
          have h26 := i32 x5
          try have h27 : ((x5 + (1 : Int32))).toInt = (x5).toInt + (1) := add_iv rfl li_1 (by omega) (by omega)
          have h28 := b_63_5 I_S
          refine Sp.mono (hk_k_3 x1 x3 x4 (x5 + (1 : Int32)) S I_S (by omega) (by omega) (by omega) (by omega) (by omega) (by omega)) (fun r p_h29 => ?_)
          exact by omega
        · have h30 := neq_iv rfl li_0 c_h22
          have h31 := i32 x5
          have h32 := b_63_5 I_S
          exact Sp.so (by omega)
      · have h33 := nle_iv rfl rfl c_h20
        have h34 := i32 x5
        try have h35 : (((10 : Int32) * x5)).toInt = (10) * (x5).toInt := mul_iv li_10 rfl (by omega) (by omega)
        try have h36 : ((((10 : Int32) * x5) + x7)).toInt = (((10 : Int32) * x5)).toInt + (x7).toInt := add_iv rfl rfl (by omega) (by omega)
        refine Sp.g (ck_iv (by omega) (by omega)) ?_
        have h37 := i32 x3
        try have h38 : ((x3 + x7)).toInt = (x3).toInt + (x7).toInt := add_iv rfl rfl (by omega) (by omega)
        refine Sp.g (ck_iv (by omega) (by omega)) ?_
        refine Sp.i (fun c_h39 => ?_) (fun c_h39 => ?_)
        · have h40 := eq_iv rfl rfl c_h39
          unfold fX12_child_84
          try simp only [Nat.reduceAdd]
          have h41 := i32 x1
          have h42 : ((1 : Int32)).toInt = 1 := li_1
          try have h43 : ((x7 + (1 : Int32))).toInt = (x7).toInt + (1) := add_iv rfl li_1 (by omega) (by omega)
          have h44 := b_63_5 I_S
          refine Sp.mono (ih x1 x3 x4 x5 (1 : Int32) (x7 + (1 : Int32)) S I_S (by omega) (by omega) (by omega) (by omega) (by omega) (by omega) (by omega) (by omega) (by omega)) (fun r p_h45 => ?_)
          exact by omega
        · have h46 := neq_iv rfl rfl c_h39
          unfold fX12_child_84
          try simp only [Nat.reduceAdd]
          have h47 := i32 x1
          have h48 : ((0 : Int32)).toInt = 0 := li_0
          try have h49 : ((x7 + (1 : Int32))).toInt = (x7).toInt + (1) := add_iv rfl li_1 (by omega) (by omega)
          have h50 := b_63_5 I_S
          refine Sp.mono (ih x1 x3 x4 x5 (0 : Int32) (x7 + (1 : Int32)) S I_S (by omega) (by omega) (by omega) (by omega) (by omega) (by omega) (by omega) (by omega) (by omega)) (fun r p_h51 => ?_)
          exact by omega
theorem s_fX12_child_3_70_1040 (fu : Nat) (hfu : 1000000000000000000 ≤ fu) : ∀ (n : Nat) (x1 : Int32) (x3 : Int32) (x4 : Int32) (x5 : Int32) (S : St), Inv S → (0 ≤ (x3).toInt) → (0 ≤ (x4).toInt) → ((x4).toInt ≤ 10) → ((x3).toInt + (x4).toInt ≤ 1040) → (1 ≤ (x5).toInt) → (300 - (x5).toInt).toNat < n → Sp (fX12_child_3 fu 70 1040 n x1 x3 x4 x5 S) S (fun r => (-1 ≤ r.toInt) ∧ (r.toInt < (S.1 63 5).toInt)) := by
  intro n
  induction n with
  | zero => intro x1 x3 x4 x5 S I_S g0 g1 g2 g3 g4 hm; exact absurd hm (Nat.not_lt_zero _)
  | succ n ih =>
    intro x1 x3 x4 x5 S I_S g0 g1 g2 g3 g4 hm
    rw [fX12_child_3_s]
    try simp only [Nat.reduceAdd]
    have h1 := b_63_5 I_S
    have h2 := i32 x5
    refine Sp.i (fun c_h3 => ?_) (fun c_h3 => ?_)
    · have h4 := le_iv rfl rfl c_h3
      have h5 := b_63_5 I_S
      have h6 : ((-1 : Int32)).toInt = -1 := li_m1
      exact Sp.so (by omega)
    · have h7 := nle_iv rfl rfl c_h3
      refine Sp.g (ck_iv (by omega) (by omega)) ?_
      try have h8 := cl_iv (x := x5) (by omega)
      have h9 := a_64 I_S ((x5).toNatClampNeg)
      have h10 := i32 x1
      refine Sp.i (fun c_h11 => ?_) (fun c_h11 => ?_)
      · have h12 := eq_iv rfl rfl c_h11
        refine Sp.g (ck_iv (by omega) (by omega)) ?_
        have h13 := a_66 I_S ((x5).toNatClampNeg)
        have h14 := i32 x4
        refine Sp.i (fun c_h15 => ?_) (fun c_h15 => ?_)
        · have h16 := eq_iv rfl rfl c_h15
          unfold fX12_child_40
          try simp only [Nat.reduceAdd]
          have h17 := i32 x3
          have h18 : ((1 : Int32)).toInt = 1 := li_1
          have h19 : ((0 : Int32)).toInt = 0 := li_0
          refine Sp.mono (s_fX12_child_45_70_1040 fu hfu _ _ ih fu x1 x3 x4 x5 (1 : Int32) (0 : Int32) S I_S (by omega) (by omega) (by omega) (by omega) (by omega) (by omega) (by omega) (by omega) (by omega)) (fun r p_h20 => ?_)
          exact by omega
        · have h21 := neq_iv rfl rfl c_h15
          unfold fX12_child_39
          try simp only [Nat.reduceAdd]
          unfold fX12_child_40
          try simp only [Nat.reduceAdd]
          have h22 := i32 x3
          have h23 : ((0 : Int32)).toInt = 0 := li_0
          refine Sp.mono (s_fX12_child_45_70_1040 fu hfu _ _ ih fu x1 x3 x4 x5 (0 : Int32) (0 : Int32) S I_S (by omega) (by omega) (by omega) (by omega) (by omega) (by omega) (by omega) (by omega) (by omega)) (fun r p_h24 => ?_)
          exact by omega
      · have h25 := neq_iv rfl rfl c_h11
        unfold fX12_child_39
        try simp only [Nat.reduceAdd]
        unfold fX12_child_40
        try simp only [Nat.reduceAdd]
        have h26 := i32 x3
        have h27 := i32 x4
        have h28 : ((0 : Int32)).toInt = 0 := li_0
        refine Sp.mono (s_fX12_child_45_70_1040 fu hfu _ _ ih fu x1 x3 x4 x5 (0 : Int32) (0 : Int32) S I_S (by omega) (by omega) (by omega) (by omega) (by omega) (by omega) (by omega) (by omega) (by omega)) (fun r p_h29 => ?_)
        exact by omega
theorem s_fX12_child_70_1040 (fu : Nat) (hfu : 1000000000000000000 ≤ fu) (x1 : Int32) (x3 : Int32) (x4 : Int32) (S : St) (I_S : Inv S) (g0 : 0 ≤ (x3).toInt) (g1 : 0 ≤ (x4).toInt) (g2 : (x4).toInt ≤ 10) (g3 : (x3).toInt + (x4).toInt ≤ 1040) : Sp (fX12_child fu 70 1040 x1 x3 x4 S) S (fun r => (-1 ≤ r.toInt) ∧ (r.toInt < (S.1 63 5).toInt)) := by
  unfold fX12_child
  try simp only [Nat.reduceAdd]
  have h1 := i32 x1
  have h2 := i32 x3
  have h3 := i32 x4
  have h4 : ((1 : Int32)).toInt = 1 := li_1
  have h5 := b_63_5 I_S
  refine Sp.mono (s_fX12_child_3_70_1040 fu hfu fu x1 x3 x4 (1 : Int32) S I_S (by omega) (by omega) (by omega) (by omega) (by omega) (by omega)) (fun r p_h6 => ?_)
  exact by omega
theorem s_fX12_missing_9_70_1040 (fu : Nat) (hfu : 1000000000000000000 ≤ fu) : ∀ (n : Nat) (x2 : Int32) (x3 : Int32) (S : St), Inv S → PX S → (-1 ≤ (x3).toInt) → ((x3).toInt < (S.1 63 8).toInt) → ((x3).toInt + 1).toNat < n → Sp (fX12_missing_9 fu 70 1040 n x2 x3 S) S (fun r => True) := by
  intro n
  induction n with
  | zero => intro x2 x3 S I_S PX_S g0 g1 hm; exact absurd hm (Nat.not_lt_zero _)
  | succ n ih =>
    intro x2 x3 S I_S PX_S g0 g1 hm
    rw [fX12_missing_9_s]
    try simp only [Nat.reduceAdd]
    have h1 := b_63_8 I_S
    have h2 := i32 x3
    refine Sp.i (fun c_h3 => ?_) (fun c_h3 => ?_)
    · have h4 := lt_iv rfl li_0 c_h3
      exact Sp.so trivial
    · have h5 := nlt_iv rfl li_0 c_h3
      refine Sp.g (ck_iv (by omega) (by omega)) ?_
      refine Sp.g (ck_iv (by omega) (by omega)) ?_
      have hp := PX_at PX_S (x := x3) (by omega) (by omega)
      have h6 := i32 x2
      have h7 := a_68 I_S ((x3).toNatClampNeg)
      have h8 := a_69 I_S ((x3).toNatClampNeg)
      have h9 := b_63_5 I_S
      refine Sp.b (s_fX12_child_70_1040 fu hfu x2 (S.1 68 ((x3).toNatClampNeg)) (S.1 69 ((x3).toNatClampNeg)) S I_S (by omega) (by omega) (by omega) (by omega)) (fun r_28 p_r_28 => ?_)
      have h10 := i32 r_28
      refine Sp.i (fun c_h11 => ?_) (fun c_h11 => ?_)
      · have h12 := le_iv li_0 rfl c_h11
        obtain ⟨d13, e_d13⟩ : ∃ d : Int32, d = (x3 + (-1 : Int32)) := ⟨_, rfl⟩
        have h14 : (d13).toInt = (x3).toInt + (-1) := by rw [e_d13]; exact add_iv rfl li_m1 (by omega) (by omega)
        rw [← e_d13]
        clear e_d13
        have h15 := b_63_8 I_S
        refine Sp.mono (ih r_28 d13 S I_S PX_S (by omega) (by omega) (by omega)) (fun r p_h16 => ?_)
        exact trivial
      · have h17 := nle_iv li_0 rfl c_h11
        exact Sp.so trivial
theorem s_fX12_missing_70_1040 (fu : Nat) (hfu : 1000000000000000000 ≤ fu) (S : St) (I_S : Inv S) (PX_S : PX S) : Sp (fX12_missing fu 70 1040 S) S (fun r => True) := by
  unfold fX12_missing
  try simp only [Nat.reduceAdd]
  have h1 : ((0 : Int32)).toInt = 0 := li_0
  have h2 := b_63_8 I_S
  try have h3 : (((S.1 63 8) - (1 : Int32))).toInt = ((S.1 63 8)).toInt - (1) := sub_iv rfl li_1 (by omega) (by omega)
  refine Sp.mono (s_fX12_missing_9_70_1040 fu hfu fu (0 : Int32) ((S.1 63 8) - (1 : Int32)) S I_S PX_S (by omega) (by omega) (by omega)) (fun r p_h4 => ?_)
  exact trivial
theorem s_fX12_makes_51_70_1040 (fu : Nat) (hfu : 1000000000000000000 ≤ fu) : ∀ (n : Nat) (x3 : Int32) (x4 : Int32) (x5 : Int32) (x6 : Int32) (S : St), Inv S → (0 ≤ (x3).toInt) → (0 ≤ (x4).toInt) → ((x4).toInt ≤ 10) → ((x3).toInt + (x4).toInt ≤ 1040) → (0 ≤ (x5).toInt) → ((x5).toInt < 300) → (0 ≤ (x6).toInt) → (10 - (x6).toInt).toNat < n → Sf (fX12_makes_51 fu 70 1040 n x3 x4 x5 x6 S) (fun U r => Inv U ∧ Fr [(65, 0)] S U ∧ ((r.toInt = (x5).toInt))) := by
  intro n
  induction n with
  | zero => intro x3 x4 x5 x6 S I_S g0 g1 g2 g3 g4 g5 g6 hm; exact absurd hm (Nat.not_lt_zero _)
  | succ n ih =>
    intro x3 x4 x5 x6 S I_S g0 g1 g2 g3 g4 g5 g6 hm
    rw [fX12_makes_51_s]
    try simp only [Nat.reduceAdd]
    have F_S : Fr [(65, 0)] S S := Fr.refl _ _
    have h1 := i32 x4
    have h2 := i32 x6
    refine Sf.i (fun c_h3 => ?_) (fun c_h3 => ?_)
    · have h4 := le_iv rfl rfl c_h3
      have h5 := i32 x5
      exact Sf.so ⟨I_S, F_S, by omega⟩
    · have h6 := nle_iv rfl rfl c_h3
      have h7 := i32 x3
      try have h8 : ((x3 + x6)).toInt = (x3).toInt + (x6).toInt := add_iv rfl rfl (by omega) (by omega)
      refine Sf.g (ck_iv (by omega) (by omega)) ?_
      have h9 := i32 x5
      try have h10 : (((10 : Int32) * x5)).toInt = (10) * (x5).toInt := mul_iv li_10 rfl (by omega) (by omega)
      try have h11 : ((((10 : Int32) * x5) + x6)).toInt = (((10 : Int32) * x5)).toInt + (x6).toInt := add_iv rfl rfl (by omega) (by omega)
      refine Sf.g (ck_iv (by omega) (by omega)) ?_
      have h12 := vpy (S.1 70 (((x3 + x6)).toNatClampNeg))
      refine Sf.w I_S F_S rfl (i32 _).1 (i32 _).2 (fun S_76 I_S_76 F_S_76 v_S_76 f_S_76 l_S_76 => ?_)
      have h13 : (S_76.1 65 (((((10 : Int32) * x5) + x6)).toNatClampNeg)).toInt = ((vp_nar .byte (S.1 70 (((x3 + x6)).toNatClampNeg)))).toInt := eq_iv rfl rfl v_S_76
      have h14 : (S_76.1 70 (((x3 + x6)).toNatClampNeg)).toInt = (S.1 70 (((x3 + x6)).toNatClampNeg)).toInt := ti_eq (f_S_76 70 (((x3 + x6)).toNatClampNeg) (fun e => absurd e (by decide)))
      try have h15 : ((x6 + (1 : Int32))).toInt = (x6).toInt + (1) := add_iv rfl li_1 (by omega) (by omega)
      refine Sf.mono (ih x3 x4 x5 (x6 + (1 : Int32)) S_76 I_S_76 (by omega) (by omega) (by omega) (by omega) (by omega) (by omega) (by omega) (by omega)) (fun U r p_h16 => ?_)
      obtain ⟨I_U, G_U, p_h16⟩ := p_h16
      exact ⟨I_U, Fr.tr F_S_76 G_U rfl, by omega⟩
