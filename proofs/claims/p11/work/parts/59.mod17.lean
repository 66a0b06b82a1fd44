theorem s_fX12_child_3_82_1000 (fu : Nat) (hfu : 1000000000000000000 ≤ fu) : ∀ (n : Nat) (x1 : Int32) (x3 : Int32) (x4 : Int32) (x5 : Int32) (S : St), Inv S → (0 ≤ (x3).toInt) → (0 ≤ (x4).toInt) → ((x4).toInt ≤ 10) → ((x3).toInt + (x4).toInt ≤ 1000) → (1 ≤ (x5).toInt) → (300 - (x5).toInt).toNat < n → Sp (fX12_child_3 fu 82 1000 n x1 x3 x4 x5 S) S (fun r => (-1 ≤ r.toInt) ∧ (r.toInt < (S.1 63 5).toInt)) := by
  intro n
  induction n with
  | zero => intro x1 x3 x4 x5 S I_S g0 g1 g2 g3 g4 hm; exact absurd hm (Nat.not_lt_zero _)
  | succ n ih =>
    intro x1 x3 x4 x5 S I_S g0 g1 g2 g3 g4 hm
    rw [fX12_child_3_s]
    try simp only [Nat.reduceAdd]
    have h1 := b_63_5 I_S
    have h2 := i32 x5
    refine Sp.i (fun c_h3 => ?_) (fun c_h3 => ?_)
    · have h4 := le_iv rfl rfl c_h3
      have h5 := b_63_5 I_S
      have h6 : ((-1 : Int32)).toInt = -1 := li_m1
      exact Sp.so (by omega)
    · have h7 := nle_iv rfl rfl c_h3
      refine Sp.g (ck_iv (by omega) (by omega)) ?_
      try have h8 := cl_iv (x := x5) (by omega)
      have h9 := a_64 I_S ((x5).toNatClampNeg)
      have h10 := i32 x1
      refine Sp.i (fun c_h11 => ?_) (fun c_h11 => ?_)
      · have h12 := eq_iv rfl rfl c_h11
        refine Sp.g (ck_iv (by omega) (by omega)) ?_
        have h13 := a_66 I_S ((x5).toNatClampNeg)
        have h14 := i32 x4
        refine Sp.i (fun c_h15 => ?_) (fun c_h15 => ?_)
        · have h16 := eq_iv rfl rfl c_h15
          unfold fX12_child_40
          try simp only [Nat.reduceAdd]
          have h17 := i32 x3
          have h18 : ((1 : Int32)).toInt = 1 := li_1
          have h19 : ((0 : Int32)).toInt = 0 := li_0
          refine Sp.mono (s_fX12_child_45_82_1000 fu hfu _ _ ih fu x1 x3 x4 x5 (1 : Int32) (0 : Int32) S I_S (by omega) (by omega) (by omega) (by omega) (by omega) (by omega) (by omega) (by omega) (by omega)) (fun r p_h20 => ?_)
          exact by omega
        · have h21 := neq_iv rfl rfl c_h15
          unfold fX12_child_39
          try simp only [Nat.reduceAdd]
          unfold fX12_child_40
          try simp only [Nat.reduceAdd]
          have h22 := i32 x3
          have h23 : ((0 : Int32)).toInt = 0 := li_0
          refine Sp.mono (s_fX12_child_45_82_1000 fu hfu _ _ ih fu x1 x3 x4 x5 (0 : Int32) (0 : Int32) S I_S (by omega) (by omega) (by omega) (by omega) (by omega) (by omega) (by omega) (by omega) (by omega)) (fun r p_h24 => ?_)
          exact by omega
      · have h25 := neq_iv rfl rfl c_h11
        unfold fX12_child_39
        try simp only [Nat.reduceAdd]
        unfold fX12_child_40
        try simp only [Nat.reduceAdd]
        have h26 := i32 x3
        have h27 := i32 x4
        have h28 : ((0 : Int32)).toInt = 0 := li_0
        refine Sp.mono (s_fX12_child_45_82_1000 fu hfu _ _ ih fu x1 x3 x4 x5 (0 : Int32) (0 : Int32) S I_S (by omega) (by omega) (by omega) (by omega) (by omega) (by omega) (by omega) (by omega) (by omega)) (fun r p_h29 => ?_)
        exact by omega
theorem s_fX12_child_82_1000 (fu : Nat) (hfu : 1000000000000000000 ≤ fu) (x1 : Int32) (x3 : Int32) (x4 : Int32) (S : St) (I_S : Inv S) (g0 : 0 ≤ (x3).toInt) (g1 : 0 ≤ (x4).toInt) (g2 : (x4).toInt ≤ 10) (g3 : (x3).toInt + (x4).toInt ≤ 1000) : Sp (fX12_child fu 82 1000 x1 x3 x4 S) S (fun r => (-1 ≤ r.toInt) ∧ (r.toInt < (S.1 63 5).toInt)) := by
  unfold fX12_child
  try simp only [Nat.reduceAdd]
  have h1 := i32 x1
  have h2 := i32 x3
  have h3 := i32 x4
  have h4 : ((1 : Int32)).toInt = 1 := li_1
  have h5 := b_63_5 I_S
  refine Sp.mono (s_fX12_child_3_82_1000 fu hfu fu x1 x3 x4 (1 : Int32) S I_S (by omega) (by omega) (by omega) (by omega) (by omega) (by omega)) (fun r p_h6 => ?_)
  exact by omega
theorem s_fX12_makes_51_82_1000 (fu : Nat) (hfu : 1000000000000000000 ≤ fu) : ∀ (n : Nat) (x3 : Int32) (x4 : Int32) (x5 : Int32) (x6 : Int32) (S : St), Inv S → (0 ≤ (x3).toInt) → (0 ≤ (x4).toInt) → ((x4).toInt ≤ 10) → ((x3).toInt + (x4).toInt ≤ 1000) → (0 ≤ (x5).toInt) → ((x5).toInt < 300) → (0 ≤ (x6).toInt) → (10 - (x6).toInt).toNat < n → Sf (fX12_makes_51 fu 82 1000 n x3 x4 x5 x6 S) (fun U r => Inv U ∧ Fr [(65, 0)] S U ∧ ((r.toInt = (x5).toInt))) := by
  intro n
  induction n with
  | zero => intro x3 x4 x5 x6 S I_S g0 g1 g2 g3 g4 g5 g6 hm; exact absurd hm (Nat.not_lt_zero _)
  | succ n ih =>
    intro x3 x4 x5 x6 S I_S g0 g1 g2 g3 g4 g5 g6 hm
    rw [fX12_makes_51_s]
    try simp only [Nat.reduceAdd]
    have F_S : Fr [(65, 0)] S S := Fr.refl _ _
    have h1 := i32 x4
    have h2 := i32 x6
    refine Sf.i (fun c_h3 => ?_) (fun c_h3 => ?_)
    · have h4 := le_iv rfl rfl c_h3
      have h5 := i32 x5
      exact Sf.so ⟨I_S, F_S, by omega⟩
    · have h6 := nle_iv rfl rfl c_h3
      have h7 := i32 x3
      try have h8 : ((x3 + x6)).toInt = (x3).toInt + (x6).toInt := add_iv rfl rfl (by omega) (by omega)
      refine Sf.g (ck_iv (by omega) (by omega)) ?_
      have h9 := i32 x5
      try have h10 : (((10 : Int32) * x5)).toInt = (10) * (x5).toInt := mul_iv li_10 rfl (by omega) (by omega)
      try have h11 : ((((10 : Int32) * x5) + x6)).toInt = (((10 : Int32) * x5)).toInt + (x6).toInt := add_iv rfl rfl (by omega) (by omega)
      refine Sf.g (ck_iv (by omega) (by omega)) ?_
      have h12 := vpy (S.1 82 (((x3 + x6)).toNatClampNeg))
      refine Sf.w I_S F_S rfl (i32 _).1 (i32 _).2 (fun S_76 I_S_76 F_S_76 v_S_76 f_S_76 l_S_76 => ?_)
      have h13 : (S_76.1 65 (((((10 : Int32) * x5) + x6)).toNatClampNeg)).toInt = ((vp_nar .byte (S.1 82 (((x3 + x6)).toNatClampNeg)))).toInt := eq_iv rfl rfl v_S_76
      have h14 : (S_76.1 82 (((x3 + x6)).toNatClampNeg)).toInt = (S.1 82 (((x3 + x6)).toNatClampNeg)).toInt := ti_eq (f_S_76 82 (((x3 + x6)).toNatClampNeg) (fun e => absurd e (by decide)))
      try have h15 : ((x6 + (1 : Int32))).toInt = (x6).toInt + (1) := add_iv rfl li_1 (by omega) (by omega)
      refine Sf.mono (ih x3 x4 x5 (x6 + (1 : Int32)) S_76 I_S_76 (by omega) (by omega) (by omega) (by omega) (by omega) (by omega) (by omega) (by omega)) (fun U r p_h16 => ?_)
      obtain ⟨I_U, G_U, p_h16⟩ := p_h16
      exact ⟨I_U, Fr.tr F_S_76 G_U rfl, by omega⟩
theorem s_fX12_makes_82_1000 (fu : Nat) (hfu : 1000000000000000000 ≤ fu) (x1 : Int32) (x3 : Int32) (x4 : Int32) (S : St) (I_S : Inv S) (g0 : 0 ≤ (x1).toInt) (g1 : (x1).toInt < (S.1 63 5).toInt) (g2 : (S.1 63 5).toInt < 300) (g3 : 0 ≤ (x3).toInt) (g4 : 0 ≤ (x4).toInt) (g5 : (x4).toInt ≤ 10) (g6 : (x3).toInt + (x4).toInt ≤ 1000) : Sf (fX12_makes fu 82 1000 x1 x3 x4 S) (fun U r => Inv U ∧ Fr [(63, 6), (64, 0), (65, 0), (66, 0), (67, 0)] S U ∧ ((r.toInt = (S.1 63 5).toInt) ∧ ((U.1 63 5).toInt = (S.1 63 5).toInt + 1))) := by
  unfold fX12_makes
  try simp only [Nat.reduceAdd]
  have F_S : Fr [(63, 6), (64, 0), (65, 0), (66, 0), (67, 0)] S S := Fr.refl _ _
  have h1 := b_63_5 I_S
  have h2 := b_63_5 I_S
  have h3 := b_63_5 I_S
  try have h4 : (((S.1 63 5) + (1 : Int32))).toInt = ((S.1 63 5)).toInt + (1) := add_iv rfl li_1 (by omega) (by omega)
  refine Sf.w I_S F_S rfl (show ((1) : Int) ≤ (((S.1 63 5) + (1 : Int32))).toInt by omega) (show (((S.1 63 5) + (1 : Int32))).toInt ≤ (300 : Int) by omega) (fun S_13 I_S_13 F_S_13 v_S_13 f_S_13 l_S_13 => ?_)
  have h5 := eq_iv rfl rfl v_S_13
  refine Sf.g (ck_iv (by omega) (by omega)) ?_
  have h6 := i32 x1
  try have h7 := cl_iv (x := (S.1 63 5)) (by omega)
  refine Sf.w I_S_13 F_S_13 rfl (show ((0) : Int) ≤ (x1).toInt by omega) (by show _ ≤ (if (((S.1 63 5)).toNatClampNeg) = 0 then (0 : Int) else (((((S.1 63 5)).toNatClampNeg) : Nat) : Int) - 1); split <;> omega) (fun S_23 I_S_23 F_S_23 v_S_23 f_S_23 l_S_23 => ?_)
  have h8 := ti_eq (f_S_23 63 5 (fun e => absurd e (by decide)))
  have h9 : (S_23.1 64 (((S.1 63 5)).toNatClampNeg)).toInt = (x1).toInt := eq_iv rfl rfl v_S_23
  refine Sf.g (ck_iv (by omega) (by omega)) ?_
  refine Sf.g (ck_iv (by omega) (by omega)) ?_
  try have h10 := cl_iv (x := x1) (by omega)
  have h11 := a_67 I_S_23 ((x1).toNatClampNeg)
  try have h12 : (((S_23.1 67 ((x1).toNatClampNeg)) + (1 : Int32))).toInt = ((S_23.1 67 ((x1).toNatClampNeg))).toInt + (1) := add_iv rfl li_1 (by omega) (by omega)
  try have h13 := cl_iv (x := (S.1 63 5)) (by omega)
  refine Sf.w I_S_23 F_S_23 rfl (show ((0) : Int) ≤ (((S_23.1 67 ((x1).toNatClampNeg)) + (1 : Int32))).toInt by omega) (by show _ ≤ (((((S.1 63 5)).toNatClampNeg) : Nat) : Int); omega) (fun S_38 I_S_38 F_S_38 v_S_38 f_S_38 l_S_38 => ?_)
  have h14 := ti_eq (f_S_38 63 5 (fun e => absurd e (by decide)))
  have h15 : (S_38.1 67 (((S.1 63 5)).toNatClampNeg)).toInt = (((S_23.1 67 ((x1).toNatClampNeg)) + (1 : Int32))).toInt := eq_iv rfl rfl v_S_38
  have h16 : (S_38.1 64 (((S.1 63 5)).toNatClampNeg)).toInt = (S_23.1 64 (((S.1 63 5)).toNatClampNeg)).toInt := ti_eq (f_S_38 64 (((S.1 63 5)).toNatClampNeg) (fun e => absurd e (by decide)))
  refine Sf.g (ck_iv (by omega) (by omega)) ?_
  have h17 := i32 x4
  refine Sf.w I_S_38 F_S_38 rfl (show ((0) : Int) ≤ (x4).toInt by omega) (show (x4).toInt ≤ (10 : Int) by omega) (fun S_47 I_S_47 F_S_47 v_S_47 f_S_47 l_S_47 => ?_)
  have h18 := ti_eq (f_S_47 63 5 (fun e => absurd e (by decide)))
  have h19 : (S_47.1 66 (((S.1 63 5)).toNatClampNeg)).toInt = (x4).toInt := eq_iv rfl rfl v_S_47
  have h20 : (S_47.1 64 (((S.1 63 5)).toNatClampNeg)).toInt = (S_38.1 64 (((S.1 63 5)).toNatClampNeg)).toInt := ti_eq (f_S_47 64 (((S.1 63 5)).toNatClampNeg) (fun e => absurd e (by decide)))
  have h21 : (S_47.1 67 (((S.1 63 5)).toNatClampNeg)).toInt = (S_38.1 67 (((S.1 63 5)).toNatClampNeg)).toInt := ti_eq (f_S_47 67 (((S.1 63 5)).toNatClampNeg) (fun e => absurd e (by decide)))
  have h22 := i32 x3
  have h23 : ((0 : Int32)).toInt = 0 := li_0
  refine Sf.mono (s_fX12_makes_51_82_1000 fu hfu fu x3 x4 (S.1 63 5) (0 : Int32) S_47 I_S_47 (by omega) (by omega) (by omega) (by omega) (by omega) (by omega) (by omega) (by omega)) (fun U r p_h24 => ?_)
  obtain ⟨I_U, G_U, p_h24⟩ := p_h24
  have h25 := b_63_5 I_S
  have h26 := b_63_5 I_U
  have h27 := b_63_5 I_S
  have h28 := ti_eq (G_U 63 5 rfl)
  exact ⟨I_U, Fr.tr F_S_47 G_U rfl, by omega⟩
theorem s_fX12_named_9_82_1000 (fu : Nat) (hfu : 1000000000000000000 ≤ fu) : ∀ (n : Nat) (x2 : Int32) (x3 : Int32) (S : St), Inv S → PX S → (0 ≤ (x2).toInt) → ((x2).toInt < (S.1 63 5).toInt) → (-1 ≤ (x3).toInt) → ((x3).toInt < (S.1 63 8).toInt) → ((x3).toInt + 1).toNat < n → Sf (fX12_named_9 fu 82 1000 n x2 x3 S) (fun U r => Inv U ∧ Fr [(63, 6), (64, 0), (65, 0), (66, 0), (67, 0)] S U ∧ ((-1 ≤ r.toInt) ∧ (r.toInt ≤ 299))) := by
  intro n
  induction n with
  | zero => intro x2 x3 S I_S PX_S g0 g1 g2 g3 hm; exact absurd hm (Nat.not_lt_zero _)
  | succ n ih =>
    intro x2 x3 S I_S PX_S g0 g1 g2 g3 hm
    rw [fX12_named_9_s]
    try simp only [Nat.reduceAdd]
    have F_S : Fr [(63, 6), (64, 0), (65, 0), (66, 0), (67, 0)] S S := Fr.refl _ _
    have h1 := b_63_5 I_S
    have h2 := b_63_8 I_S
    have h3 := i32 x3
    refine Sf.i (fun c_h4 => ?_) (fun c_h4 => ?_)
    · have h5 := lt_iv rfl li_0 c_h4
      have h6 := i32 x2
      exact Sf.so ⟨I_S, F_S, by omega⟩
    · have h7 := nlt_iv rfl li_0 c_h4
      refine Sf.g (ck_iv (by omega) (by omega)) ?_
      refine Sf.g (ck_iv (by omega) (by omega)) ?_
      have hp := PX_at PX_S (x := x3) (by omega) (by omega)
      have h8 := i32 x2
      have h9 := a_68 I_S ((x3).toNatClampNeg)
      have h10 := a_69 I_S ((x3).toNatClampNeg)
      have h11 := b_63_5 I_S
      refine Sf.bp (s_fX12_child_82_1000 fu hfu x2 (S.1 68 ((x3).toNatClampNeg)) (S.1 69 ((x3).toNatClampNeg)) S I_S (by omega) (by omega) (by omega) (by omega)) (fun r_28 p_r_28 => ?_)
      have h12 := i32 r_28
      refine Sf.i (fun c_h13 => ?_) (fun c_h13 => ?_)
      · have h14 := le_iv li_0 rfl c_h13
        unfold fX12_named_50
        try simp only [Nat.reduceAdd]
        refine Sf.i (fun c_h15 => ?_) (fun c_h15 => ?_)
        · have h16 := le_iv li_0 rfl c_h15
          unfold fX12_named_78
          try simp only [Nat.reduceAdd]
          obtain ⟨d17, e_d17⟩ : ∃ d : Int32, d = (x3 + (-1 : Int32)) := ⟨_, rfl⟩
          have h18 : (d17).toInt = (x3).toInt + (-1) := by rw [e_d17]; exact add_iv rfl li_m1 (by omega) (by omega)
          rw [← e_d17]
          clear e_d17
          have h19 := b_63_8 I_S
          refine Sf.mono (ih r_28 d17 S I_S PX_S (by omega) (by omega) (by omega) (by omega) (by omega)) (fun U r p_h20 => ?_)
          obtain ⟨I_U, G_U, p_h20⟩ := p_h20
          have h21 := ti_eq (G_U 63 8 rfl)
          have PX_U := PX_fr (U := U) PX_S (G_U 63 8 rfl) (fun b => G_U 68 b rfl) (fun b => G_U 69 b rfl)
          exact ⟨I_U, Fr.tr F_S G_U rfl, by omega⟩
        · have h22 := nle_iv li_0 rfl c_h15
          refine Sf.g (ck_iv (by omega) (by omega)) ?_
          refine Sf.g (ck_iv (by omega) (by omega)) ?_
          refine Sf.b (s_fX12_makes_82_1000 fu hfu x2 (S.1 68 ((x3).toNatClampNeg)) (S.1 69 ((x3).toNatClampNeg)) S I_S (by omega) (by omega) (by omega) (by omega) (by omega) (by omega) (by omega)) (fun S_70 r_70 p_r_70 => ?_)
          obtain ⟨I_S_70, G_S_70, p_r_70⟩ := p_r_70
          have F_S_70 := Fr.tr F_S G_S_70 rfl
          have PX_S_70 := PX_fr (U := S_70) PX_S (G_S_70 63 8 rfl) (fun b => G_S_70 68 b rfl) (fun b => G_S_70 69 b rfl)
          have h23 := b_63_5 I_S_70
          have h24 := ti_eq (G_S_70 63 8 rfl)
          have h25 : (S_70.1 68 ((x3).toNatClampNeg)).toInt = (S.1 68 ((x3).toNatClampNeg)).toInt := ti_eq (G_S_70 68 ((x3).toNatClampNeg) rfl)
          have h26 : (S_70.1 69 ((x3).toNatClampNeg)).toInt = (S.1 69 ((x3).toNatClampNeg)).toInt := ti_eq (G_S_70 69 ((x3).toNatClampNeg) rfl)
          unfold fX12_named_78
          try simp only [Nat.reduceAdd]
          obtain ⟨d27, e_d27⟩ : ∃ d : Int32, d = (x3 + (-1 : Int32)) := ⟨_, rfl⟩
          have h28 : (d27).toInt = (x3).toInt + (-1) := by rw [e_d27]; exact add_iv rfl li_m1 (by omega) (by omega)
          rw [← e_d27]
          clear e_d27
          have h29 := i32 r_70
          have h30 := b_63_8 I_S_70
          refine Sf.mono (ih r_70 d27 S_70 I_S_70 PX_S_70 (by omega) (by omega) (by omega) (by omega) (by omega)) (fun U r p_h31 => ?_)
          obtain ⟨I_U, G_U, p_h31⟩ := p_h31
          have h32 := ti_eq (G_U 63 8 rfl)
          have PX_U := PX_fr (U := U) PX_S_70 (G_U 63 8 rfl) (fun b => G_U 68 b rfl) (fun b => G_U 69 b rfl)
          exact ⟨I_U, Fr.tr F_S_70 G_U rfl, by omega⟩
      · have h33 := nle_iv li_0 rfl c_h13
        refine Sf.i (fun c_h34 => ?_) (fun c_h34 => ?_)
        · have h35 := eq_iv rfl li_300 c_h34
          have h36 : ((-1 : Int32)).toInt = -1 := li_m1
          exact Sf.so ⟨I_S, F_S, by omega⟩
        · have h37 := neq_iv rfl li_300 c_h34
          unfold fX12_named_50
          try simp only [Nat.reduceAdd]
          refine Sf.i (fun c_h38 => ?_) (fun c_h38 => ?_)
          · have h39 := le_iv li_0 rfl c_h38
            unfold fX12_named_78
            try simp only [Nat.reduceAdd]
            obtain ⟨d40, e_d40⟩ : ∃ d : Int32, d = (x3 + (-1 : Int32)) := ⟨_, rfl⟩
            have h41 : (d40).toInt = (x3).toInt + (-1) := by rw [e_d40]; exact add_iv rfl li_m1 (by omega) (by omega)
            rw [← e_d40]
            clear e_d40
            have h42 := b_63_8 I_S
            refine Sf.mono (ih r_28 d40 S I_S PX_S (by omega) (by omega) (by omega) (by omega) (by omega)) (fun U r p_h43 => ?_)
            obtain ⟨I_U, G_U, p_h43⟩ := p_h43
            have h44 := ti_eq (G_U 63 8 rfl)
            have PX_U := PX_fr (U := U) PX_S (G_U 63 8 rfl) (fun b => G_U 68 b rfl) (fun b => G_U 69 b rfl)
            exact ⟨I_U, Fr.tr F_S G_U rfl, by omega⟩
          · have h45 := nle_iv li_0 rfl c_h38
            refine Sf.g (ck_iv (by omega) (by omega)) ?_
            refine Sf.g (ck_iv (by omega) (by omega)) ?_
            refine Sf.b (s_fX12_makes_82_1000 fu hfu x2 (S.1 68 ((x3).toNatClampNeg)) (S.1 69 ((x3).toNatClampNeg)) S I_S (by omega) (by omega) (by omega) (by omega) (by omega) (by omega) (by omega)) (fun S_70 r_70 p_r_70 => ?_)
            obtain ⟨I_S_70, G_S_70, p_r_70⟩ := p_r_70
            have F_S_70 := Fr.tr F_S G_S_70 rfl
            have PX_S_70 := PX_fr (U := S_70) PX_S (G_S_70 63 8 rfl) (fun b => G_S_70 68 b rfl) (fun b => G_S_70 69 b rfl)
            have h46 := b_63_5 I_S_70
            have h47 := ti_eq (G_S_70 63 8 rfl)
            have h48 : (S_70.1 68 ((x3).toNatClampNeg)).toInt = (S.1 68 ((x3).toNatClampNeg)).toInt := ti_eq (G_S_70 68 ((x3).toNatClampNeg) rfl)
            have h49 : (S_70.1 69 ((x3).toNatClampNeg)).toInt = (S.1 69 ((x3).toNatClampNeg)).toInt := ti_eq (G_S_70 69 ((x3).toNatClampNeg) rfl)
            unfold fX12_named_78
            try simp only [Nat.reduceAdd]
            obtain ⟨d50, e_d50⟩ : ∃ d : Int32, d = (x3 + (-1 : Int32)) := ⟨_, rfl⟩
            have h51 : (d50).toInt = (x3).toInt + (-1) := by rw [e_d50]; exact add_iv rfl li_m1 (by omega) (by omega)
            rw [← e_d50]
            clear e_d50
            have h52 := i32 r_70
            have h53 := b_63_8 I_S_70
            refine Sf.mono (ih r_70 d50 S_70 I_S_70 PX_S_70 (by omega) (by omega) (by omega) (by omega) (by omega)) (fun U r p_h54 => ?_)
            obtain ⟨I_U, G_U, p_h54⟩ := p_h54
            have h55 := ti_eq (G_U 63 8 rfl)
            have PX_U := PX_fr (U := U) PX_S_70 (G_U 63 8 rfl) (fun b => G_U 68 b rfl) (fun b => G_U 69 b rfl)
            exact ⟨I_U, Fr.tr F_S_70 G_U rfl, by omega⟩
theorem s_fX12_named_82_1000 (fu : Nat) (hfu : 1000000000000000000 ≤ fu) (S : St) (I_S : Inv S) (PX_S : PX S) : Sf (fX12_named fu 82 1000 S) (fun U r => Inv U ∧ Fr [(63, 6), (64, 0), (65, 0), (66, 0), (67, 0)] S U ∧ ((-1 ≤ r.toInt) ∧ (r.toInt ≤ 299))) := by
  unfold fX12_named
  try simp only [Nat.reduceAdd]
  have F_S : Fr [(63, 6), (64, 0), (65, 0), (66, 0), (67, 0)] S S := Fr.refl _ _
  have h1 : ((0 : Int32)).toInt = 0 := li_0
  have h2 := b_63_8 I_S
  try have h3 : (((S.1 63 8) - (1 : Int32))).toInt = ((S.1 63 8)).toInt - (1) := sub_iv rfl li_1 (by omega) (by omega)
  have h4 := b_63_5 I_S
  refine Sf.mono (s_fX12_named_9_82_1000 fu hfu fu (0 : Int32) ((S.1 63 8) - (1 : Int32)) S I_S PX_S (by omega) (by omega) (by omega) (by omega) (by omega)) (fun U r p_h5 => ?_)
  obtain ⟨I_U, G_U, p_h5⟩ := p_h5
  have h6 := ti_eq (G_U 63 8 rfl)
  have PX_U := PX_fr (U := U) PX_S (G_U 63 8 rfl) (fun b => G_U 68 b rfl) (fun b => G_U 69 b rfl)
  exact ⟨I_U, Fr.tr F_S G_U rfl, by omega⟩
theorem s_fX12_readName_82_1000 (fu : Nat) (hfu : 1000000000000000000 ≤ fu) (x2 : Int32) (S : St) (I_S : Inv S) (g0 : (x2).toInt ≤ 1000) : Sf (fX12_readName fu 82 1000 x2 S) (fun U r => Inv U ∧ Fr [(63, 6), (63, 9), (63, 31), (63, 32), (64, 0), (65, 0), (66, 0), (67, 0), (68, 0), (69, 0)] S U ∧ (((S.1 63 31).toInt ≤ (U.1 63 31).toInt) ∧ (((U.1 63 31).toInt ≤ (x2).toInt ∨ (U.1 63 31).toInt = (S.1 63 31).toInt)) ∧ (-1 ≤ r.toInt) ∧ (r.toInt ≤ 299) ∧ ((r.toInt < 0 → 0 < (U.1 63 30).toInt)) ∧ ((0 ≤ r.toInt → (U.1 63 30).toInt = (S.1 63 30).toInt ∧ (S.1 63 31).toInt + 1 ≤ (U.1 63 31).toInt ∧ (U.1 63 31).toInt ≤ (x2).toInt)))) := by
  unfold fX12_readName
  try simp only [Nat.reduceAdd]
  have F_S : Fr [(63, 6), (63, 9), (63, 31), (63, 32), (64, 0), (65, 0), (66, 0), (67, 0), (68, 0), (69, 0)] S S := Fr.refl _ _
  have h1 := b_63_31 I_S
  have h2 := i32 x2
  have h3 := b_63_30 I_S
  refine Sf.b (s_fX12_isName_82_1000 fu hfu (S.1 63 31) x2 S I_S (by omega) (by omega) (by omega)) (fun S_7 r_7 p_r_7 => ?_)
  obtain ⟨I_S_7, G_S_7, p_r_7, PX_S_7⟩ := p_r_7
  have F_S_7 := Fr.tr F_S G_S_7 rfl
  have h4 := b_63_31 I_S_7
  have h5 := b_63_30 I_S_7
  have h6 := i32 r_7
  refine Sf.i (fun c_h7 => ?_) (fun c_h7 => ?_)
  · have h8 := eq_iv rfl li_0 c_h7
    have h9 := b_63_31 I_S_7
    have h10 := b_63_31 I_S
    have h11 := b_63_31 I_S_7
    have h12 := b_63_31 I_S_7
    have h13 := b_63_31 I_S
    have h14 := b_63_30 I_S_7
    have h15 := b_63_30 I_S_7
    have h16 := b_63_31 I_S_7
    have h17 := b_63_31 I_S_7
    have h18 := b_63_30 I_S
    have h19 := b_63_31 I_S
    have h20 : ((-1 : Int32)).toInt = -1 := li_m1
    exact Sf.so ⟨I_S_7, F_S_7, by omega⟩
  · have h21 := neq_iv rfl li_0 c_h7
    refine Sf.b (s_fX12_named_82_1000 fu hfu S_7 I_S_7 PX_S_7) (fun S_17 r_17 p_r_17 => ?_)
    obtain ⟨I_S_17, G_S_17, p_r_17⟩ := p_r_17
    have F_S_17 := Fr.tr F_S_7 G_S_17 rfl
    have PX_S_17 := PX_fr (U := S_17) PX_S_7 (G_S_17 63 8 rfl) (fun b => G_S_17 68 b rfl) (fun b => G_S_17 69 b rfl)
    have h22 := ti_eq (G_S_17 63 30 rfl)
    have h23 := ti_eq (G_S_17 63 31 rfl)
    have h24 := i32 r_17
    refine Sf.i (fun c_h25 => ?_) (fun c_h25 => ?_)
    · have h26 := le_iv li_0 rfl c_h25
      have h27 := b_63_31 I_S_17
      have h28 := b_63_31 I_S
      have h29 := b_63_31 I_S_17
      have h30 := b_63_31 I_S_17
      have h31 := b_63_31 I_S
      have h32 := b_63_30 I_S_17
      have h33 := b_63_30 I_S_17
      have h34 := b_63_31 I_S_17
      have h35 := b_63_31 I_S_17
      have h36 := b_63_30 I_S
      have h37 := b_63_31 I_S
      exact Sf.so ⟨I_S_17, F_S_17, by omega⟩
    · have h38 := nle_iv li_0 rfl c_h25
      have h39 : ((6 : Int32)).toInt = 6 := li_6
      refine Sf.b (s_fX12_wrong fu hfu (6 : Int32) S_17 I_S_17 (by omega) (by omega)) (fun S_28 r_28 p_r_28 => ?_)
      obtain ⟨I_S_28, G_S_28, p_r_28⟩ := p_r_28
      have F_S_28 := Fr.tr F_S_17 G_S_28 rfl
      have PX_S_28 := PX_fr (U := S_28) PX_S_17 (G_S_28 63 8 rfl) (fun b => G_S_28 68 b rfl) (fun b => G_S_28 69 b rfl)
      have h40 := b_63_30 I_S_28
      have h41 := ti_eq (G_S_28 63 31 rfl)
      have h42 := i32 r_28
      have h43 := b_63_31 I_S_28
      have h44 := b_63_31 I_S
      have h45 := b_63_31 I_S_28
      have h46 := b_63_31 I_S_28
      have h47 := b_63_31 I_S
      have h48 := b_63_30 I_S_28
      have h49 := b_63_30 I_S_28
      have h50 := b_63_31 I_S_28
      have h51 := b_63_31 I_S_28
      have h52 := b_63_30 I_S
      have h53 := b_63_31 I_S
      exact Sf.so ⟨I_S_28, F_S_28, by omega⟩
theorem s_fX12_four_82_1000 (fu : Nat) (hfu : 1000000000000000000 ≤ fu) (x1 : Int32) (S : St) (I_S : Inv S) (g0 : 0 ≤ (x1).toInt) (g1 : (x1).toInt + 3 < 1000) : Sp (fX12_four fu 82 1000 x1 S) S (fun r => True) := by
  unfold fX12_four
  try simp only [Nat.reduceAdd]
  have h1 := i32 x1
  refine Sp.b (s_fX12_two_82_1000 fu hfu x1 S I_S (by omega) (by omega)) (fun r_2 p_r_2 => ?_)
  try have h2 : ((x1 + (2 : Int32))).toInt = (x1).toInt + (2) := add_iv rfl li_2 (by omega) (by omega)
  refine Sp.b (s_fX12_two_82_1000 fu hfu (x1 + (2 : Int32)) S I_S (by omega) (by omega)) (fun r_12 p_r_12 => ?_)
  exact Sp.so trivial
