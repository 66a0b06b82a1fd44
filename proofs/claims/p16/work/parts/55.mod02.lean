theorem s_fX12_makes_70_1040 (fu : Nat) (hfu : 1000000000000000000 ≤ fu) (x1 : Int32) (x3 : Int32) (x4 : Int32) (S : St) (I_S : Inv S) (g0 : 0 ≤ (x1).toInt) (g1 : (x1).toInt < (S.1 63 5).toInt) (g2 : (S.1 63 5).toInt < 300) (g3 : 0 ≤ (x3).toInt) (g4 : 0 ≤ (x4).toInt) (g5 : (x4).toInt ≤ 10) (g6 : (x3).toInt + (x4).toInt ≤ 1040) : Sf (fX12_makes fu 70 1040 x1 x3 x4 S) (fun U r => Inv U ∧ Fr [(63, 6), (64, 0), (65, 0), (66, 0), (67, 0)] S U ∧ ((r.toInt = (S.1 63 5).toInt) ∧ ((U.1 63 5).toInt = (S.1 63 5).toInt + 1))) := by
  unfold fX12_makes
  try simp only [Nat.reduceAdd]
  have F_S : Fr [(63, 6), (64, 0), (65, 0), (66, 0), (67, 0)] S S := Fr.refl _ _
  have h1 := b_63_5 I_S
  have h2 := b_63_5 I_S
  have h3 := b_63_5 I_S
  try have h4 : (((S.1 63 5) + (1 : Int32))).toInt = ((S.1 63 5)).toInt + (1) := add_iv rfl li_1 (by omega) (by omega)
  refine Sf.w I_S F_S rfl (show ((1) : Int) ≤ (((S.1 63 5) + (1 : Int32))).toInt by omega) (show (((S.1 63 5) + (1 : Int32))).toInt ≤ (300 : Int) by omega) (fun S_13 I_S_13 F_S_13 v_S_13 f_S_13 l_S_13 => ?_)
  have h5 := eq_iv rfl rfl v_S_13
  refine Sf.g (ck_iv (by omega) (by omega)) ?_
  have h6 := i32 x1
  try have h7 := cl_iv (x := (S.1 63 5)) (by omega)
  refine Sf.w I_S_13 F_S_13 rfl (show ((0) : Int) ≤ (x1).toInt by omega) (by show _ ≤ (if (((S.1 63 5)).toNatClampNeg) = 0 then (0 : Int) else (((((S.1 63 5)).toNatClampNeg) : Nat) : Int) - 1); split <;> omega) (fun S_23 I_S_23 F_S_23 v_S_23 f_S_23 l_S_23 => ?_)
  have h8 := ti_eq (f_S_23 63 5 (fun e => absurd e (by decide)))
  have h9 : (S_23.1 64 (((S.1 63 5)).toNatClampNeg)).toInt = (x1).toInt := eq_iv rfl rfl v_S_23
  refine Sf.g (ck_iv (by omega) (by omega)) ?_
  refine Sf.g (ck_iv (by omega) (by omega)) ?_
  try have h10 := cl_iv (x := x1) (by omega)
  have h11 := a_67 I_S_23 ((x1).toNatClampNeg)
  try have h12 : (((S_23.1 67 ((x1).toNatClampNeg)) + (1 : Int32))).toInt = ((S_23.1 67 ((x1).toNatClampNeg))).toInt + (1) := add_iv rfl li_1 (by omega) (by omega)
  try have h13 := cl_iv (x := (S.1 63 5)) (by omega)
  refine Sf.w I_S_23 F_S_23 rfl (show ((0) : Int) ≤ (((S_23.1 67 ((x1).toNatClampNeg)) + (1 : Int32))).toInt by omega) (by show _ ≤ (((((S.1 63 5)).toNatClampNeg) : Nat) : Int); omega) (fun S_38 I_S_38 F_S_38 v_S_38 f_S_38 l_S_38 => ?_)
  have h14 := ti_eq (f_S_38 63 5 (fun e => absurd e (by decide)))
  have h15 : (S_38.1 67 (((S.1 63 5)).toNatClampNeg)).toInt = (((S_23.1 67 ((x1).toNatClampNeg)) + (1 : Int32))).toInt := eq_iv rfl rfl v_S_38
  have h16 : (S_38.1 64 (((S.1 63 5)).toNatClampNeg)).toInt = (S_23.1 64 (((S.1 63 5)).toNatClampNeg)).toInt := ti_eq (f_S_38 64 (((S.1 63 5)).toNatClampNeg) (fun e => absurd e (by decide)))
  refine Sf.g (ck_iv (by omega) (by omega)) ?_
  have h17 := i32 x4
  refine Sf.w I_S_38 F_S_38 rfl (show ((0) : Int) ≤ (x4).toInt by omega) (show (x4).toInt ≤ (10 : Int) by omega) (fun S_47 I_S_47 F_S_47 v_S_47 f_S_47 l_S_47 => ?_)
  have h18 := ti_eq (f_S_47 63 5 (fun e => absurd e (by decide)))
  have h19 : (S_47.1 66 (((S.1 63 5)).toNatClampNeg)).toInt = (x4).toInt := eq_iv rfl rfl v_S_47
  have h20 : (S_47.1 64 (((S.1 63 5)).toNatClampNeg)).toInt = (S_38.1 64 (((S.1 63 5)).toNatClampNeg)).toInt := ti_eq (f_S_47 64 (((S.1 63 5)).toNatClampNeg) (fun e => absurd e (by decide)))
  have h21 : (S_47.1 67 (((S.1 63 5)).toNatClampNeg)).toInt = (S_38.1 67 (((S.1 63 5)).toNatClampNeg)).toInt := ti_eq (f_S_47 67 (((S.1 63 5)).toNatClampNeg) (fun e => absurd e (by decide)))
  have h22 := i32 x3
  have h23 : ((0 : Int32)).toInt = 0 := li_0
  refine Sf.mono (s_fX12_makes_51_70_1040 fu hfu fu x3 x4 (S.1 63 5) (0 : Int32) S_47 I_S_47 (by omega) (by omega) (by omega) (by omega) (by omega) (by omega) (by omega) (by omega)) (fun U r p_h24 => ?_)
  obtain ⟨I_U, G_U, p_h24⟩ := p_h24
  have h25 := b_63_5 I_S
  have h26 := b_63_5 I_U
  have h27 := b_63_5 I_S
  have h28 := ti_eq (G_U 63 5 rfl)
  exact ⟨I_U, Fr.tr F_S_47 G_U rfl, by omega⟩
theorem s_fX12_named_9_70_1040 (fu : Nat) (hfu : 1000000000000000000 ≤ fu) : ∀ (n : Nat) (x2 : Int32) (x3 : Int32) (S : St), Inv S → PX S → (0 ≤ (x2).toInt) → ((x2).toInt < (S.1 63 5).toInt) → (-1 ≤ (x3).toInt) → ((x3).toInt < (S.1 63 8).toInt) → ((x3).toInt + 1).toNat < n → Sf (fX12_named_9 fu 70 1040 n x2 x3 S) (fun U r => Inv U ∧ Fr [(63, 6), (64, 0), (65, 0), (66, 0), (67, 0)] S U ∧ ((-1 ≤ r.toInt) ∧ (r.toInt ≤ 299))) := by
  intro n
  induction n with
  | zero => intro x2 x3 S I_S PX_S g0 g1 g2 g3 hm; exact absurd hm (Nat.not_lt_zero _)
  | succ n ih =>
    intro x2 x3 S I_S PX_S g0 g1 g2 g3 hm
    rw [fX12_named_9_s]
    try simp only [Nat.reduceAdd]
    have F_S : Fr [(63, 6), (64, 0), (65, 0), (66, 0), (67, 0)] S S := Fr.refl _ _
    have h1 := b_63_5 I_S
    have h2 := b_63_8 I_S
    have h3 := i32 x3
    refine Sf.i (fun c_h4 => ?_) (fun c_h4 => ?_)
    · have h5 := lt_iv rfl li_0 c_h4
      have h6 := i32 x2
      exact Sf.so ⟨I_S, F_S, by omega⟩
    · have h7 := nlt_iv rfl li_0 c_h4
      refine Sf.g (ck_iv (by omega) (by omega)) ?_
      refine Sf.g (ck_iv (by omega) (by omega)) ?_
      have hp := PX_at PX_S (x := x3) (by omega) (by omega)
      have h8 := i32 x2
      have h9 := a_68 I_S ((x3).toNatClampNeg)
      have h10 := a_69 I_S ((x3).toNatClampNeg)
      have h11 := b_63_5 I_S
      refine Sf.bp (s_fX12_child_70_1040 fu hfu x2 (S.1 68 ((x3).toNatClampNeg)) (S.1 69 ((x3).toNatClampNeg)) S I_S (by omega) (by omega) (by omega) (by omega)) (fun r_28 p_r_28 => ?_)
      have h12 := i32 r_28
      refine Sf.i (fun c_h13 => ?_) (fun c_h13 => ?_)
      · have h14 := le_iv li_0 rfl c_h13
        unfold fX12_named_50
        try simp only [Nat.reduceAdd]
        refine Sf.i (fun c_h15 => ?_) (fun c_h15 => ?_)
        · have h16 := le_iv li_0 rfl c_h15
          unfold fX12_named_78
          try simp only [Nat.reduceAdd]
          obtain ⟨d17, e_d17⟩ : ∃ d : Int32, d = (x3 + (-1 : Int32)) := ⟨_, rfl⟩
          have h18 : (d17).toInt = (x3).toInt + (-1) := by rw [e_d17]; exact add_iv rfl li_m1 (by omega) (by omega)
          rw [← e_d17]
          clear e_d17
          have h19 := b_63_8 I_S
          refine Sf.mono (ih r_28 d17 S I_S PX_S (by omega) (by omega) (by omega) (by omega) (by omega)) (fun U r p_h20 => ?_)
          obtain ⟨I_U, G_U, p_h20⟩ := p_h20
          have h21 := ti_eq (G_U 63 8 rfl)
          have PX_U := PX_fr (U := U) PX_S (G_U 63 8 rfl) (fun b => G_U 68 b rfl) (fun b => G_U 69 b rfl)
          exact ⟨I_U, Fr.tr F_S G_U rfl, by omega⟩
        · have h22 := nle_iv li_0 rfl c_h15
          refine Sf.g (ck_iv (by omega) (by omega)) ?_
          refine Sf.g (ck_iv (by omega) (by omega)) ?_
          refine Sf.b (s_fX12_makes_70_1040 fu hfu x2 (S.1 68 ((x3).toNatClampNeg)) (S.1 69 ((x3).toNatClampNeg)) S I_S (by omega) (by omega) (by omega) (by omega) (by omega) (by omega) (by omega)) (fun S_70 r_70 p_r_70 => ?_)
          obtain ⟨I_S_70, G_S_70, p_r_70⟩ := p_r_70
          have F_S_70 := Fr.tr F_S G_S_70 rfl
          have PX_S_70 := PX_fr (U := S_70) PX_S (G_S_70 63 8 rfl) (fun b => G_S_70 68 b rfl) (fun b => G_S_70 69 b rfl)
          have h23 := b_63_5 I_S_70
          have h24 := ti_eq (G_S_70 63 8 rfl)
          have h25 : (S_70.1 68 ((x3).toNatClampNeg)).toInt = (S.1 68 ((x3).toNatClampNeg)).toInt := ti_eq (G_S_70 68 ((x3).toNatClampNeg) rfl)
          have h26 : (S_70.1 69 ((x3).toNatClampNeg)).toInt = (S.1 69 ((x3).toNatClampNeg)).toInt := ti_eq (G_S_70 69 ((x3).toNatClampNeg) rfl)
          unfold fX12_named_78
          try simp only [Nat.reduceAdd]
          obtain ⟨d27, e_d27⟩ : ∃ d : Int32, d = (x3 + (-1 : Int32)) := ⟨_, rfl⟩
          have h28 : (d27).toInt = (x3).toInt + (-1) := by rw [e_d27]; exact add_iv rfl li_m1 (by omega) (by omega)
          rw [← e_d27]
          clear e_d27
          have h29 := i32 r_70
          have h30 := b_63_8 I_S_70
          refine Sf.mono (ih r_70 d27 S_70 I_S_70 PX_S_70 (by omega) (by omega) (by omega) (by omega) (by omega)) (fun U r p_h31 => ?_)
          obtain ⟨I_U, G_U, p_h31⟩ := p_h31
          have h32 := ti_eq (G_U 63 8 rfl)
          have PX_U := PX_fr (U := U) PX_S_70 (G_U 63 8 rfl) (fun b => G_U 68 b rfl) (fun b => G_U 69 b rfl)
          exact ⟨I_U, Fr.tr F_S_70 G_U rfl, by omega⟩
      · have h33 := nle_iv li_0 rfl c_h13
        refine Sf.i (fun c_h34 => ?_) (fun c_h34 => ?_)
        · have h35 := eq_iv rfl li_300 c_h34
          have h36 : ((-1 : Int32)).toInt = -1 := li_m1
          exact Sf.so ⟨I_S, F_S, by omega⟩
        · have h37 := neq_iv rfl li_300 c_h34
          unfold fX12_named_50
          try simp only [Nat.reduceAdd]
          refine Sf.i (fun c_h38 => ?_) (fun c_h38 => ?_)
          · have h39 := le_iv li_0 rfl c_h38
            unfold fX12_named_78
            try simp only [Nat.reduceAdd]
            obtain ⟨d40, e_d40⟩ : ∃ d : Int32, d = (x3 + (-1 : Int32)) := ⟨_, rfl⟩
            have h41 : (d40).toInt = (x3).toInt + (-1) := by rw [e_d40]; exact add_iv rfl li_m1 (by omega) (by omega)
            rw [← e_d40]
            clear e_d40
            have h42 := b_63_8 I_S
            refine Sf.mono (ih r_28 d40 S I_S PX_S (by omega) (by omega) (by omega) (by omega) (by omega)) (fun U r p_h43 => ?_)
            obtain ⟨I_U, G_U, p_h43⟩ := p_h43
            have h44 := ti_eq (G_U 63 8 rfl)
            have PX_U := PX_fr (U := U) PX_S (G_U 63 8 rfl) (fun b => G_U 68 b rfl) (fun b => G_U 69 b rfl)
            exact ⟨I_U, Fr.tr F_S G_U rfl, by omega⟩
          · have h45 := nle_iv li_0 rfl c_h38
            refine Sf.g (ck_iv (by omega) (by omega)) ?_
            refine Sf.g (ck_iv (by omega) (by omega)) ?_
            refine Sf.b (s_fX12_makes_70_1040 fu hfu x2 (S.1 68 ((x3).toNatClampNeg)) (S.1 69 ((x3).toNatClampNeg)) S I_S (by omega) (by omega) (by omega) (by omega) (by omega) (by omega) (by omega)) (fun S_70 r_70 p_r_70 => ?_)
            obtain ⟨I_S_70, G_S_70, p_r_70⟩ := p_r_70
            have F_S_70 := Fr.tr F_S G_S_70 rfl
            have PX_S_70 := PX_fr (U := S_70) PX_S (G_S_70 63 8 rfl) (fun b => G_S_70 68 b rfl) (fun b => G_S_70 69 b rfl)
            have h46 := b_63_5 I_S_70
            have h47 := ti_eq (G_S_70 63 8 rfl)
            have h48 : (S_70.1 68 ((x3).toNatClampNeg)).toInt = (S.1 68 ((x3).toNatClampNeg)).toInt := ti_eq (G_S_70 68 ((x3).toNatClampNeg) rfl)
            have h49 : (S_70.1 69 ((x3).toNatClampNeg)).toInt = (S.1 69 ((x3).toNatClampNeg)).toInt := ti_eq (G_S_70 69 ((x3).toNatClampNeg) rfl)
            unfold fX12_named_78
            try simp only [Nat.reduceAdd]
            obtain ⟨d50, e_d50⟩ : ∃ d : Int32, d = (x3 + (-1 : Int32)) := ⟨_, rfl⟩
            have h51 : (d50).toInt = (x3).toInt + (-1) := by rw [e_d50]; exact add_iv rfl li_m1 (by omega) (by omega)
            rw [← e_d50]
            clear e_d50
            have h52 := i32 r_70
            have h53 := b_63_8 I_S_70
            refine Sf.mono (ih r_70 d50 S_70 I_S_70 PX_S_70 (by omega) (by omega) (by omega) (by omega) (by omega)) (fun U r p_h54 => ?_)
            obtain ⟨I_U, G_U, p_h54⟩ := p_h54
            have h55 := ti_eq (G_U 63 8 rfl)
            have PX_U := PX_fr (U := U) PX_S_70 (G_U 63 8 rfl) (fun b => G_U 68 b rfl) (fun b => G_U 69 b rfl)
            exact ⟨I_U, Fr.tr F_S_70 G_U rfl, by omega⟩
theorem s_fX12_named_70_1040 (fu : Nat) (hfu : 1000000000000000000 ≤ fu) (S : St) (I_S : Inv S) (PX_S : PX S) : Sf (fX12_named fu 70 1040 S) (fun U r => Inv U ∧ Fr [(63, 6), (64, 0), (65, 0), (66, 0), (67, 0)] S U ∧ ((-1 ≤ r.toInt) ∧ (r.toInt ≤ 299))) := by
  unfold fX12_named
  try simp only [Nat.reduceAdd]
  have F_S : Fr [(63, 6), (64, 0), (65, 0), (66, 0), (67, 0)] S S := Fr.refl _ _
  have h1 : ((0 : Int32)).toInt = 0 := li_0
  have h2 := b_63_8 I_S
  try have h3 : (((S.1 63 8) - (1 : Int32))).toInt = ((S.1 63 8)).toInt - (1) := sub_iv rfl li_1 (by omega) (by omega)
  have h4 := b_63_5 I_S
  refine Sf.mono (s_fX12_named_9_70_1040 fu hfu fu (0 : Int32) ((S.1 63 8) - (1 : Int32)) S I_S PX_S (by omega) (by omega) (by omega) (by omega) (by omega)) (fun U r p_h5 => ?_)
  obtain ⟨I_U, G_U, p_h5⟩ := p_h5
  have h6 := ti_eq (G_U 63 8 rfl)
  have PX_U := PX_fr (U := U) PX_S (G_U 63 8 rfl) (fun b => G_U 68 b rfl) (fun b => G_U 69 b rfl)
  exact ⟨I_U, Fr.tr F_S G_U rfl, by omega⟩
theorem s_fX12_name (fu : Nat) (hfu : 1000000000000000000 ≤ fu) (S : St) (I_S : Inv S) : Sf (fX12_name fu S) (fun U r => Inv U ∧ Fr [(63, 1), (63, 6), (63, 9), (63, 11), (64, 0), (65, 0), (66, 0), (67, 0), (68, 0), (69, 0)] S U ∧ (True)) := by
  unfold fX12_name
  have F_S : Fr [(63, 1), (63, 6), (63, 9), (63, 11), (64, 0), (65, 0), (66, 0), (67, 0), (68, 0), (69, 0)] S S := Fr.refl _ _
  refine Sf.b (s_fX12_used fu hfu S I_S) (fun S_1 r_1 p_r_1 => ?_)
  obtain ⟨I_S_1, G_S_1, p_r_1⟩ := p_r_1
  have F_S_1 := Fr.tr F_S G_S_1 rfl
  have h1 := ti_eq (G_S_1 63 5 rfl)
  have h2 := i32 r_1
  refine Sf.b (s_fX12_isText fu hfu r_1 S_1 I_S_1 (by omega) (by omega)) (fun S_8 r_8 p_r_8 => ?_)
  obtain ⟨I_S_8, G_S_8, p_r_8, PX_S_8⟩ := p_r_8
  have F_S_8 := Fr.tr F_S_1 G_S_8 rfl
  have h3 := ti_eq (G_S_8 63 5 rfl)
  have h4 := i32 r_8
  refine Sf.i (fun c_h5 => ?_) (fun c_h5 => ?_)
  · have h6 := eq_iv rfl li_0 c_h5
    unfold fX12_name_19
    have h7 : ((1 : Int32)).toInt = 1 := li_1
    refine Sf.b (s_fX12_throwsIf fu hfu (1 : Int32) (1 : Int32) S_8 I_S_8 (by omega) (by omega)) (fun S_20 r_20 p_r_20 => ?_)
    obtain ⟨I_S_20, G_S_20, p_r_20⟩ := p_r_20
    have F_S_20 := Fr.tr F_S_8 G_S_20 rfl
    have PX_S_20 := PX_fr (U := S_20) PX_S_8 (G_S_20 63 8 rfl) (fun b => G_S_20 68 b rfl) (fun b => G_S_20 69 b rfl)
    have h8 := ti_eq (G_S_20 63 5 rfl)
    have h9 := i32 r_20
    refine Sf.i (fun c_h10 => ?_) (fun c_h10 => ?_)
    · have h11 := eq_iv rfl li_0 c_h10
      refine Sf.bp (s_fX12_missing_70_1040 fu hfu S_20 I_S_20 PX_S_20) (fun r_36 p_r_36 => ?_)
      have h12 := b_63_5 I_S_20
      have h13 := i32 r_36
      try have h14 : (((S_20.1 63 5) + r_36)).toInt = ((S_20.1 63 5)).toInt + (r_36).toInt := add_iv rfl rfl (by omega) (by omega)
      refine Sf.i (fun c_h15 => ?_) (fun c_h15 => ?_)
      · have h16 := le_iv rfl li_300 c_h15
        unfold fX12_name_51
        have h17 : ((0 : Int32)).toInt = 0 := li_0
        have h18 : ((2 : Int32)).toInt = 2 := li_2
        refine Sf.b (s_fX12_throwsIf fu hfu (0 : Int32) (2 : Int32) S_20 I_S_20 (by omega) (by omega)) (fun S_52 r_52 p_r_52 => ?_)
        obtain ⟨I_S_52, G_S_52, p_r_52⟩ := p_r_52
        have F_S_52 := Fr.tr F_S_20 G_S_52 rfl
        have PX_S_52 := PX_fr (U := S_52) PX_S_20 (G_S_52 63 8 rfl) (fun b => G_S_52 68 b rfl) (fun b => G_S_52 69 b rfl)
        have h19 := ti_eq (G_S_52 63 5 rfl)
        have h20 := i32 r_52
        refine Sf.i (fun c_h21 => ?_) (fun c_h21 => ?_)
        · have h22 := eq_iv rfl li_0 c_h21
          refine Sf.b (s_fX12_named_70_1040 fu hfu S_52 I_S_52 PX_S_52) (fun S_65 r_65 p_r_65 => ?_)
          obtain ⟨I_S_65, G_S_65, p_r_65⟩ := p_r_65
          have F_S_65 := Fr.tr F_S_52 G_S_65 rfl
          have PX_S_65 := PX_fr (U := S_65) PX_S_52 (G_S_65 63 8 rfl) (fun b => G_S_65 68 b rfl) (fun b => G_S_65 69 b rfl)
          exact Sf.so ⟨I_S_65, F_S_65, trivial⟩
        · have h23 := neq_iv rfl li_0 c_h21
          exact Sf.so ⟨I_S_52, F_S_52, trivial⟩
      · have h24 := nle_iv rfl li_300 c_h15
        unfold fX12_name_51
        have h25 : ((2 : Int32)).toInt = 2 := li_2
        refine Sf.b (s_fX12_throwsIf fu hfu (1 : Int32) (2 : Int32) S_20 I_S_20 (by omega) (by omega)) (fun S_52 r_52 p_r_52 => ?_)
        obtain ⟨I_S_52, G_S_52, p_r_52⟩ := p_r_52
        have F_S_52 := Fr.tr F_S_20 G_S_52 rfl
        have PX_S_52 := PX_fr (U := S_52) PX_S_20 (G_S_52 63 8 rfl) (fun b => G_S_52 68 b rfl) (fun b => G_S_52 69 b rfl)
        have h26 := ti_eq (G_S_52 63 5 rfl)
        have h27 := i32 r_52
        refine Sf.i (fun c_h28 => ?_) (fun c_h28 => ?_)
        · have h29 := eq_iv rfl li_0 c_h28
          refine Sf.b (s_fX12_named_70_1040 fu hfu S_52 I_S_52 PX_S_52) (fun S_65 r_65 p_r_65 => ?_)
          obtain ⟨I_S_65, G_S_65, p_r_65⟩ := p_r_65
          have F_S_65 := Fr.tr F_S_52 G_S_65 rfl
          have PX_S_65 := PX_fr (U := S_65) PX_S_52 (G_S_65 63 8 rfl) (fun b => G_S_65 68 b rfl) (fun b => G_S_65 69 b rfl)
          exact Sf.so ⟨I_S_65, F_S_65, trivial⟩
        · have h30 := neq_iv rfl li_0 c_h28
          exact Sf.so ⟨I_S_52, F_S_52, trivial⟩
    · have h31 := neq_iv rfl li_0 c_h10
      exact Sf.so ⟨I_S_20, F_S_20, trivial⟩
  · have h32 := neq_iv rfl li_0 c_h5
    unfold fX12_name_19
    have h33 : ((0 : Int32)).toInt = 0 := li_0
    have h34 : ((1 : Int32)).toInt = 1 := li_1
    refine Sf.b (s_fX12_throwsIf fu hfu (0 : Int32) (1 : Int32) S_8 I_S_8 (by omega) (by omega)) (fun S_20 r_20 p_r_20 => ?_)
    obtain ⟨I_S_20, G_S_20, p_r_20⟩ := p_r_20
    have F_S_20 := Fr.tr F_S_8 G_S_20 rfl
    have PX_S_20 := PX_fr (U := S_20) PX_S_8 (G_S_20 63 8 rfl) (fun b => G_S_20 68 b rfl) (fun b => G_S_20 69 b rfl)
    have h35 := ti_eq (G_S_20 63 5 rfl)
    have h36 := i32 r_20
    refine Sf.i (fun c_h37 => ?_) (fun c_h37 => ?_)
    · have h38 := eq_iv rfl li_0 c_h37
      refine Sf.bp (s_fX12_missing_70_1040 fu hfu S_20 I_S_20 PX_S_20) (fun r_36 p_r_36 => ?_)
      have h39 := b_63_5 I_S_20
      have h40 := i32 r_36
      try have h41 : (((S_20.1 63 5) + r_36)).toInt = ((S_20.1 63 5)).toInt + (r_36).toInt := add_iv rfl rfl (by omega) (by omega)
      refine Sf.i (fun c_h42 => ?_) (fun c_h42 => ?_)
      · have h43 := le_iv rfl li_300 c_h42
        unfold fX12_name_51
        have h44 : ((2 : Int32)).toInt = 2 := li_2
        refine Sf.b (s_fX12_throwsIf fu hfu (0 : Int32) (2 : Int32) S_20 I_S_20 (by omega) (by omega)) (fun S_52 r_52 p_r_52 => ?_)
        obtain ⟨I_S_52, G_S_52, p_r_52⟩ := p_r_52
        have F_S_52 := Fr.tr F_S_20 G_S_52 rfl
        have PX_S_52 := PX_fr (U := S_52) PX_S_20 (G_S_52 63 8 rfl) (fun b => G_S_52 68 b rfl) (fun b => G_S_52 69 b rfl)
        have h45 := ti_eq (G_S_52 63 5 rfl)
        have h46 := i32 r_52
        refine Sf.i (fun c_h47 => ?_) (fun c_h47 => ?_)
        · have h48 := eq_iv rfl li_0 c_h47
          refine Sf.b (s_fX12_named_70_1040 fu hfu S_52 I_S_52 PX_S_52) (fun S_65 r_65 p_r_65 => ?_)
          obtain ⟨I_S_65, G_S_65, p_r_65⟩ := p_r_65
          have F_S_65 := Fr.tr F_S_52 G_S_65 rfl
          have PX_S_65 := PX_fr (U := S_65) PX_S_52 (G_S_65 63 8 rfl) (fun b => G_S_65 68 b rfl) (fun b => G_S_65 69 b rfl)
          exact Sf.so ⟨I_S_65, F_S_65, trivial⟩
        · have h49 := neq_iv rfl li_0 c_h47
          exact Sf.so ⟨I_S_52, F_S_52, trivial⟩
      · have h50 := nle_iv rfl li_300 c_h42
        unfold fX12_name_51
        have h51 : ((2 : Int32)).toInt = 2 := li_2
        refine Sf.b (s_fX12_throwsIf fu hfu (1 : Int32) (2 : Int32) S_20 I_S_20 (by omega) (by omega)) (fun S_52 r_52 p_r_52 => ?_)
        obtain ⟨I_S_52, G_S_52, p_r_52⟩ := p_r_52
        have F_S_52 := Fr.tr F_S_20 G_S_52 rfl
        have PX_S_52 := PX_fr (U := S_52) PX_S_20 (G_S_52 63 8 rfl) (fun b => G_S_52 68 b rfl) (fun b => G_S_52 69 b rfl)
        have h52 := ti_eq (G_S_52 63 5 rfl)
        have h53 := i32 r_52
        refine Sf.i (fun c_h54 => ?_) (fun c_h54 => ?_)
        · have h55 := eq_iv rfl li_0 c_h54
          refine Sf.b (s_fX12_named_70_1040 fu hfu S_52 I_S_52 PX_S_52) (fun S_65 r_65 p_r_65 => ?_)
          obtain ⟨I_S_65, G_S_65, p_r_65⟩ := p_r_65
          have F_S_65 := Fr.tr F_S_52 G_S_65 rfl
          have PX_S_65 := PX_fr (U := S_65) PX_S_52 (G_S_65 63 8 rfl) (fun b => G_S_65 68 b rfl) (fun b => G_S_65 69 b rfl)
          exact Sf.so ⟨I_S_65, F_S_65, trivial⟩
        · have h56 := neq_iv rfl li_0 c_h54
          exact Sf.so ⟨I_S_52, F_S_52, trivial⟩
    · have h57 := neq_iv rfl li_0 c_h37
      exact Sf.so ⟨I_S_20, F_S_20, trivial⟩
theorem s_fX12_noName (fu : Nat) (hfu : 1000000000000000000 ≤ fu) (x1 : Int32) (S : St) (I_S : Inv S) : Sp (fX12_noName fu x1 S) S (fun r => ((r.toInt = 0 ∧ 0 ≤ (x1).toInt ∧ (x1).toInt < (S.1 63 5).toInt ∨ r.toInt = 1))) := by
  unfold fX12_noName
  have h1 := i32 x1
  refine Sp.i (fun c_h2 => ?_) (fun c_h2 => ?_)
  · have h3 := lt_iv rfl li_0 c_h2
    unfold fX12_noName_12
    have h4 := b_63_5 I_S
    have h5 : ((1 : Int32)).toInt = 1 := li_1
    exact Sp.so (by omega)
  · have h6 := nlt_iv rfl li_0 c_h2
    have h7 := b_63_5 I_S
    refine Sp.i (fun c_h8 => ?_) (fun c_h8 => ?_)
    · have h9 := lt_iv rfl rfl c_h8
      have h10 := b_63_5 I_S
      have h11 : ((0 : Int32)).toInt = 0 := li_0
      exact Sp.so (by omega)
    · have h12 := nlt_iv rfl rfl c_h8
      unfold fX12_noName_12
      have h13 := b_63_5 I_S
      have h14 : ((1 : Int32)).toInt = 1 := li_1
      exact Sp.so (by omega)
theorem s_fX12_textSize_10 (fu : Nat) (hfu : 1000000000000000000 ≤ fu) : ∀ (n : Nat) (x2 : Int32) (x3 : Int32) (S : St), Inv S → ((x3).toInt ≤ 299) → ((x3).toInt).toNat < n → Sp (fX12_textSize_10 fu n x2 x3 S) S (fun r => True) := by
  intro n
  induction n with
  | zero => intro x2 x3 S I_S g0 hm; exact absurd hm (Nat.not_lt_zero _)
  | succ n ih =>
    intro x2 x3 S I_S g0 hm
    rw [fX12_textSize_10_s]
    have h1 := i32 x3
    refine Sp.i (fun c_h2 => ?_) (fun c_h2 => ?_)
    · have h3 := le_iv rfl li_0 c_h2
      exact Sp.so trivial
    · have h4 := nle_iv rfl li_0 c_h2
      refine Sp.g (ck_iv (by omega) (by omega)) ?_
      refine Sp.g (ck_iv (by omega) (by omega)) ?_
      have h5 := a_66 I_S ((x3).toNatClampNeg)
      have h6 := i32 x2
      try have h7 : (((1 : Int32) + (S.1 66 ((x3).toNatClampNeg)))).toInt = (1) + ((S.1 66 ((x3).toNatClampNeg))).toInt := add_iv li_1 rfl (by omega) (by omega)
      try have h8 : ((x2 + ((1 : Int32) + (S.1 66 ((x3).toNatClampNeg))))).toInt = (x2).toInt + (((1 : Int32) + (S.1 66 ((x3).toNatClampNeg)))).toInt := add_iv rfl rfl (by omega) (by omega)
      try have h9 := cl_iv (x := x3) (by omega)
      have h10 := a_64 I_S ((x3).toNatClampNeg)
      refine Sp.mono (ih (x2 + ((1 : Int32) + (S.1 66 ((x3).toNatClampNeg)))) (S.1 64 ((x3).toNatClampNeg)) S I_S (by omega) (by omega)) (fun r p_h11 => ?_)
      exact trivial
theorem s_fX12_textSize (fu : Nat) (hfu : 1000000000000000000 ≤ fu) (x1 : Int32) (S : St) (I_S : Inv S) (g0 : (x1).toInt ≤ 299) : Sp (fX12_textSize fu x1 S) S (fun r => True) := by
  unfold fX12_textSize
  have h1 := i32 x1
  refine Sp.i (fun c_h2 => ?_) (fun c_h2 => ?_)
  · have h3 := eq_iv rfl li_0 c_h2
    exact Sp.so trivial
  · have h4 := neq_iv rfl li_0 c_h2
    have h5 : ((-1 : Int32)).toInt = -1 := li_m1
    refine Sp.mono (s_fX12_textSize_10 fu hfu fu (-1 : Int32) x1 S I_S (by omega) (by omega)) (fun r p_h6 => ?_)
    exact trivial
theorem s_fX12_look (fu : Nat) (hfu : 1000000000000000000 ≤ fu) (x1 : Int32) (x2 : Int32) (S : St) (I_S : Inv S) : Sf (fX12_look fu x1 x2 S) (fun U r => Inv U ∧ Fr [(63, 1)] S U ∧ (True)) := by
  unfold fX12_look
  have F_S : Fr [(63, 1)] S S := Fr.refl _ _
  refine Sf.w I_S F_S rfl (i32 _).1 (i32 _).2 (fun S_2 I_S_2 F_S_2 v_S_2 f_S_2 l_S_2 => ?_)
  have h1 := ti_eq (f_S_2 63 5 (fun _ e => absurd e (by decide)))
  have h2 := i32 x1
  have h3 := b_63_5 I_S_2
  refine Sf.bp (s_fX12_noName fu hfu x1 S_2 I_S_2) (fun r_8 p_r_8 => ?_)
  have h4 := i32 r_8
  have h5 : ((1 : Int32)).toInt = 1 := li_1
  refine Sf.b (s_fX12_throwsIf fu hfu r_8 (1 : Int32) S_2 I_S_2 (by omega) (by omega)) (fun S_12 r_12 p_r_12 => ?_)
  obtain ⟨I_S_12, G_S_12, p_r_12⟩ := p_r_12
  have F_S_12 := Fr.tr F_S_2 G_S_12 rfl
  have h6 := ti_eq (G_S_12 63 5 rfl)
  have h7 := i32 r_12
  refine Sf.i (fun c_h8 => ?_) (fun c_h8 => ?_)
  · have h9 := eq_iv rfl li_0 c_h8
    have h10 := i32 x2
    refine Sf.i (fun c_h11 => ?_) (fun c_h11 => ?_)
    · have h12 := eq_iv rfl li_0 c_h11
      refine Sf.g (ck_iv (by omega) (by omega)) ?_
      exact Sf.so ⟨I_S_12, F_S_12, trivial⟩
    · have h13 := neq_iv rfl li_0 c_h11
      refine Sf.i (fun c_h14 => ?_) (fun c_h14 => ?_)
      · have h15 := eq_iv rfl li_1 c_h14
        refine Sf.g (ck_iv (by omega) (by omega)) ?_
        exact Sf.so ⟨I_S_12, F_S_12, trivial⟩
      · have h16 := neq_iv rfl li_1 c_h14
        refine Sf.i (fun c_h17 => ?_) (fun c_h17 => ?_)
        · have h18 := eq_iv rfl li_2 c_h17
          refine Sf.bp (s_fX12_textSize fu hfu x1 S_12 I_S_12 (by omega)) (fun r_64 p_r_64 => ?_)
          exact Sf.so ⟨I_S_12, F_S_12, trivial⟩
        · have h19 := neq_iv rfl li_2 c_h17
          refine Sf.w I_S_12 F_S_12 rfl (i32 _).1 (i32 _).2 (fun S_70 I_S_70 F_S_70 v_S_70 f_S_70 l_S_70 => ?_)
          have h20 := ti_eq (f_S_70 63 5 (fun _ e => absurd e (by decide)))
          exact Sf.so ⟨I_S_70, F_S_70, trivial⟩
  · have h21 := neq_iv rfl li_0 c_h8
    exact Sf.so ⟨I_S_12, F_S_12, trivial⟩
