theorem s_fX12_parse (fu : Nat) (hfu : 1000000000000000000 ≤ fu) (S : St) (I_S : Inv S) : Sf (fX12_parse fu S) (fun U r => Inv U ∧ Fr [(63, 1), (63, 6), (63, 9), (63, 11), (63, 31), (63, 32), (63, 33), (63, 34), (63, 35), (63, 36), (63, 37), (63, 43), (63, 45), (64, 0), (65, 0), (66, 0), (67, 0), (68, 0), (69, 0), (85, 0), (86, 0), (87, 0), (88, 0), (89, 0), (90, 0)] S U ∧ (True)) := by
  unfold fX12_parse
  have F_S : Fr [(63, 1), (63, 6), (63, 9), (63, 11), (63, 31), (63, 32), (63, 33), (63, 34), (63, 35), (63, 36), (63, 37), (63, 43), (63, 45), (64, 0), (65, 0), (66, 0), (67, 0), (68, 0), (69, 0), (85, 0), (86, 0), (87, 0), (88, 0), (89, 0), (90, 0)] S S := Fr.refl _ _
  refine Sf.b (s_fX12_used fu hfu S I_S) (fun S_1 r_1 p_r_1 => ?_)
  obtain ⟨I_S_1, G_S_1, p_r_1⟩ := p_r_1
  have F_S_1 := Fr.tr F_S G_S_1 rfl
  have h1 := ti_eq (G_S_1 63 30 rfl)
  have h2 := ti_eq (G_S_1 63 42 rfl)
  have h3 := i32 r_1
  refine Sf.b (s_fX12_reads_70_1040 fu hfu r_1 S_1 I_S_1 (by omega)) (fun S_11 r_11 p_r_11 => ?_)
  obtain ⟨I_S_11, G_S_11, p_r_11, RR_S_11⟩ := p_r_11
  have F_S_11 := Fr.tr F_S_1 G_S_11 rfl
  have h4 := i32 r_11
  refine Sf.i (fun c_h5 => ?_) (fun c_h5 => ?_)
  · have h6 := eq_iv rfl li_0 c_h5
    exact Sf.so ⟨I_S_11, F_S_11, trivial⟩
  · have h7 := neq_iv rfl li_0 c_h5
    have h8 : ((0 : Int32)).toInt = 0 := li_0
    refine Sf.mono (s_fX12_parse_25 fu hfu fu (0 : Int32) S_11 I_S_11 (by omega) (by omega)) (fun U r p_h9 => ?_)
    obtain ⟨I_U, G_U, p_h9⟩ := p_h9
    have h10 := ti_eq (G_U 63 30 rfl)
    have h11 := ti_eq (G_U 63 42 rfl)
    have RR_U := RR_fr (U := U) RR_S_11 (G_U 63 42 rfl) (fun b => G_U 87 b rfl) (fun b => G_U 88 b rfl)
    exact ⟨I_U, Fr.tr F_S_11 G_U rfl, trivial⟩
theorem s_fX12_parsed (fu : Nat) (hfu : 1000000000000000000 ≤ fu) (x1 : Int32) (x2 : Int32) (S : St) (I_S : Inv S) : Sf (fX12_parsed fu x1 x2 S) (fun U r => Inv U ∧ Fr [(63, 1)] S U ∧ (True)) := by
  unfold fX12_parsed
  have F_S : Fr [(63, 1)] S S := Fr.refl _ _
  refine Sf.w I_S F_S rfl (i32 _).1 (i32 _).2 (fun S_2 I_S_2 F_S_2 v_S_2 f_S_2 l_S_2 => ?_)
  have h1 := ti_eq (f_S_2 63 44 (fun _ e => absurd e (by decide)))
  have h2 := i32 x1
  refine Sf.i (fun c_h3 => ?_) (fun c_h3 => ?_)
  · have h4 := lt_iv rfl li_0 c_h3
    unfold fX12_parsed_27
    unfold fX12_parsed_32
    have h5 : ((1 : Int32)).toInt = 1 := li_1
    refine Sf.b (s_fX12_throwsIf fu hfu (1 : Int32) (1 : Int32) S_2 I_S_2 (by omega) (by omega)) (fun S_33 r_33 p_r_33 => ?_)
    obtain ⟨I_S_33, G_S_33, p_r_33⟩ := p_r_33
    have F_S_33 := Fr.tr F_S_2 G_S_33 rfl
    have h6 := ti_eq (G_S_33 63 44 rfl)
    have h7 := i32 r_33
    refine Sf.i (fun c_h8 => ?_) (fun c_h8 => ?_)
    · have h9 := eq_iv rfl li_0 c_h8
      have h10 := i32 x2
      try have h11 : (((5 : Int32) * x1)).toInt = (5) * (x1).toInt := mul_iv li_5 rfl (by omega) (by omega)
      try have h12 : ((((5 : Int32) * x1) + x2)).toInt = (((5 : Int32) * x1)).toInt + (x2).toInt := add_iv rfl rfl (by omega) (by omega)
      refine Sf.g (ck_iv (by omega) (by omega)) ?_
      exact Sf.so ⟨I_S_33, F_S_33, trivial⟩
    · have h13 := neq_iv rfl li_0 c_h8
      exact Sf.so ⟨I_S_33, F_S_33, trivial⟩
  · have h14 := nlt_iv rfl li_0 c_h3
    have h15 := b_63_44 I_S_2
    refine Sf.i (fun c_h16 => ?_) (fun c_h16 => ?_)
    · have h17 := le_iv rfl rfl c_h16
      unfold fX12_parsed_27
      unfold fX12_parsed_32
      have h18 : ((1 : Int32)).toInt = 1 := li_1
      refine Sf.b (s_fX12_throwsIf fu hfu (1 : Int32) (1 : Int32) S_2 I_S_2 (by omega) (by omega)) (fun S_33 r_33 p_r_33 => ?_)
      obtain ⟨I_S_33, G_S_33, p_r_33⟩ := p_r_33
      have F_S_33 := Fr.tr F_S_2 G_S_33 rfl
      have h19 := ti_eq (G_S_33 63 44 rfl)
      have h20 := i32 r_33
      refine Sf.i (fun c_h21 => ?_) (fun c_h21 => ?_)
      · have h22 := eq_iv rfl li_0 c_h21
        have h23 := i32 x2
        try have h24 : (((5 : Int32) * x1)).toInt = (5) * (x1).toInt := mul_iv li_5 rfl (by omega) (by omega)
        try have h25 : ((((5 : Int32) * x1) + x2)).toInt = (((5 : Int32) * x1)).toInt + (x2).toInt := add_iv rfl rfl (by omega) (by omega)
        refine Sf.g (ck_iv (by omega) (by omega)) ?_
        exact Sf.so ⟨I_S_33, F_S_33, trivial⟩
      · have h26 := neq_iv rfl li_0 c_h21
        exact Sf.so ⟨I_S_33, F_S_33, trivial⟩
    · have h27 := nle_iv rfl rfl c_h16
      have h28 := i32 x2
      refine Sf.i (fun c_h29 => ?_) (fun c_h29 => ?_)
      · have h30 := lt_iv rfl li_0 c_h29
        unfold fX12_parsed_27
        unfold fX12_parsed_32
        have h31 : ((1 : Int32)).toInt = 1 := li_1
        refine Sf.b (s_fX12_throwsIf fu hfu (1 : Int32) (1 : Int32) S_2 I_S_2 (by omega) (by omega)) (fun S_33 r_33 p_r_33 => ?_)
        obtain ⟨I_S_33, G_S_33, p_r_33⟩ := p_r_33
        have F_S_33 := Fr.tr F_S_2 G_S_33 rfl
        have h32 := ti_eq (G_S_33 63 44 rfl)
        have h33 := i32 r_33
        refine Sf.i (fun c_h34 => ?_) (fun c_h34 => ?_)
        · have h35 := eq_iv rfl li_0 c_h34
          try have h36 : (((5 : Int32) * x1)).toInt = (5) * (x1).toInt := mul_iv li_5 rfl (by omega) (by omega)
          try have h37 : ((((5 : Int32) * x1) + x2)).toInt = (((5 : Int32) * x1)).toInt + (x2).toInt := add_iv rfl rfl (by omega) (by omega)
          refine Sf.g (ck_iv (by omega) (by omega)) ?_
          exact Sf.so ⟨I_S_33, F_S_33, trivial⟩
        · have h38 := neq_iv rfl li_0 c_h34
          exact Sf.so ⟨I_S_33, F_S_33, trivial⟩
      · have h39 := nlt_iv rfl li_0 c_h29
        refine Sf.i (fun c_h40 => ?_) (fun c_h40 => ?_)
        · have h41 := le_iv rfl li_4 c_h40
          unfold fX12_parsed_32
          have h42 : ((0 : Int32)).toInt = 0 := li_0
          have h43 : ((1 : Int32)).toInt = 1 := li_1
          refine Sf.b (s_fX12_throwsIf fu hfu (0 : Int32) (1 : Int32) S_2 I_S_2 (by omega) (by omega)) (fun S_33 r_33 p_r_33 => ?_)
          obtain ⟨I_S_33, G_S_33, p_r_33⟩ := p_r_33
          have F_S_33 := Fr.tr F_S_2 G_S_33 rfl
          have h44 := ti_eq (G_S_33 63 44 rfl)
          have h45 := i32 r_33
          refine Sf.i (fun c_h46 => ?_) (fun c_h46 => ?_)
          · have h47 := eq_iv rfl li_0 c_h46
            try have h48 : (((5 : Int32) * x1)).toInt = (5) * (x1).toInt := mul_iv li_5 rfl (by omega) (by omega)
            try have h49 : ((((5 : Int32) * x1) + x2)).toInt = (((5 : Int32) * x1)).toInt + (x2).toInt := add_iv rfl rfl (by omega) (by omega)
            refine Sf.g (ck_iv (by omega) (by omega)) ?_
            exact Sf.so ⟨I_S_33, F_S_33, trivial⟩
          · have h50 := neq_iv rfl li_0 c_h46
            exact Sf.so ⟨I_S_33, F_S_33, trivial⟩
        · have h51 := nle_iv rfl li_4 c_h40
          unfold fX12_parsed_27
          unfold fX12_parsed_32
          have h52 : ((1 : Int32)).toInt = 1 := li_1
          refine Sf.b (s_fX12_throwsIf fu hfu (1 : Int32) (1 : Int32) S_2 I_S_2 (by omega) (by omega)) (fun S_33 r_33 p_r_33 => ?_)
          obtain ⟨I_S_33, G_S_33, p_r_33⟩ := p_r_33
          have F_S_33 := Fr.tr F_S_2 G_S_33 rfl
          have h53 := ti_eq (G_S_33 63 44 rfl)
          have h54 := i32 r_33
          refine Sf.i (fun c_h55 => ?_) (fun c_h55 => ?_)
          · have h56 := eq_iv rfl li_0 c_h55
            try have h57 : (((5 : Int32) * x1)).toInt = (5) * (x1).toInt := mul_iv li_5 rfl (by omega) (by omega)
            try have h58 : ((((5 : Int32) * x1) + x2)).toInt = (((5 : Int32) * x1)).toInt + (x2).toInt := add_iv rfl rfl (by omega) (by omega)
            refine Sf.g (ck_iv (by omega) (by omega)) ?_
            exact Sf.so ⟨I_S_33, F_S_33, trivial⟩
          · have h59 := neq_iv rfl li_0 c_h55
            exact Sf.so ⟨I_S_33, F_S_33, trivial⟩
theorem s_fX12_result (fu : Nat) (hfu : 1000000000000000000 ≤ fu) (x1 : Int32) (S : St) (I_S : Inv S) : Sf (fX12_result fu x1 S) (fun U r => Inv U ∧ Fr [(63, 1)] S U ∧ (True)) := by
  unfold fX12_result
  have F_S : Fr [(63, 1)] S S := Fr.refl _ _
  refine Sf.w I_S F_S rfl (i32 _).1 (i32 _).2 (fun S_2 I_S_2 F_S_2 v_S_2 f_S_2 l_S_2 => ?_)
  have h1 := ti_eq (f_S_2 63 63 (fun _ e => absurd e (by decide)))
  have h2 := ti_eq (f_S_2 63 65 (fun _ e => absurd e (by decide)))
  have h3 := ti_eq (f_S_2 63 71 (fun _ e => absurd e (by decide)))
  have h4 := i32 x1
  refine Sf.i (fun c_h5 => ?_) (fun c_h5 => ?_)
  · have h6 := eq_iv rfl li_0 c_h5
    exact Sf.so ⟨I_S_2, F_S_2, trivial⟩
  · have h7 := neq_iv rfl li_0 c_h5
    refine Sf.i (fun c_h8 => ?_) (fun c_h8 => ?_)
    · have h9 := eq_iv rfl li_1 c_h8
      refine Sf.i (fun c_h10 => ?_) (fun c_h10 => ?_)
      · have h11 := eq_iv rfl li_0 c_h10
        exact Sf.so ⟨I_S_2, F_S_2, trivial⟩
      · have h12 := neq_iv rfl li_0 c_h10
        exact Sf.so ⟨I_S_2, F_S_2, trivial⟩
    · have h13 := neq_iv rfl li_1 c_h8
      refine Sf.i (fun c_h14 => ?_) (fun c_h14 => ?_)
      · have h15 := eq_iv rfl li_2 c_h14
        refine Sf.i (fun c_h16 => ?_) (fun c_h16 => ?_)
        · have h17 := eq_iv rfl li_5 c_h16
          exact Sf.so ⟨I_S_2, F_S_2, trivial⟩
        · have h18 := neq_iv rfl li_5 c_h16
          refine Sf.g (by decide) ?_
          exact Sf.so ⟨I_S_2, F_S_2, trivial⟩
      · have h19 := neq_iv rfl li_2 c_h14
        refine Sf.i (fun c_h20 => ?_) (fun c_h20 => ?_)
        · have h21 := eq_iv rfl li_3 c_h20
          refine Sf.i (fun c_h22 => ?_) (fun c_h22 => ?_)
          · have h23 := eq_iv rfl li_5 c_h22
            exact Sf.so ⟨I_S_2, F_S_2, trivial⟩
          · have h24 := neq_iv rfl li_5 c_h22
            refine Sf.g (by decide) ?_
            exact Sf.so ⟨I_S_2, F_S_2, trivial⟩
        · have h25 := neq_iv rfl li_3 c_h20
          refine Sf.i (fun c_h26 => ?_) (fun c_h26 => ?_)
          · have h27 := eq_iv rfl li_4 c_h26
            exact Sf.so ⟨I_S_2, F_S_2, trivial⟩
          · have h28 := neq_iv rfl li_4 c_h26
            refine Sf.w I_S_2 F_S_2 rfl (i32 _).1 (i32 _).2 (fun S_106 I_S_106 F_S_106 v_S_106 f_S_106 l_S_106 => ?_)
            have h29 := ti_eq (f_S_106 63 63 (fun _ e => absurd e (by decide)))
            have h30 := ti_eq (f_S_106 63 65 (fun _ e => absurd e (by decide)))
            have h31 := ti_eq (f_S_106 63 71 (fun _ e => absurd e (by decide)))
            exact Sf.so ⟨I_S_106, F_S_106, trivial⟩
theorem s_fX12_data (fu : Nat) (hfu : 1000000000000000000 ≤ fu) (x1 : Int32) (S : St) (I_S : Inv S) : Sf (fX12_data fu x1 S) (fun U r => Inv U ∧ Fr [(63, 1)] S U ∧ (True)) := by
  unfold fX12_data
  have F_S : Fr [(63, 1)] S S := Fr.refl _ _
  refine Sf.w I_S F_S rfl (i32 _).1 (i32 _).2 (fun S_2 I_S_2 F_S_2 v_S_2 f_S_2 l_S_2 => ?_)
  have h1 := ti_eq (f_S_2 63 63 (fun _ e => absurd e (by decide)))
  have h2 := ti_eq (f_S_2 63 71 (fun _ e => absurd e (by decide)))
  refine Sf.i (fun c_h3 => ?_) (fun c_h3 => ?_)
  · have h4 := eq_iv rfl li_0 c_h3
    have h5 := i32 x1
    refine Sf.i (fun c_h6 => ?_) (fun c_h6 => ?_)
    · have h7 := lt_iv rfl li_0 c_h6
      unfold fX12_data_24
      exact Sf.so ⟨I_S_2, F_S_2, trivial⟩
    · have h8 := nlt_iv rfl li_0 c_h6
      have h9 := b_63_71 I_S_2
      refine Sf.i (fun c_h10 => ?_) (fun c_h10 => ?_)
      · have h11 := lt_iv rfl rfl c_h10
        refine Sf.g (ck_iv (by omega) (by omega)) ?_
        exact Sf.so ⟨I_S_2, F_S_2, trivial⟩
      · have h12 := nlt_iv rfl rfl c_h10
        unfold fX12_data_24
        exact Sf.so ⟨I_S_2, F_S_2, trivial⟩
  · have h13 := neq_iv rfl li_0 c_h3
    unfold fX12_data_24
    exact Sf.so ⟨I_S_2, F_S_2, trivial⟩
theorem s_fX12_count (fu : Nat) (hfu : 1000000000000000000 ≤ fu) (x1 : Int32) (S : St) (I_S : Inv S) : Sf (fX12_count fu x1 S) (fun U r => Inv U ∧ Fr [(63, 1)] S U ∧ (True)) := by
  unfold fX12_count
  have F_S : Fr [(63, 1)] S S := Fr.refl _ _
  refine Sf.w I_S F_S rfl (i32 _).1 (i32 _).2 (fun S_2 I_S_2 F_S_2 v_S_2 f_S_2 l_S_2 => ?_)
  have h1 := ti_eq (f_S_2 63 5 (fun _ e => absurd e (by decide)))
  have h2 := ti_eq (f_S_2 63 10 (fun _ e => absurd e (by decide)))
  have h3 := ti_eq (f_S_2 63 14 (fun _ e => absurd e (by decide)))
  have h4 := ti_eq (f_S_2 63 20 (fun _ e => absurd e (by decide)))
  have h5 := ti_eq (f_S_2 63 23 (fun _ e => absurd e (by decide)))
  have h6 := ti_eq (f_S_2 63 25 (fun _ e => absurd e (by decide)))
  have h7 := ti_eq (f_S_2 63 50 (fun _ e => absurd e (by decide)))
  have h8 := ti_eq (f_S_2 63 51 (fun _ e => absurd e (by decide)))
  have h9 := ti_eq (f_S_2 63 66 (fun _ e => absurd e (by decide)))
  have h10 := i32 x1
  refine Sf.i (fun c_h11 => ?_) (fun c_h11 => ?_)
  · have h12 := eq_iv rfl li_0 c_h11
    exact Sf.so ⟨I_S_2, F_S_2, trivial⟩
  · have h13 := neq_iv rfl li_0 c_h11
    refine Sf.i (fun c_h14 => ?_) (fun c_h14 => ?_)
    · have h15 := eq_iv rfl li_1 c_h14
      exact Sf.so ⟨I_S_2, F_S_2, trivial⟩
    · have h16 := neq_iv rfl li_1 c_h14
      refine Sf.i (fun c_h17 => ?_) (fun c_h17 => ?_)
      · have h18 := eq_iv rfl li_2 c_h17
        exact Sf.so ⟨I_S_2, F_S_2, trivial⟩
      · have h19 := neq_iv rfl li_2 c_h17
        refine Sf.i (fun c_h20 => ?_) (fun c_h20 => ?_)
        · have h21 := eq_iv rfl li_3 c_h20
          exact Sf.so ⟨I_S_2, F_S_2, trivial⟩
        · have h22 := neq_iv rfl li_3 c_h20
          refine Sf.i (fun c_h23 => ?_) (fun c_h23 => ?_)
          · have h24 := eq_iv rfl li_4 c_h23
            exact Sf.so ⟨I_S_2, F_S_2, trivial⟩
          · have h25 := neq_iv rfl li_4 c_h23
            refine Sf.i (fun c_h26 => ?_) (fun c_h26 => ?_)
            · have h27 := eq_iv rfl li_5 c_h26
              exact Sf.so ⟨I_S_2, F_S_2, trivial⟩
            · have h28 := neq_iv rfl li_5 c_h26
              refine Sf.i (fun c_h29 => ?_) (fun c_h29 => ?_)
              · have h30 := eq_iv rfl li_6 c_h29
                exact Sf.so ⟨I_S_2, F_S_2, trivial⟩
              · have h31 := neq_iv rfl li_6 c_h29
                refine Sf.i (fun c_h32 => ?_) (fun c_h32 => ?_)
                · have h33 := eq_iv rfl li_7 c_h32
                  exact Sf.so ⟨I_S_2, F_S_2, trivial⟩
                · have h34 := neq_iv rfl li_7 c_h32
                  refine Sf.i (fun c_h35 => ?_) (fun c_h35 => ?_)
                  · have h36 := eq_iv rfl li_8 c_h35
                    exact Sf.so ⟨I_S_2, F_S_2, trivial⟩
                  · have h37 := neq_iv rfl li_8 c_h35
                    exact Sf.so ⟨I_S_2, F_S_2, trivial⟩
theorem s_fX12_find_5 (fu : Nat) (hfu : 1000000000000000000 ≤ fu) : ∀ (n : Nat) (x1 : Int32) (x2 : Int32) (x3 : Int32) (x4 : Int32) (S : St), Inv S → (-1 ≤ (x3).toInt) → ((x3).toInt < (S.1 63 50).toInt) → (0 ≤ (x4).toInt) → ((0 ≤ (x3).toInt → (S.1 92 ((x3).toNatClampNeg)).toInt = (x2).toInt)) → (100 - (x4).toInt).toNat < n → Sp (fX12_find_5 fu n x1 x2 x3 x4 S) S (fun r => (-1 ≤ r.toInt) ∧ (r.toInt < (S.1 63 50).toInt) ∧ ((0 ≤ r.toInt → (S.1 92 (r.toNatClampNeg)).toInt = (x2).toInt))) := by
  intro n
  induction n with
  | zero => intro x1 x2 x3 x4 S I_S g0 g1 g2 g3 hm; exact absurd hm (Nat.not_lt_zero _)
  | succ n ih =>
    intro x1 x2 x3 x4 S I_S g0 g1 g2 g3 hm
    rw [fX12_find_5_s]
    have h1 := b_63_50 I_S
    have h2 := b_63_50 I_S
    have h3 := i32 x4
    refine Sp.i (fun c_h4 => ?_) (fun c_h4 => ?_)
    · have h5 := le_iv rfl rfl c_h4
      have h6 := i32 x3
      have h7 := b_63_50 I_S
      exact Sp.so (by omega)
    · have h8 := nle_iv rfl rfl c_h4
      refine Sp.g (ck_iv (by omega) (by omega)) ?_
      have h9 := i32 x1
      refine Sp.i (fun c_h10 => ?_) (fun c_h10 => ?_)
      · have h11 := eq_iv rfl rfl c_h10
        refine Sp.g (ck_iv (by omega) (by omega)) ?_
        have h12 := i32 x2
        refine Sp.i (fun c_h13 => ?_) (fun c_h13 => ?_)
        · have h14 := eq_iv rfl rfl c_h13
          refine Sp.g (ck_iv (by omega) (by omega)) ?_
          refine Sp.i (fun c_h15 => ?_) (fun c_h15 => ?_)
          · have h16 := le_iv li_0 rfl c_h15
            unfold fX12_find_55
            have h17 := i32 x3
            try have h18 : ((x4 + (1 : Int32))).toInt = (x4).toInt + (1) := add_iv rfl li_1 (by omega) (by omega)
            refine Sp.mono (ih x1 x2 x3 (x4 + (1 : Int32)) S I_S (by omega) (by omega) (by omega) (by omega) (by omega)) (fun r p_h19 => ?_)
            exact by omega
          · have h20 := nle_iv li_0 rfl c_h15
            unfold fX12_find_55
            try have h21 : ((x4 + (1 : Int32))).toInt = (x4).toInt + (1) := add_iv rfl li_1 (by omega) (by omega)
            refine Sp.mono (ih x1 x2 x4 (x4 + (1 : Int32)) S I_S (by omega) (by omega) (by omega) (by omega) (by omega)) (fun r p_h22 => ?_)
            exact by omega
        · have h23 := neq_iv rfl rfl c_h13
          unfold fX12_find_55
          have h24 := i32 x3
          try have h25 : ((x4 + (1 : Int32))).toInt = (x4).toInt + (1) := add_iv rfl li_1 (by omega) (by omega)
          refine Sp.mono (ih x1 x2 x3 (x4 + (1 : Int32)) S I_S (by omega) (by omega) (by omega) (by omega) (by omega)) (fun r p_h26 => ?_)
          exact by omega
      · have h27 := neq_iv rfl rfl c_h10
        unfold fX12_find_55
        have h28 := i32 x2
        have h29 := i32 x3
        try have h30 : ((x4 + (1 : Int32))).toInt = (x4).toInt + (1) := add_iv rfl li_1 (by omega) (by omega)
        refine Sp.mono (ih x1 x2 x3 (x4 + (1 : Int32)) S I_S (by omega) (by omega) (by omega) (by omega) (by omega)) (fun r p_h31 => ?_)
        exact by omega
theorem s_fX12_find (fu : Nat) (hfu : 1000000000000000000 ≤ fu) (x1 : Int32) (x2 : Int32) (S : St) (I_S : Inv S) : Sp (fX12_find fu x1 x2 S) S (fun r => (-1 ≤ r.toInt) ∧ (r.toInt < (S.1 63 50).toInt) ∧ ((0 ≤ r.toInt → (S.1 92 (r.toNatClampNeg)).toInt = (x2).toInt))) := by
  unfold fX12_find
  have h1 := i32 x1
  have h2 := i32 x2
  have h3 : ((-1 : Int32)).toInt = -1 := li_m1
  have h4 : ((0 : Int32)).toInt = 0 := li_0
  have h5 := b_63_50 I_S
  refine Sp.mono (s_fX12_find_5 fu hfu fu x1 x2 (-1 : Int32) (0 : Int32) S I_S (by omega) (by omega) (by omega) (by omega) (by omega)) (fun r p_h6 => ?_)
  exact by omega
theorem s_fX12_cached (fu : Nat) (hfu : 1000000000000000000 ≤ fu) (x1 : Int32) (x2 : Int32) (S : St) (I_S : Inv S) : Sf (fX12_cached fu x1 x2 S) (fun U r => Inv U ∧ Fr [(63, 1)] S U ∧ (True)) := by
  unfold fX12_cached
  have F_S : Fr [(63, 1)] S S := Fr.refl _ _
  refine Sf.w I_S F_S rfl (i32 _).1 (i32 _).2 (fun S_2 I_S_2 F_S_2 v_S_2 f_S_2 l_S_2 => ?_)
  have h1 := ti_eq (f_S_2 63 5 (fun _ e => absurd e (by decide)))
  have h2 := ti_eq (f_S_2 63 50 (fun _ e => absurd e (by decide)))
  have h3 := i32 x1
  have h4 := b_63_5 I_S_2
  refine Sf.bp (s_fX12_noName fu hfu x1 S_2 I_S_2) (fun r_8 p_r_8 => ?_)
  have h5 := i32 r_8
  have h6 : ((1 : Int32)).toInt = 1 := li_1
  refine Sf.b (s_fX12_throwsIf fu hfu r_8 (1 : Int32) S_2 I_S_2 (by omega) (by omega)) (fun S_12 r_12 p_r_12 => ?_)
  obtain ⟨I_S_12, G_S_12, p_r_12⟩ := p_r_12
  have F_S_12 := Fr.tr F_S_2 G_S_12 rfl
  have h7 := ti_eq (G_S_12 63 5 rfl)
  have h8 := ti_eq (G_S_12 63 50 rfl)
  have h9 := i32 r_12
  refine Sf.i (fun c_h10 => ?_) (fun c_h10 => ?_)
  · have h11 := eq_iv rfl li_0 c_h10
    have h12 := i32 x2
    have h13 := b_63_50 I_S_12
    refine Sf.bp (s_fX12_find fu hfu x1 x2 S_12 I_S_12) (fun r_23 p_r_23 => ?_)
    have h14 := i32 r_23
    refine Sf.i (fun c_h15 => ?_) (fun c_h15 => ?_)
    · have h16 := le_iv li_0 rfl c_h15
      refine Sf.g (ck_iv (by omega) (by omega)) ?_
      exact Sf.so ⟨I_S_12, F_S_12, trivial⟩
    · have h17 := nle_iv li_0 rfl c_h15
      exact Sf.so ⟨I_S_12, F_S_12, trivial⟩
  · have h18 := neq_iv rfl li_0 c_h10
    exact Sf.so ⟨I_S_12, F_S_12, trivial⟩
