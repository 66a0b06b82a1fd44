theorem s_fX12_text_47 (fu : Nat) (hfu : 1000000000000000000 ≤ fu) : ∀ (n : Nat) (x3 : Int32) (x4 : Int32) (S : St), Inv S → (0 ≤ (x3).toInt) → ((x4).toInt ≤ 299) → ((x4).toInt).toNat < n → Sp (fX12_text_47 fu n x3 x4 S) S (fun r => True) := by
  intro n
  induction n with
  | zero => intro x3 x4 S I_S g0 g1 hm; exact absurd hm (Nat.not_lt_zero _)
  | succ n ih =>
    intro x3 x4 S I_S g0 g1 hm
    rw [fX12_text_47_s]
    have h1 := i32 x4
    refine Sp.i (fun c_h2 => ?_) (fun c_h2 => ?_)
    · have h3 := le_iv rfl li_0 c_h2
      exact Sp.so trivial
    · have h4 := nle_iv rfl li_0 c_h2
      refine Sp.g (ck_iv (by omega) (by omega)) ?_
      have h5 := a_66 I_S ((x4).toNatClampNeg)
      have h6 := i32 x3
      refine Sp.i (fun c_h7 => ?_) (fun c_h7 => ?_)
      · have h8 := le_iv rfl rfl c_h7
        refine Sp.g (ck_iv (by omega) (by omega)) ?_
        refine Sp.i (fun c_h9 => ?_) (fun c_h9 => ?_)
        · have h10 := eq_iv rfl rfl c_h9
          exact Sp.so trivial
        · have h11 := neq_iv rfl rfl c_h9
          refine Sp.g (ck_iv (by omega) (by omega)) ?_
          refine Sp.g (ck_iv (by omega) (by omega)) ?_
          try have h12 : (((S.1 66 ((x4).toNatClampNeg)) + (1 : Int32))).toInt = ((S.1 66 ((x4).toNatClampNeg))).toInt + (1) := add_iv rfl li_1 (by omega) (by omega)
          try have h13 : ((x3 - ((S.1 66 ((x4).toNatClampNeg)) + (1 : Int32)))).toInt = (x3).toInt - (((S.1 66 ((x4).toNatClampNeg)) + (1 : Int32))).toInt := sub_iv rfl rfl (by omega) (by omega)
          try have h14 := cl_iv (x := x4) (by omega)
          have h15 := a_64 I_S ((x4).toNatClampNeg)
          refine Sp.mono (ih (x3 - ((S.1 66 ((x4).toNatClampNeg)) + (1 : Int32))) (S.1 64 ((x4).toNatClampNeg)) S I_S (by omega) (by omega) (by omega)) (fun r p_h16 => ?_)
          exact trivial
      · have h17 := nle_iv rfl rfl c_h7
        try have h18 : (((10 : Int32) * x4)).toInt = (10) * (x4).toInt := mul_iv li_10 rfl (by omega) (by omega)
        try have h19 : ((((10 : Int32) * x4) + x3)).toInt = (((10 : Int32) * x4)).toInt + (x3).toInt := add_iv rfl rfl (by omega) (by omega)
        refine Sp.g (ck_iv (by omega) (by omega)) ?_
        exact Sp.so trivial
theorem s_fX12_text (fu : Nat) (hfu : 1000000000000000000 ≤ fu) (x1 : Int32) (x2 : Int32) (S : St) (I_S : Inv S) : Sf (fX12_text fu x1 x2 S) (fun U r => Inv U ∧ Fr [(63, 1)] S U ∧ (True)) := by
  unfold fX12_text
  have F_S : Fr [(63, 1)] S S := Fr.refl _ _
  refine Sf.w I_S F_S rfl (i32 _).1 (i32 _).2 (fun S_2 I_S_2 F_S_2 v_S_2 f_S_2 l_S_2 => ?_)
  have h1 := ti_eq (f_S_2 63 5 (fun _ e => absurd e (by decide)))
  have h2 := i32 x1
  have h3 := b_63_5 I_S_2
  refine Sf.bp (s_fX12_noName fu hfu x1 S_2 I_S_2) (fun r_8 p_r_8 => ?_)
  have h4 := i32 r_8
  have h5 : ((1 : Int32)).toInt = 1 := li_1
  refine Sf.b (s_fX12_throwsIf fu hfu r_8 (1 : Int32) S_2 I_S_2 (by omega) (by omega)) (fun S_12 r_12 p_r_12 => ?_)
  obtain ⟨I_S_12, G_S_12, p_r_12⟩ := p_r_12
  have F_S_12 := Fr.tr F_S_2 G_S_12 rfl
  have h6 := ti_eq (G_S_12 63 5 rfl)
  have h7 := i32 r_12
  refine Sf.i (fun c_h8 => ?_) (fun c_h8 => ?_)
  · have h9 := eq_iv rfl li_0 c_h8
    have h10 := i32 x2
    refine Sf.i (fun c_h11 => ?_) (fun c_h11 => ?_)
    · have h12 := lt_iv rfl li_0 c_h11
      exact Sf.so ⟨I_S_12, F_S_12, trivial⟩
    · have h13 := nlt_iv rfl li_0 c_h11
      refine Sf.bp (s_fX12_textSize fu hfu x1 S_12 I_S_12 (by omega)) (fun r_27 p_r_27 => ?_)
      have h14 := i32 r_27
      refine Sf.i (fun c_h15 => ?_) (fun c_h15 => ?_)
      · have h16 := lt_iv rfl rfl c_h15
        refine Sf.i (fun c_h17 => ?_) (fun c_h17 => ?_)
        · have h18 := eq_iv rfl li_0 c_h17
          exact Sf.so ⟨I_S_12, F_S_12, trivial⟩
        · have h19 := neq_iv rfl li_0 c_h17
          refine Sp.sf (s_fX12_text_47 fu hfu fu x2 x1 S_12 I_S_12 (by omega) (by omega) (by omega)) (fun r p_h20 => ?_)
          exact ⟨I_S_12, F_S_12, trivial⟩
      · have h21 := nlt_iv rfl rfl c_h15
        exact Sf.so ⟨I_S_12, F_S_12, trivial⟩
  · have h22 := neq_iv rfl li_0 c_h8
    exact Sf.so ⟨I_S_12, F_S_12, trivial⟩
theorem s_fX12_isLife (fu : Nat) (hfu : 1000000000000000000 ≤ fu) (x0 : Int32) (S : St) (I_S : Inv S) : Sp (fX12_isLife fu x0 S) S (fun r => (0 ≤ r.toInt) ∧ (r.toInt ≤ 1)) := by
  unfold fX12_isLife
  have h1 := i32 x0
  refine Sp.i (fun c_h2 => ?_) (fun c_h2 => ?_)
  · have h3 := lt_iv rfl li_1 c_h2
    have h4 : ((0 : Int32)).toInt = 0 := li_0
    exact Sp.so (by omega)
  · have h5 := nlt_iv rfl li_1 c_h2
    refine Sp.i (fun c_h6 => ?_) (fun c_h6 => ?_)
    · have h7 := lt_iv li_100000 rfl c_h6
      have h8 : ((0 : Int32)).toInt = 0 := li_0
      exact Sp.so (by omega)
    · have h9 := nlt_iv li_100000 rfl c_h6
      have h10 : ((1 : Int32)).toInt = 1 := li_1
      exact Sp.so (by omega)
theorem s_fX12_zone_28 (fu : Nat) (hfu : 1000000000000000000 ≤ fu) : ∀ (n : Nat) (x1 : Int32) (x2 : Int32) (x3 : Int32) (x4 : Int32) (S : St), Inv S → (0 ≤ (x1).toInt) → ((x1).toInt ≤ 299) → (0 ≤ (x4).toInt) → (0 ≤ (x3).toInt) → ((x3).toInt ≤ 1) → (12 - (x4).toInt).toNat < n → Sf (fX12_zone_28 fu n x1 x2 x3 x4 S) (fun U r => Inv U ∧ Fr [(63, 1), (63, 15), (72, 0), (73, 0)] S U ∧ (True)) := by
  intro n
  induction n with
  | zero => intro x1 x2 x3 x4 S I_S g0 g1 g2 g3 g4 hm; exact absurd hm (Nat.not_lt_zero _)
  | succ n ih =>
    intro x1 x2 x3 x4 S I_S g0 g1 g2 g3 g4 hm
    rw [fX12_zone_28_s]
    have F_S : Fr [(63, 1), (63, 15), (72, 0), (73, 0)] S S := Fr.refl _ _
    have h1 := b_63_14 I_S
    have h2 := i32 x4
    refine Sf.i (fun c_h3 => ?_) (fun c_h3 => ?_)
    · have h4 := le_iv rfl rfl c_h3
      have h5 := i32 x3
      refine Sf.i (fun c_h6 => ?_) (fun c_h6 => ?_)
      · have h7 := eq_iv rfl li_0 c_h6
        unfold fX12_zone_74
        have h8 : ((1 : Int32)).toInt = 1 := li_1
        have h9 : ((2 : Int32)).toInt = 2 := li_2
        refine Sf.b (s_fX12_throwsIf fu hfu (1 : Int32) (2 : Int32) S I_S (by omega) (by omega)) (fun S_75 r_75 p_r_75 => ?_)
        obtain ⟨I_S_75, G_S_75, p_r_75⟩ := p_r_75
        have F_S_75 := Fr.tr F_S G_S_75 rfl
        have h10 := ti_eq (G_S_75 63 14 rfl)
        have h11 := i32 r_75
        refine Sf.i (fun c_h12 => ?_) (fun c_h12 => ?_)
        · have h13 := eq_iv rfl li_0 c_h12
          have h14 := b_63_14 I_S_75
          refine Sf.i (fun c_h15 => ?_) (fun c_h15 => ?_)
          · have h16 := eq_iv rfl li_12 c_h15
            unfold fX12_zone_96
            have h17 : ((3 : Int32)).toInt = 3 := li_3
            refine Sf.b (s_fX12_throwsIf fu hfu (1 : Int32) (3 : Int32) S_75 I_S_75 (by omega) (by omega)) (fun S_97 r_97 p_r_97 => ?_)
            obtain ⟨I_S_97, G_S_97, p_r_97⟩ := p_r_97
            have F_S_97 := Fr.tr F_S_75 G_S_97 rfl
            have h18 := ti_eq (G_S_97 63 14 rfl)
            have h19 := i32 r_97
            refine Sf.i (fun c_h20 => ?_) (fun c_h20 => ?_)
            · have h21 := eq_iv rfl li_0 c_h20
              have h22 := b_63_14 I_S_97
              refine Sf.g (ck_iv (by omega) (by omega)) ?_
              have h23 := i32 x1
              refine Sf.w I_S_97 F_S_97 rfl (show ((0) : Int) ≤ (x1).toInt by omega) (show (x1).toInt ≤ (299 : Int) by omega) (fun S_114 I_S_114 F_S_114 v_S_114 f_S_114 l_S_114 => ?_)
              have h24 := ti_eq (f_S_114 63 14 (fun e => absurd e (by decide)))
              have h25 : (S_114.1 72 (((S_97.1 63 14)).toNatClampNeg)).toInt = (x1).toInt := eq_iv rfl rfl v_S_114
              have h26 : (S_114.1 72 (((S_114.1 63 14)).toNatClampNeg)).toInt = (x1).toInt := by rw [f_S_114 63 14 (fun e => absurd e (by decide))]; exact eq_iv rfl rfl v_S_114
              have h27 := b_63_14 I_S_114
              refine Sf.g (ck_iv (by omega) (by omega)) ?_
              have h28 := i32 x2
              refine Sf.w I_S_114 F_S_114 rfl (i32 _).1 (i32 _).2 (fun S_124 I_S_124 F_S_124 v_S_124 f_S_124 l_S_124 => ?_)
              have h29 := ti_eq (f_S_124 63 14 (fun e => absurd e (by decide)))
              have h30 : (S_124.1 73 (((S_114.1 63 14)).toNatClampNeg)).toInt = (x2).toInt := eq_iv rfl rfl v_S_124
              have h31 : (S_124.1 73 (((S_124.1 63 14)).toNatClampNeg)).toInt = (x2).toInt := by rw [f_S_124 63 14 (fun e => absurd e (by decide))]; exact eq_iv rfl rfl v_S_124
              have h32 : (S_124.1 72 (((S_114.1 63 14)).toNatClampNeg)).toInt = (S_114.1 72 (((S_114.1 63 14)).toNatClampNeg)).toInt := ti_eq (f_S_124 72 (((S_114.1 63 14)).toNatClampNeg) (fun e => absurd e (by decide)))
              have h33 : (S_124.1 72 (((S_124.1 63 14)).toNatClampNeg)).toInt = (S_114.1 72 (((S_114.1 63 14)).toNatClampNeg)).toInt := by rw [f_S_124 63 14 (fun e => absurd e (by decide))]; exact ti_eq (f_S_124 72 (((S_114.1 63 14)).toNatClampNeg) (fun e => absurd e (by decide)))
              have h34 : (S_124.1 72 (((S_97.1 63 14)).toNatClampNeg)).toInt = (S_114.1 72 (((S_97.1 63 14)).toNatClampNeg)).toInt := ti_eq (f_S_124 72 (((S_97.1 63 14)).toNatClampNeg) (fun e => absurd e (by decide)))
              have h35 := b_63_14 I_S_124
              try have h36 : (((S_124.1 63 14) + (1 : Int32))).toInt = ((S_124.1 63 14)).toInt + (1) := add_iv rfl li_1 (by omega) (by omega)
              refine Sf.w I_S_124 F_S_124 rfl (show ((0) : Int) ≤ (((S_124.1 63 14) + (1 : Int32))).toInt by omega) (show (((S_124.1 63 14) + (1 : Int32))).toInt ≤ (12 : Int) by omega) (fun S_132 I_S_132 F_S_132 v_S_132 f_S_132 l_S_132 => ?_)
              have h37 := eq_iv rfl rfl v_S_132
              have h38 : (S_132.1 72 (((S_114.1 63 14)).toNatClampNeg)).toInt = (S_124.1 72 (((S_114.1 63 14)).toNatClampNeg)).toInt := ti_eq (f_S_132 72 (((S_114.1 63 14)).toNatClampNeg) (fun e => absurd e (by decide)))
              have h39 : (S_132.1 72 (((S_124.1 63 14)).toNatClampNeg)).toInt = (S_124.1 72 (((S_124.1 63 14)).toNatClampNeg)).toInt := ti_eq (f_S_132 72 (((S_124.1 63 14)).toNatClampNeg) (fun e => absurd e (by decide)))
              have h40 : (S_132.1 72 (((S_97.1 63 14)).toNatClampNeg)).toInt = (S_124.1 72 (((S_97.1 63 14)).toNatClampNeg)).toInt := ti_eq (f_S_132 72 (((S_97.1 63 14)).toNatClampNeg) (fun e => absurd e (by decide)))
              have h41 : (S_132.1 73 (((S_114.1 63 14)).toNatClampNeg)).toInt = (S_124.1 73 (((S_114.1 63 14)).toNatClampNeg)).toInt := ti_eq (f_S_132 73 (((S_114.1 63 14)).toNatClampNeg) (fun e => absurd e (by decide)))
              have h42 : (S_132.1 73 (((S_124.1 63 14)).toNatClampNeg)).toInt = (S_124.1 73 (((S_124.1 63 14)).toNatClampNeg)).toInt := ti_eq (f_S_132 73 (((S_124.1 63 14)).toNatClampNeg) (fun e => absurd e (by decide)))
              exact Sf.so ⟨I_S_132, F_S_132, trivial⟩
            · have h43 := neq_iv rfl li_0 c_h20
              exact Sf.so ⟨I_S_97, F_S_97, trivial⟩
          · have h44 := neq_iv rfl li_12 c_h15
            unfold fX12_zone_96
            have h45 : ((0 : Int32)).toInt = 0 := li_0
            have h46 : ((3 : Int32)).toInt = 3 := li_3
            refine Sf.b (s_fX12_throwsIf fu hfu (0 : Int32) (3 : Int32) S_75 I_S_75 (by omega) (by omega)) (fun S_97 r_97 p_r_97 => ?_)
            obtain ⟨I_S_97, G_S_97, p_r_97⟩ := p_r_97
            have F_S_97 := Fr.tr F_S_75 G_S_97 rfl
            have h47 := ti_eq (G_S_97 63 14 rfl)
            have h48 := i32 r_97
            refine Sf.i (fun c_h49 => ?_) (fun c_h49 => ?_)
            · have h50 := eq_iv rfl li_0 c_h49
              have h51 := b_63_14 I_S_97
              refine Sf.g (ck_iv (by omega) (by omega)) ?_
              have h52 := i32 x1
              refine Sf.w I_S_97 F_S_97 rfl (show ((0) : Int) ≤ (x1).toInt by omega) (show (x1).toInt ≤ (299 : Int) by omega) (fun S_114 I_S_114 F_S_114 v_S_114 f_S_114 l_S_114 => ?_)
              have h53 := ti_eq (f_S_114 63 14 (fun e => absurd e (by decide)))
              have h54 : (S_114.1 72 (((S_97.1 63 14)).toNatClampNeg)).toInt = (x1).toInt := eq_iv rfl rfl v_S_114
              have h55 : (S_114.1 72 (((S_114.1 63 14)).toNatClampNeg)).toInt = (x1).toInt := by rw [f_S_114 63 14 (fun e => absurd e (by decide))]; exact eq_iv rfl rfl v_S_114
              have h56 := b_63_14 I_S_114
              refine Sf.g (ck_iv (by omega) (by omega)) ?_
              have h57 := i32 x2
              refine Sf.w I_S_114 F_S_114 rfl (i32 _).1 (i32 _).2 (fun S_124 I_S_124 F_S_124 v_S_124 f_S_124 l_S_124 => ?_)
              have h58 := ti_eq (f_S_124 63 14 (fun e => absurd e (by decide)))
              have h59 : (S_124.1 73 (((S_114.1 63 14)).toNatClampNeg)).toInt = (x2).toInt := eq_iv rfl rfl v_S_124
              have h60 : (S_124.1 73 (((S_124.1 63 14)).toNatClampNeg)).toInt = (x2).toInt := by rw [f_S_124 63 14 (fun e => absurd e (by decide))]; exact eq_iv rfl rfl v_S_124
              have h61 : (S_124.1 72 (((S_114.1 63 14)).toNatClampNeg)).toInt = (S_114.1 72 (((S_114.1 63 14)).toNatClampNeg)).toInt := ti_eq (f_S_124 72 (((S_114.1 63 14)).toNatClampNeg) (fun e => absurd e (by decide)))
              have h62 : (S_124.1 72 (((S_124.1 63 14)).toNatClampNeg)).toInt = (S_114.1 72 (((S_114.1 63 14)).toNatClampNeg)).toInt := by rw [f_S_124 63 14 (fun e => absurd e (by decide))]; exact ti_eq (f_S_124 72 (((S_114.1 63 14)).toNatClampNeg) (fun e => absurd e (by decide)))
              have h63 : (S_124.1 72 (((S_97.1 63 14)).toNatClampNeg)).toInt = (S_114.1 72 (((S_97.1 63 14)).toNatClampNeg)).toInt := ti_eq (f_S_124 72 (((S_97.1 63 14)).toNatClampNeg) (fun e => absurd e (by decide)))
              have h64 := b_63_14 I_S_124
              try have h65 : (((S_124.1 63 14) + (1 : Int32))).toInt = ((S_124.1 63 14)).toInt + (1) := add_iv rfl li_1 (by omega) (by omega)
              refine Sf.w I_S_124 F_S_124 rfl (show ((0) : Int) ≤ (((S_124.1 63 14) + (1 : Int32))).toInt by omega) (show (((S_124.1 63 14) + (1 : Int32))).toInt ≤ (12 : Int) by omega) (fun S_132 I_S_132 F_S_132 v_S_132 f_S_132 l_S_132 => ?_)
              have h66 := eq_iv rfl rfl v_S_132
              have h67 : (S_132.1 72 (((S_114.1 63 14)).toNatClampNeg)).toInt = (S_124.1 72 (((S_114.1 63 14)).toNatClampNeg)).toInt := ti_eq (f_S_132 72 (((S_114.1 63 14)).toNatClampNeg) (fun e => absurd e (by decide)))
              have h68 : (S_132.1 72 (((S_124.1 63 14)).toNatClampNeg)).toInt = (S_124.1 72 (((S_124.1 63 14)).toNatClampNeg)).toInt := ti_eq (f_S_132 72 (((S_124.1 63 14)).toNatClampNeg) (fun e => absurd e (by decide)))
              have h69 : (S_132.1 72 (((S_97.1 63 14)).toNatClampNeg)).toInt = (S_124.1 72 (((S_97.1 63 14)).toNatClampNeg)).toInt := ti_eq (f_S_132 72 (((S_97.1 63 14)).toNatClampNeg) (fun e => absurd e (by decide)))
              have h70 : (S_132.1 73 (((S_114.1 63 14)).toNatClampNeg)).toInt = (S_124.1 73 (((S_114.1 63 14)).toNatClampNeg)).toInt := ti_eq (f_S_132 73 (((S_114.1 63 14)).toNatClampNeg) (fun e => absurd e (by decide)))
              have h71 : (S_132.1 73 (((S_124.1 63 14)).toNatClampNeg)).toInt = (S_124.1 73 (((S_124.1 63 14)).toNatClampNeg)).toInt := ti_eq (f_S_132 73 (((S_124.1 63 14)).toNatClampNeg) (fun e => absurd e (by decide)))
              exact Sf.so ⟨I_S_132, F_S_132, trivial⟩
            · have h72 := neq_iv rfl li_0 c_h49
              exact Sf.so ⟨I_S_97, F_S_97, trivial⟩
        · have h73 := neq_iv rfl li_0 c_h12
          exact Sf.so ⟨I_S_75, F_S_75, trivial⟩
      · have h74 := neq_iv rfl li_0 c_h6
        unfold fX12_zone_74
        have h75 : ((0 : Int32)).toInt = 0 := li_0
        have h76 : ((2 : Int32)).toInt = 2 := li_2
        refine Sf.b (s_fX12_throwsIf fu hfu (0 : Int32) (2 : Int32) S I_S (by omega) (by omega)) (fun S_75 r_75 p_r_75 => ?_)
        obtain ⟨I_S_75, G_S_75, p_r_75⟩ := p_r_75
        have F_S_75 := Fr.tr F_S G_S_75 rfl
        have h77 := ti_eq (G_S_75 63 14 rfl)
        have h78 := i32 r_75
        refine Sf.i (fun c_h79 => ?_) (fun c_h79 => ?_)
        · have h80 := eq_iv rfl li_0 c_h79
          have h81 := b_63_14 I_S_75
          refine Sf.i (fun c_h82 => ?_) (fun c_h82 => ?_)
          · have h83 := eq_iv rfl li_12 c_h82
            unfold fX12_zone_96
            have h84 : ((1 : Int32)).toInt = 1 := li_1
            have h85 : ((3 : Int32)).toInt = 3 := li_3
            refine Sf.b (s_fX12_throwsIf fu hfu (1 : Int32) (3 : Int32) S_75 I_S_75 (by omega) (by omega)) (fun S_97 r_97 p_r_97 => ?_)
            obtain ⟨I_S_97, G_S_97, p_r_97⟩ := p_r_97
            have F_S_97 := Fr.tr F_S_75 G_S_97 rfl
            have h86 := ti_eq (G_S_97 63 14 rfl)
            have h87 := i32 r_97
            refine Sf.i (fun c_h88 => ?_) (fun c_h88 => ?_)
            · have h89 := eq_iv rfl li_0 c_h88
              have h90 := b_63_14 I_S_97
              refine Sf.g (ck_iv (by omega) (by omega)) ?_
              have h91 := i32 x1
              refine Sf.w I_S_97 F_S_97 rfl (show ((0) : Int) ≤ (x1).toInt by omega) (show (x1).toInt ≤ (299 : Int) by omega) (fun S_114 I_S_114 F_S_114 v_S_114 f_S_114 l_S_114 => ?_)
              have h92 := ti_eq (f_S_114 63 14 (fun e => absurd e (by decide)))
              have h93 : (S_114.1 72 (((S_97.1 63 14)).toNatClampNeg)).toInt = (x1).toInt := eq_iv rfl rfl v_S_114
              have h94 : (S_114.1 72 (((S_114.1 63 14)).toNatClampNeg)).toInt = (x1).toInt := by rw [f_S_114 63 14 (fun e => absurd e (by decide))]; exact eq_iv rfl rfl v_S_114
              have h95 := b_63_14 I_S_114
              refine Sf.g (ck_iv (by omega) (by omega)) ?_
              have h96 := i32 x2
              refine Sf.w I_S_114 F_S_114 rfl (i32 _).1 (i32 _).2 (fun S_124 I_S_124 F_S_124 v_S_124 f_S_124 l_S_124 => ?_)
              have h97 := ti_eq (f_S_124 63 14 (fun e => absurd e (by decide)))
              have h98 : (S_124.1 73 (((S_114.1 63 14)).toNatClampNeg)).toInt = (x2).toInt := eq_iv rfl rfl v_S_124
              have h99 : (S_124.1 73 (((S_124.1 63 14)).toNatClampNeg)).toInt = (x2).toInt := by rw [f_S_124 63 14 (fun e => absurd e (by decide))]; exact eq_iv rfl rfl v_S_124
              have h100 : (S_124.1 72 (((S_114.1 63 14)).toNatClampNeg)).toInt = (S_114.1 72 (((S_114.1 63 14)).toNatClampNeg)).toInt := ti_eq (f_S_124 72 (((S_114.1 63 14)).toNatClampNeg) (fun e => absurd e (by decide)))
              have h101 : (S_124.1 72 (((S_124.1 63 14)).toNatClampNeg)).toInt = (S_114.1 72 (((S_114.1 63 14)).toNatClampNeg)).toInt := by rw [f_S_124 63 14 (fun e => absurd e (by decide))]; exact ti_eq (f_S_124 72 (((S_114.1 63 14)).toNatClampNeg) (fun e => absurd e (by decide)))
              have h102 : (S_124.1 72 (((S_97.1 63 14)).toNatClampNeg)).toInt = (S_114.1 72 (((S_97.1 63 14)).toNatClampNeg)).toInt := ti_eq (f_S_124 72 (((S_97.1 63 14)).toNatClampNeg) (fun e => absurd e (by decide)))
              have h103 := b_63_14 I_S_124
              try have h104 : (((S_124.1 63 14) + (1 : Int32))).toInt = ((S_124.1 63 14)).toInt + (1) := add_iv rfl li_1 (by omega) (by omega)
              refine Sf.w I_S_124 F_S_124 rfl (show ((0) : Int) ≤ (((S_124.1 63 14) + (1 : Int32))).toInt by omega) (show (((S_124.1 63 14) + (1 : Int32))).toInt ≤ (12 : Int) by omega) (fun S_132 I_S_132 F_S_132 v_S_132 f_S_132 l_S_132 => ?_)
              have h105 := eq_iv rfl rfl v_S_132
              have h106 : (S_132.1 72 (((S_114.1 63 14)).toNatClampNeg)).toInt = (S_124.1 72 (((S_114.1 63 14)).toNatClampNeg)).toInt := ti_eq (f_S_132 72 (((S_114.1 63 14)).toNatClampNeg) (fun e => absurd e (by decide)))
              have h107 : (S_132.1 72 (((S_124.1 63 14)).toNatClampNeg)).toInt = (S_124.1 72 (((S_124.1 63 14)).toNatClampNeg)).toInt := ti_eq (f_S_132 72 (((S_124.1 63 14)).toNatClampNeg) (fun e => absurd e (by decide)))
              have h108 : (S_132.1 72 (((S_97.1 63 14)).toNatClampNeg)).toInt = (S_124.1 72 (((S_97.1 63 14)).toNatClampNeg)).toInt := ti_eq (f_S_132 72 (((S_97.1 63 14)).toNatClampNeg) (fun e => absurd e (by decide)))
              have h109 : (S_132.1 73 (((S_114.1 63 14)).toNatClampNeg)).toInt = (S_124.1 73 (((S_114.1 63 14)).toNatClampNeg)).toInt := ti_eq (f_S_132 73 (((S_114.1 63 14)).toNatClampNeg) (fun e => absurd e (by decide)))
              have h110 : (S_132.1 73 (((S_124.1 63 14)).toNatClampNeg)).toInt = (S_124.1 73 (((S_124.1 63 14)).toNatClampNeg)).toInt := ti_eq (f_S_132 73 (((S_124.1 63 14)).toNatClampNeg) (fun e => absurd e (by decide)))
              exact Sf.so ⟨I_S_132, F_S_132, trivial⟩
            · have h111 := neq_iv rfl li_0 c_h88
              exact Sf.so ⟨I_S_97, F_S_97, trivial⟩
          · have h112 := neq_iv rfl li_12 c_h82
            unfold fX12_zone_96
            have h113 : ((3 : Int32)).toInt = 3 := li_3
            refine Sf.b (s_fX12_throwsIf fu hfu (0 : Int32) (3 : Int32) S_75 I_S_75 (by omega) (by omega)) (fun S_97 r_97 p_r_97 => ?_)
            obtain ⟨I_S_97, G_S_97, p_r_97⟩ := p_r_97
            have F_S_97 := Fr.tr F_S_75 G_S_97 rfl
            have h114 := ti_eq (G_S_97 63 14 rfl)
            have h115 := i32 r_97
            refine Sf.i (fun c_h116 => ?_) (fun c_h116 => ?_)
            · have h117 := eq_iv rfl li_0 c_h116
              have h118 := b_63_14 I_S_97
              refine Sf.g (ck_iv (by omega) (by omega)) ?_
              have h119 := i32 x1
              refine Sf.w I_S_97 F_S_97 rfl (show ((0) : Int) ≤ (x1).toInt by omega) (show (x1).toInt ≤ (299 : Int) by omega) (fun S_114 I_S_114 F_S_114 v_S_114 f_S_114 l_S_114 => ?_)
              have h120 := ti_eq (f_S_114 63 14 (fun e => absurd e (by decide)))
              have h121 : (S_114.1 72 (((S_97.1 63 14)).toNatClampNeg)).toInt = (x1).toInt := eq_iv rfl rfl v_S_114
              have h122 : (S_114.1 72 (((S_114.1 63 14)).toNatClampNeg)).toInt = (x1).toInt := by rw [f_S_114 63 14 (fun e => absurd e (by decide))]; exact eq_iv rfl rfl v_S_114
              have h123 := b_63_14 I_S_114
              refine Sf.g (ck_iv (by omega) (by omega)) ?_
              have h124 := i32 x2
              refine Sf.w I_S_114 F_S_114 rfl (i32 _).1 (i32 _).2 (fun S_124 I_S_124 F_S_124 v_S_124 f_S_124 l_S_124 => ?_)
              have h125 := ti_eq (f_S_124 63 14 (fun e => absurd e (by decide)))
              have h126 : (S_124.1 73 (((S_114.1 63 14)).toNatClampNeg)).toInt = (x2).toInt := eq_iv rfl rfl v_S_124
              have h127 : (S_124.1 73 (((S_124.1 63 14)).toNatClampNeg)).toInt = (x2).toInt := by rw [f_S_124 63 14 (fun e => absurd e (by decide))]; exact eq_iv rfl rfl v_S_124
              have h128 : (S_124.1 72 (((S_114.1 63 14)).toNatClampNeg)).toInt = (S_114.1 72 (((S_114.1 63 14)).toNatClampNeg)).toInt := ti_eq (f_S_124 72 (((S_114.1 63 14)).toNatClampNeg) (fun e => absurd e (by decide)))
              have h129 : (S_124.1 72 (((S_124.1 63 14)).toNatClampNeg)).toInt = (S_114.1 72 (((S_114.1 63 14)).toNatClampNeg)).toInt := by rw [f_S_124 63 14 (fun e => absurd e (by decide))]; exact ti_eq (f_S_124 72 (((S_114.1 63 14)).toNatClampNeg) (fun e => absurd e (by decide)))
              have h130 : (S_124.1 72 (((S_97.1 63 14)).toNatClampNeg)).toInt = (S_114.1 72 (((S_97.1 63 14)).toNatClampNeg)).toInt := ti_eq (f_S_124 72 (((S_97.1 63 14)).toNatClampNeg) (fun e => absurd e (by decide)))
              have h131 := b_63_14 I_S_124
              try have h132 : (((S_124.1 63 14) + (1 : Int32))).toInt = ((S_124.1 63 14)).toInt + (1) := add_iv rfl li_1 (by omega) (by omega)
              refine Sf.w I_S_124 F_S_124 rfl (show ((0) : Int) ≤ (((S_124.1 63 14) + (1 : Int32))).toInt by omega) (show (((S_124.1 63 14) + (1 : Int32))).toInt ≤ (12 : Int) by omega) (fun S_132 I_S_132 F_S_132 v_S_132 f_S_132 l_S_132 => ?_)
              have h133 := eq_iv rfl rfl v_S_132
              have h134 : (S_132.1 72 (((S_114.1 63 14)).toNatClampNeg)).toInt = (S_124.1 72 (((S_114.1 63 14)).toNatClampNeg)).toInt := ti_eq (f_S_132 72 (((S_114.1 63 14)).toNatClampNeg) (fun e => absurd e (by decide)))
              have h135 : (S_132.1 72 (((S_124.1 63 14)).toNatClampNeg)).toInt = (S_124.1 72 (((S_124.1 63 14)).toNatClampNeg)).toInt := ti_eq (f_S_132 72 (((S_124.1 63 14)).toNatClampNeg) (fun e => absurd e (by decide)))
              have h136 : (S_132.1 72 (((S_97.1 63 14)).toNatClampNeg)).toInt = (S_124.1 72 (((S_97.1 63 14)).toNatClampNeg)).toInt := ti_eq (f_S_132 72 (((S_97.1 63 14)).toNatClampNeg) (fun e => absurd e (by decide)))
              have h137 : (S_132.1 73 (((S_114.1 63 14)).toNatClampNeg)).toInt = (S_124.1 73 (((S_114.1 63 14)).toNatClampNeg)).toInt := ti_eq (f_S_132 73 (((S_114.1 63 14)).toNatClampNeg) (fun e => absurd e (by decide)))
              have h138 : (S_132.1 73 (((S_124.1 63 14)).toNatClampNeg)).toInt = (S_124.1 73 (((S_124.1 63 14)).toNatClampNeg)).toInt := ti_eq (f_S_132 73 (((S_124.1 63 14)).toNatClampNeg) (fun e => absurd e (by decide)))
              exact Sf.so ⟨I_S_132, F_S_132, trivial⟩
            · have h139 := neq_iv rfl li_0 c_h116
              exact Sf.so ⟨I_S_97, F_S_97, trivial⟩
        · have h140 := neq_iv rfl li_0 c_h79
          exact Sf.so ⟨I_S_75, F_S_75, trivial⟩
    · have h141 := nle_iv rfl rfl c_h3
      have h142 := i32 x3
      refine Sf.i (fun c_h143 => ?_) (fun c_h143 => ?_)
      · have h144 := eq_iv rfl li_0 c_h143
        unfold fX12_zone_56
        unfold fX12_zone_57
        have h145 := i32 x1
        have h146 := i32 x2
        have h147 : ((0 : Int32)).toInt = 0 := li_0
        try have h148 : ((x4 + (1 : Int32))).toInt = (x4).toInt + (1) := add_iv rfl li_1 (by omega) (by omega)
        refine Sf.mono (ih x1 x2 (0 : Int32) (x4 + (1 : Int32)) S I_S (by omega) (by omega) (by omega) (by omega) (by omega) (by omega)) (fun U r p_h149 => ?_)
        obtain ⟨I_U, G_U, p_h149⟩ := p_h149
        exact ⟨I_U, Fr.tr F_S G_U rfl, trivial⟩
      · have h150 := neq_iv rfl li_0 c_h143
        refine Sf.g (ck_iv (by omega) (by omega)) ?_
        have h151 := a_72 I_S ((x4).toNatClampNeg)
        have h152 := i32 x1
        refine Sf.i (fun c_h153 => ?_) (fun c_h153 => ?_)
        · have h154 := eq_iv rfl rfl c_h153
          unfold fX12_zone_56
          unfold fX12_zone_57
          have h155 := i32 x2
          have h156 : ((0 : Int32)).toInt = 0 := li_0
          try have h157 : ((x4 + (1 : Int32))).toInt = (x4).toInt + (1) := add_iv rfl li_1 (by omega) (by omega)
          refine Sf.mono (ih x1 x2 (0 : Int32) (x4 + (1 : Int32)) S I_S (by omega) (by omega) (by omega) (by omega) (by omega) (by omega)) (fun U r p_h158 => ?_)
          obtain ⟨I_U, G_U, p_h158⟩ := p_h158
          exact ⟨I_U, Fr.tr F_S G_U rfl, trivial⟩
        · have h159 := neq_iv rfl rfl c_h153
          unfold fX12_zone_57
          have h160 := i32 x2
          have h161 : ((1 : Int32)).toInt = 1 := li_1
          try have h162 : ((x4 + (1 : Int32))).toInt = (x4).toInt + (1) := add_iv rfl li_1 (by omega) (by omega)
          refine Sf.mono (ih x1 x2 (1 : Int32) (x4 + (1 : Int32)) S I_S (by omega) (by omega) (by omega) (by omega) (by omega) (by omega)) (fun U r p_h163 => ?_)
          obtain ⟨I_U, G_U, p_h163⟩ := p_h163
          exact ⟨I_U, Fr.tr F_S G_U rfl, trivial⟩
theorem s_fX12_zone (fu : Nat) (hfu : 1000000000000000000 ≤ fu) (x1 : Int32) (x2 : Int32) (S : St) (I_S : Inv S) : Sf (fX12_zone fu x1 x2 S) (fun U r => Inv U ∧ Fr [(63, 1), (63, 15), (72, 0), (73, 0)] S U ∧ (True)) := by
  unfold fX12_zone
  have F_S : Fr [(63, 1), (63, 15), (72, 0), (73, 0)] S S := Fr.refl _ _
  refine Sf.w I_S F_S rfl (i32 _).1 (i32 _).2 (fun S_2 I_S_2 F_S_2 v_S_2 f_S_2 l_S_2 => ?_)
  have h1 := ti_eq (f_S_2 63 5 (fun _ e => absurd e (by decide)))
  have h2 := ti_eq (f_S_2 63 14 (fun _ e => absurd e (by decide)))
  have h3 := i32 x1
  have h4 := b_63_5 I_S_2
  refine Sf.bp (s_fX12_noName fu hfu x1 S_2 I_S_2) (fun r_8 p_r_8 => ?_)
  have h5 := i32 r_8
  have h6 : ((1 : Int32)).toInt = 1 := li_1
  refine Sf.b (s_fX12_throwsIf fu hfu r_8 (1 : Int32) S_2 I_S_2 (by omega) (by omega)) (fun S_12 r_12 p_r_12 => ?_)
  obtain ⟨I_S_12, G_S_12, p_r_12⟩ := p_r_12
  have F_S_12 := Fr.tr F_S_2 G_S_12 rfl
  have h7 := ti_eq (G_S_12 63 5 rfl)
  have h8 := ti_eq (G_S_12 63 14 rfl)
  have h9 := i32 r_12
  refine Sf.i (fun c_h10 => ?_) (fun c_h10 => ?_)
  · have h11 := eq_iv rfl li_0 c_h10
    have h12 := i32 x2
    refine Sf.bp (s_fX12_isLife fu hfu x2 S_12 I_S_12) (fun r_21 p_r_21 => ?_)
    have h13 := i32 r_21
    have h14 : ((0 : Int32)).toInt = 0 := li_0
    refine Sf.mono (s_fX12_zone_28 fu hfu fu x1 x2 r_21 (0 : Int32) S_12 I_S_12 (by omega) (by omega) (by omega) (by omega) (by omega) (by omega)) (fun U r p_h15 => ?_)
    obtain ⟨I_U, G_U, p_h15⟩ := p_h15
    have h16 := ti_eq (G_U 63 5 rfl)
    exact ⟨I_U, Fr.tr F_S_12 G_U rfl, trivial⟩
  · have h17 := neq_iv rfl li_0 c_h10
    exact Sf.so ⟨I_S_12, F_S_12, trivial⟩
theorem s_fX12_noZone (fu : Nat) (hfu : 1000000000000000000 ≤ fu) (x1 : Int32) (S : St) (I_S : Inv S) : Sp (fX12_noZone fu x1 S) S (fun r => ((r.toInt = 0 ∧ 0 ≤ (x1).toInt ∧ (x1).toInt < (S.1 63 14).toInt ∨ r.toInt = 1))) := by
  unfold fX12_noZone
  have h1 := i32 x1
  refine Sp.i (fun c_h2 => ?_) (fun c_h2 => ?_)
  · have h3 := lt_iv rfl li_0 c_h2
    unfold fX12_noZone_12
    have h4 := b_63_14 I_S
    have h5 : ((1 : Int32)).toInt = 1 := li_1
    exact Sp.so (by omega)
  · have h6 := nlt_iv rfl li_0 c_h2
    have h7 := b_63_14 I_S
    refine Sp.i (fun c_h8 => ?_) (fun c_h8 => ?_)
    · have h9 := lt_iv rfl rfl c_h8
      have h10 := b_63_14 I_S
      have h11 : ((0 : Int32)).toInt = 0 := li_0
      exact Sp.so (by omega)
    · have h12 := nlt_iv rfl rfl c_h8
      unfold fX12_noZone_12
      have h13 := b_63_14 I_S
      have h14 : ((1 : Int32)).toInt = 1 := li_1
      exact Sp.so (by omega)
theorem s_fX12_isIn_2 (fu : Nat) (hfu : 1000000000000000000 ≤ fu) : ∀ (n : Nat) (x2 : Int32) (x3 : Int32) (S : St), Inv S → (0 ≤ (x2).toInt) → ((x2).toInt ≤ 299) → (0 ≤ (x3).toInt) → ((x3).toInt ≤ 299) → ((x3).toInt).toNat < n → Sp (fX12_isIn_2 fu n x2 x3 S) S (fun r => (0 ≤ r.toInt) ∧ (r.toInt ≤ 1)) := by
  intro n
  induction n with
  | zero => intro x2 x3 S I_S g0 g1 g2 g3 hm; exact absurd hm (Nat.not_lt_zero _)
  | succ n ih =>
    intro x2 x3 S I_S g0 g1 g2 g3 hm
    rw [fX12_isIn_2_s]
    have h1 := i32 x3
    refine Sp.g (ck_iv (by omega) (by omega)) ?_
    have h2 := i32 x2
    refine Sp.g (ck_iv (by omega) (by omega)) ?_
    try have h3 := cl_iv (x := x2) (by omega)
    have h4 := a_67 I_S ((x2).toNatClampNeg)
    try have h5 := cl_iv (x := x3) (by omega)
    have h6 := a_67 I_S ((x3).toNatClampNeg)
    refine Sp.i (fun c_h7 => ?_) (fun c_h7 => ?_)
    · have h8 := le_iv rfl rfl c_h7
      refine Sp.i (fun c_h9 => ?_) (fun c_h9 => ?_)
      · have h10 := eq_iv rfl rfl c_h9
        have h11 : ((1 : Int32)).toInt = 1 := li_1
        exact Sp.so (by omega)
      · have h12 := neq_iv rfl rfl c_h9
        have h13 : ((0 : Int32)).toInt = 0 := li_0
        exact Sp.so (by omega)
    · have h14 := nle_iv rfl rfl c_h7
      refine Sp.g (ck_iv (by omega) (by omega)) ?_
      have h15 := a_64 I_S ((x3).toNatClampNeg)
      refine Sp.mono (ih x2 (S.1 64 ((x3).toNatClampNeg)) S I_S (by omega) (by omega) (by omega) (by omega) (by omega)) (fun r p_h16 => ?_)
      exact by omega
theorem s_fX12_isIn (fu : Nat) (hfu : 1000000000000000000 ≤ fu) (x1 : Int32) (x2 : Int32) (S : St) (I_S : Inv S) (g0 : 0 ≤ (x1).toInt) (g1 : (x1).toInt ≤ 299) (g2 : 0 ≤ (x2).toInt) (g3 : (x2).toInt ≤ 299) : Sp (fX12_isIn fu x1 x2 S) S (fun r => (0 ≤ r.toInt) ∧ (r.toInt ≤ 1)) := by
  unfold fX12_isIn
  have h1 := i32 x2
  have h2 := i32 x1
  refine Sp.mono (s_fX12_isIn_2 fu hfu fu x2 x1 S I_S (by omega) (by omega) (by omega) (by omega) (by omega)) (fun r p_h3 => ?_)
  exact by omega
