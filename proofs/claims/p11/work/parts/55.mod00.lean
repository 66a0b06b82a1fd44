theorem s_fX12_thrown (fu : Nat) (hfu : 1000000000000000000 ≤ fu) (S : St) (I_S : Inv S) : Sp (fX12_thrown fu S) S (fun r => True) := by
  unfold fX12_thrown
  exact Sp.so trivial
theorem s_fX12_feed_60 (fu : Nat) (hfu : 1000000000000000000 ≤ fu) : ∀ (n : Nat) (x6 : Int32) (S : St), Inv S → (0 ≤ (x6).toInt) → ((S.1 63 10).toInt + 20 ≤ 1000) → (20 - (x6).toInt).toNat < n → Sf (fX12_feed_60 fu n x6 S) (fun U r => Inv U ∧ Fr [(63, 11), (70, 0)] S U ∧ (True)) := by
  intro n
  induction n with
  | zero => intro x6 S I_S g0 g1 hm; exact absurd hm (Nat.not_lt_zero _)
  | succ n ih =>
    intro x6 S I_S g0 g1 hm
    rw [fX12_feed_60_s]
    have F_S : Fr [(63, 11), (70, 0)] S S := Fr.refl _ _
    have h1 := b_63_10 I_S
    have h2 := i32 x6
    refine Sf.i (fun c_h3 => ?_) (fun c_h3 => ?_)
    · have h4 := le_iv li_20 rfl c_h3
      have h5 := b_63_10 I_S
      try have h6 : (((S.1 63 10) + (20 : Int32))).toInt = ((S.1 63 10)).toInt + (20) := add_iv rfl li_20 (by omega) (by omega)
      refine Sf.w I_S F_S rfl (show ((0) : Int) ≤ (((S.1 63 10) + (20 : Int32))).toInt by omega) (show (((S.1 63 10) + (20 : Int32))).toInt ≤ (1000 : Int) by omega) (fun S_114 I_S_114 F_S_114 v_S_114 f_S_114 l_S_114 => ?_)
      have h7 := eq_iv rfl rfl v_S_114
      exact Sf.so ⟨I_S_114, F_S_114, trivial⟩
    · have h8 := nle_iv li_20 rfl c_h3
      try have h9 := dv_iv (x := x6) (by omega) (by omega)
      refine Sf.g (ck_iv (by omega) (by omega)) ?_
      have h10 := b_63_10 I_S
      try have h11 : (((S.1 63 10) + x6)).toInt = ((S.1 63 10)).toInt + (x6).toInt := add_iv rfl rfl (by omega) (by omega)
      refine Sf.g (ck_iv (by omega) (by omega)) ?_
      try have h12 : (((x6 / (4 : Int32)) * (4 : Int32))).toInt = ((x6 / (4 : Int32))).toInt * (4) := mul_iv rfl li_4 (by omega) (by omega)
      try have h13 : ((x6 - ((x6 / (4 : Int32)) * (4 : Int32)))).toInt = (x6).toInt - (((x6 / (4 : Int32)) * (4 : Int32))).toInt := sub_iv rfl rfl (by omega) (by omega)
      try have h14 : (((8 : Int32) * (x6 - ((x6 / (4 : Int32)) * (4 : Int32))))).toInt = (8) * ((x6 - ((x6 / (4 : Int32)) * (4 : Int32)))).toInt := mul_iv li_8 rfl (by omega) (by omega)
      try have h15 : (((24 : Int32) - ((8 : Int32) * (x6 - ((x6 / (4 : Int32)) * (4 : Int32)))))).toInt = (24) - (((8 : Int32) * (x6 - ((x6 / (4 : Int32)) * (4 : Int32))))).toInt := sub_iv li_24 rfl (by omega) (by omega)
      have h16 := and_31 (((24 : Int32) - ((8 : Int32) * (x6 - ((x6 / (4 : Int32)) * (4 : Int32))))))
      have h17 := vpy ((((S.1 71 (((x6 / (4 : Int32))).toNatClampNeg)) >>> (((24 : Int32) - ((8 : Int32) * (x6 - ((x6 / (4 : Int32)) * (4 : Int32))))) &&& 31))).toInt8.toInt32)
      refine Sf.w I_S F_S rfl (i32 _).1 (i32 _).2 (fun S_99 I_S_99 F_S_99 v_S_99 f_S_99 l_S_99 => ?_)
      have h18 := ti_eq (f_S_99 63 10 (fun e => absurd e (by decide)))
      have h19 : (S_99.1 70 ((((S.1 63 10) + x6)).toNatClampNeg)).toInt = ((vp_nar .byte ((((S.1 71 (((x6 / (4 : Int32))).toNatClampNeg)) >>> (((24 : Int32) - ((8 : Int32) * (x6 - ((x6 / (4 : Int32)) * (4 : Int32))))) &&& 31))).toInt8.toInt32))).toInt := eq_iv rfl rfl v_S_99
      have h20 : (S_99.1 70 ((((S_99.1 63 10) + x6)).toNatClampNeg)).toInt = ((vp_nar .byte ((((S.1 71 (((x6 / (4 : Int32))).toNatClampNeg)) >>> (((24 : Int32) - ((8 : Int32) * (x6 - ((x6 / (4 : Int32)) * (4 : Int32))))) &&& 31))).toInt8.toInt32))).toInt := by rw [f_S_99 63 10 (fun e => absurd e (by decide))]; exact eq_iv rfl rfl v_S_99
      have h21 : (S_99.1 71 (((x6 / (4 : Int32))).toNatClampNeg)).toInt = (S.1 71 (((x6 / (4 : Int32))).toNatClampNeg)).toInt := ti_eq (f_S_99 71 (((x6 / (4 : Int32))).toNatClampNeg) (fun e => absurd e (by decide)))
      try have h22 : ((x6 + (1 : Int32))).toInt = (x6).toInt + (1) := add_iv rfl li_1 (by omega) (by omega)
      have h23 := b_63_10 I_S_99
      refine Sf.mono (ih (x6 + (1 : Int32)) S_99 I_S_99 (by omega) (by omega) (by omega)) (fun U r p_h24 => ?_)
      obtain ⟨I_U, G_U, p_h24⟩ := p_h24
      exact ⟨I_U, Fr.tr F_S_99 G_U rfl, trivial⟩
theorem s_fX12_feed (fu : Nat) (hfu : 1000000000000000000 ≤ fu) (x1 : Int32) (x2 : Int32) (x3 : Int32) (x4 : Int32) (x5 : Int32) (S : St) (I_S : Inv S) : Sf (fX12_feed fu x1 x2 x3 x4 x5 S) (fun U r => Inv U ∧ Fr [(63, 1), (63, 11), (70, 0), (71, 0)] S U ∧ (True)) := by
  unfold fX12_feed
  have F_S : Fr [(63, 1), (63, 11), (70, 0), (71, 0)] S S := Fr.refl _ _
  refine Sf.w I_S F_S rfl (i32 _).1 (i32 _).2 (fun S_2 I_S_2 F_S_2 v_S_2 f_S_2 l_S_2 => ?_)
  have h1 := ti_eq (f_S_2 63 10 (fun _ e => absurd e (by decide)))
  have h2 := b_63_10 I_S_2
  try have h3 : (((S_2.1 63 10) + (20 : Int32))).toInt = ((S_2.1 63 10)).toInt + (20) := add_iv rfl li_20 (by omega) (by omega)
  refine Sf.i (fun c_h4 => ?_) (fun c_h4 => ?_)
  · have h5 := le_iv rfl li_1000 c_h4
    refine Sf.g (by decide) ?_
    have h6 := i32 x1
    refine Sf.w I_S_2 F_S_2 rfl (i32 _).1 (i32 _).2 (fun S_26 I_S_26 F_S_26 v_S_26 f_S_26 l_S_26 => ?_)
    have h7 := ti_eq (f_S_26 63 10 (fun e => absurd e (by decide)))
    have h8 : (S_26.1 71 (((0 : Int32)).toNatClampNeg)).toInt = (x1).toInt := eq_iv rfl rfl v_S_26
    refine Sf.g (by decide) ?_
    have h9 := i32 x2
    refine Sf.w I_S_26 F_S_26 rfl (i32 _).1 (i32 _).2 (fun S_33 I_S_33 F_S_33 v_S_33 f_S_33 l_S_33 => ?_)
    have h10 := ti_eq (f_S_33 63 10 (fun e => absurd e (by decide)))
    have h11 : (S_33.1 71 (((1 : Int32)).toNatClampNeg)).toInt = (x2).toInt := eq_iv rfl rfl v_S_33
    refine Sf.g (by decide) ?_
    have h12 := i32 x3
    refine Sf.w I_S_33 F_S_33 rfl (i32 _).1 (i32 _).2 (fun S_40 I_S_40 F_S_40 v_S_40 f_S_40 l_S_40 => ?_)
    have h13 := ti_eq (f_S_40 63 10 (fun e => absurd e (by decide)))
    have h14 : (S_40.1 71 (((2 : Int32)).toNatClampNeg)).toInt = (x3).toInt := eq_iv rfl rfl v_S_40
    refine Sf.g (by decide) ?_
    have h15 := i32 x4
    refine Sf.w I_S_40 F_S_40 rfl (i32 _).1 (i32 _).2 (fun S_48 I_S_48 F_S_48 v_S_48 f_S_48 l_S_48 => ?_)
    have h16 := ti_eq (f_S_48 63 10 (fun e => absurd e (by decide)))
    have h17 : (S_48.1 71 (((3 : Int32)).toNatClampNeg)).toInt = (x4).toInt := eq_iv rfl rfl v_S_48
    refine Sf.g (by decide) ?_
    have h18 := i32 x5
    refine Sf.w I_S_48 F_S_48 rfl (i32 _).1 (i32 _).2 (fun S_56 I_S_56 F_S_56 v_S_56 f_S_56 l_S_56 => ?_)
    have h19 := ti_eq (f_S_56 63 10 (fun e => absurd e (by decide)))
    have h20 : (S_56.1 71 (((4 : Int32)).toNatClampNeg)).toInt = (x5).toInt := eq_iv rfl rfl v_S_56
    have h21 : ((0 : Int32)).toInt = 0 := li_0
    have h22 := b_63_10 I_S_56
    refine Sf.mono (s_fX12_feed_60 fu hfu fu (0 : Int32) S_56 I_S_56 (by omega) (by omega) (by omega)) (fun U r p_h23 => ?_)
    obtain ⟨I_U, G_U, p_h23⟩ := p_h23
    exact ⟨I_U, Fr.tr F_S_56 G_U rfl, trivial⟩
  · have h24 := nle_iv rfl li_1000 c_h4
    exact Sf.so ⟨I_S_2, F_S_2, trivial⟩
theorem s_fX12_end (fu : Nat) (hfu : 1000000000000000000 ≤ fu) (x1 : Int32) (S : St) (I_S : Inv S) : Sf (fX12_end fu x1 S) (fun U r => Inv U ∧ Fr [(63, 1), (63, 11)] S U ∧ (True)) := by
  unfold fX12_end
  have F_S : Fr [(63, 1), (63, 11)] S S := Fr.refl _ _
  refine Sf.w I_S F_S rfl (i32 _).1 (i32 _).2 (fun S_2 I_S_2 F_S_2 v_S_2 f_S_2 l_S_2 => ?_)
  have h1 := ti_eq (f_S_2 63 10 (fun _ e => absurd e (by decide)))
  have h2 := i32 x1
  refine Sf.i (fun c_h3 => ?_) (fun c_h3 => ?_)
  · have h4 := lt_iv rfl li_0 c_h3
    exact Sf.so ⟨I_S_2, F_S_2, trivial⟩
  · have h5 := nlt_iv rfl li_0 c_h3
    have h6 := b_63_10 I_S_2
    refine Sf.i (fun c_h7 => ?_) (fun c_h7 => ?_)
    · have h8 := le_iv rfl rfl c_h7
      refine Sf.w I_S_2 F_S_2 rfl (show ((0) : Int) ≤ (x1).toInt by omega) (show (x1).toInt ≤ (1000 : Int) by omega) (fun S_21 I_S_21 F_S_21 v_S_21 f_S_21 l_S_21 => ?_)
      have h9 := eq_iv rfl rfl v_S_21
      exact Sf.so ⟨I_S_21, F_S_21, trivial⟩
    · have h10 := nle_iv rfl rfl c_h7
      exact Sf.so ⟨I_S_2, F_S_2, trivial⟩
theorem s_fX12_turn (fu : Nat) (hfu : 1000000000000000000 ≤ fu) (x1 : Int32) (x2 : Int32) (S : St) (I_S : Inv S) : Sf (fX12_turn fu x1 x2 S) (fun U r => Inv U ∧ Fr [(63, 1), (70, 0)] S U ∧ (True)) := by
  unfold fX12_turn
  have F_S : Fr [(63, 1), (70, 0)] S S := Fr.refl _ _
  refine Sf.w I_S F_S rfl (i32 _).1 (i32 _).2 (fun S_2 I_S_2 F_S_2 v_S_2 f_S_2 l_S_2 => ?_)
  have h1 := ti_eq (f_S_2 63 10 (fun _ e => absurd e (by decide)))
  have h2 := i32 x1
  refine Sf.i (fun c_h3 => ?_) (fun c_h3 => ?_)
  · have h4 := lt_iv rfl li_0 c_h3
    exact Sf.so ⟨I_S_2, F_S_2, trivial⟩
  · have h5 := nlt_iv rfl li_0 c_h3
    have h6 := b_63_10 I_S_2
    refine Sf.i (fun c_h7 => ?_) (fun c_h7 => ?_)
    · have h8 := lt_iv rfl rfl c_h7
      refine Sf.g (ck_iv (by omega) (by omega)) ?_
      have h9 := vpy ((x2).toInt8.toInt32)
      refine Sf.w I_S_2 F_S_2 rfl (i32 _).1 (i32 _).2 (fun S_26 I_S_26 F_S_26 v_S_26 f_S_26 l_S_26 => ?_)
      have h10 := ti_eq (f_S_26 63 10 (fun e => absurd e (by decide)))
      have h11 : (S_26.1 70 ((x1).toNatClampNeg)).toInt = ((vp_nar .byte ((x2).toInt8.toInt32))).toInt := eq_iv rfl rfl v_S_26
      exact Sf.so ⟨I_S_26, F_S_26, trivial⟩
    · have h12 := nlt_iv rfl rfl c_h7
      exact Sf.so ⟨I_S_2, F_S_2, trivial⟩
theorem s_fX12_used (fu : Nat) (hfu : 1000000000000000000 ≤ fu) (S : St) (I_S : Inv S) : Sf (fX12_used fu S) (fun U r => Inv U ∧ Fr [(63, 1), (63, 11)] S U ∧ ((0 ≤ r.toInt) ∧ (r.toInt ≤ 1000))) := by
  unfold fX12_used
  have F_S : Fr [(63, 1), (63, 11)] S S := Fr.refl _ _
  refine Sf.w I_S F_S rfl (i32 _).1 (i32 _).2 (fun S_2 I_S_2 F_S_2 v_S_2 f_S_2 l_S_2 => ?_)
  have h1 := ti_eq (f_S_2 63 10 (fun _ e => absurd e (by decide)))
  refine Sf.w I_S_2 F_S_2 rfl (show ((0) : Int) ≤ ((0 : Int32)).toInt by rw [li_0]; omega) (show ((0 : Int32)).toInt ≤ (1000 : Int) by rw [li_0]; omega) (fun S_12 I_S_12 F_S_12 v_S_12 f_S_12 l_S_12 => ?_)
  have h2 := eq_iv rfl li_0 v_S_12
  have h3 := b_63_10 I_S_2
  exact Sf.so ⟨I_S_12, F_S_12, by omega⟩
theorem s_fX12_isLetter (fu : Nat) (hfu : 1000000000000000000 ≤ fu) (x0 : Int32) (S : St) (I_S : Inv S) : Sp (fX12_isLetter fu x0 S) S (fun r => (0 ≤ r.toInt) ∧ (r.toInt ≤ 1)) := by
  unfold fX12_isLetter
  have h1 := i32 x0
  refine Sp.i (fun c_h2 => ?_) (fun c_h2 => ?_)
  · have h3 := lt_iv rfl li_97 c_h2
    unfold fX12_isLetter_12
    refine Sp.i (fun c_h4 => ?_) (fun c_h4 => ?_)
    · have h5 := lt_iv rfl li_48 c_h4
      unfold fX12_isLetter_24
      refine Sp.i (fun c_h6 => ?_) (fun c_h6 => ?_)
      · have h7 := eq_iv rfl li_45 c_h6
        unfold fX12_isLetter_30
        have h8 : ((1 : Int32)).toInt = 1 := li_1
        exact Sp.so (by omega)
      · have h9 := neq_iv rfl li_45 c_h6
        have h10 : ((0 : Int32)).toInt = 0 := li_0
        exact Sp.so (by omega)
    · have h11 := nlt_iv rfl li_48 c_h4
      refine Sp.i (fun c_h12 => ?_) (fun c_h12 => ?_)
      · have h13 := le_iv rfl li_57 c_h12
        unfold fX12_isLetter_30
        have h14 : ((1 : Int32)).toInt = 1 := li_1
        exact Sp.so (by omega)
      · have h15 := nle_iv rfl li_57 c_h12
        unfold fX12_isLetter_24
        refine Sp.i (fun c_h16 => ?_) (fun c_h16 => ?_)
        · have h17 := eq_iv rfl li_45 c_h16
          unfold fX12_isLetter_30
          have h18 : ((1 : Int32)).toInt = 1 := li_1
          exact Sp.so (by omega)
        · have h19 := neq_iv rfl li_45 c_h16
          have h20 : ((0 : Int32)).toInt = 0 := li_0
          exact Sp.so (by omega)
  · have h21 := nlt_iv rfl li_97 c_h2
    refine Sp.i (fun c_h22 => ?_) (fun c_h22 => ?_)
    · have h23 := le_iv rfl li_122 c_h22
      unfold fX12_isLetter_30
      have h24 : ((1 : Int32)).toInt = 1 := li_1
      exact Sp.so (by omega)
    · have h25 := nle_iv rfl li_122 c_h22
      unfold fX12_isLetter_12
      refine Sp.i (fun c_h26 => ?_) (fun c_h26 => ?_)
      · have h27 := lt_iv rfl li_48 c_h26
        unfold fX12_isLetter_24
        refine Sp.i (fun c_h28 => ?_) (fun c_h28 => ?_)
        · have h29 := eq_iv rfl li_45 c_h28
          unfold fX12_isLetter_30
          have h30 : ((1 : Int32)).toInt = 1 := li_1
          exact Sp.so (by omega)
        · have h31 := neq_iv rfl li_45 c_h28
          have h32 : ((0 : Int32)).toInt = 0 := li_0
          exact Sp.so (by omega)
      · have h33 := nlt_iv rfl li_48 c_h26
        refine Sp.i (fun c_h34 => ?_) (fun c_h34 => ?_)
        · have h35 := le_iv rfl li_57 c_h34
          unfold fX12_isLetter_30
          have h36 : ((1 : Int32)).toInt = 1 := li_1
          exact Sp.so (by omega)
        · have h37 := nle_iv rfl li_57 c_h34
          unfold fX12_isLetter_24
          refine Sp.i (fun c_h38 => ?_) (fun c_h38 => ?_)
          · have h39 := eq_iv rfl li_45 c_h38
            unfold fX12_isLetter_30
            have h40 : ((1 : Int32)).toInt = 1 := li_1
            exact Sp.so (by omega)
          · have h41 := neq_iv rfl li_45 c_h38
            have h42 : ((0 : Int32)).toInt = 0 := li_0
            exact Sp.so (by omega)
theorem s_fX12_isText_27 (fu : Nat) (hfu : 1000000000000000000 ≤ fu) : ∀ (n : Nat) (x1 : Int32) (x2 : Int32) (x3 : Int32) (S : St), Inv S → PX S → ((x1).toInt ≤ 1000) → (0 ≤ (x1).toInt) → (0 ≤ (x2).toInt) → ((x2).toInt ≤ (x3).toInt ) → ((x3).toInt ≤ (x1).toInt + 1) → ((x2).toInt ≤ 1000 ∨ (x1).toInt < (x3).toInt) → (1002 - (x3).toInt).toNat < n → Sf (fX12_isText_27 fu n x1 x2 x3 S) (fun U r => Inv U ∧ Fr [(63, 9), (68, 0), (69, 0)] S U ∧ ((0 ≤ r.toInt) ∧ (r.toInt ≤ 1)) ∧ PX U) := by
  intro n
  induction n with
  | zero => intro x1 x2 x3 S I_S PX_S g0 g1 g2 g3 g4 g5 hm; exact absurd hm (Nat.not_lt_zero _)
  | succ n ih =>
    intro x1 x2 x3 S I_S PX_S g0 g1 g2 g3 g4 g5 hm
    rw [fX12_isText_27_s]
    have F_S : Fr [(63, 9), (68, 0), (69, 0)] S S := Fr.refl _ _
    have h1 := i32 x1
    have h2 := i32 x3
    refine Sf.i (fun c_h3 => ?_) (fun c_h3 => ?_)
    · have h4 := lt_iv rfl rfl c_h3
      have h5 : ((1 : Int32)).toInt = 1 := li_1
      exact Sf.so ⟨I_S, F_S, by omega, PX_S⟩
    · have h6 := nlt_iv rfl rfl c_h3
      refine Sf.i (fun c_h7 => ?_) (fun c_h7 => ?_)
      · have h8 := le_iv rfl rfl c_h7
        unfold fX12_isText_62
        have h9 := i32 x2
        refine Sf.i (fun c_h10 => ?_) (fun c_h10 => ?_)
        · have h11 := eq_iv rfl rfl c_h10
          have h12 : ((0 : Int32)).toInt = 0 := li_0
          exact Sf.so ⟨I_S, F_S, by omega, PX_S⟩
        · have h13 := neq_iv rfl rfl c_h10
          try have h14 : ((x3 - x2)).toInt = (x3).toInt - (x2).toInt := sub_iv rfl rfl (by omega) (by omega)
          refine Sf.i (fun c_h15 => ?_) (fun c_h15 => ?_)
          · have h16 := lt_iv li_10 rfl c_h15
            have h17 : ((0 : Int32)).toInt = 0 := li_0
            exact Sf.so ⟨I_S, F_S, by omega, PX_S⟩
          · have h18 := nlt_iv li_10 rfl c_h15
            have h19 := b_63_8 I_S
            refine Sf.i (fun c_h20 => ?_) (fun c_h20 => ?_)
            · have h21 := eq_iv rfl li_6 c_h20
              have h22 : ((0 : Int32)).toInt = 0 := li_0
              exact Sf.so ⟨I_S, F_S, by omega, PX_S⟩
            · have h23 := neq_iv rfl li_6 c_h20
              refine Sf.g (ck_iv (by omega) (by omega)) ?_
              refine Sf.w I_S F_S rfl (show ((0) : Int) ≤ (x2).toInt by omega) (show (x2).toInt ≤ (1000 : Int) by omega) (fun S_95 I_S_95 F_S_95 v_S_95 f_S_95 l_S_95 => ?_)
              have h24 := ti_eq (f_S_95 63 8 (fun e => absurd e (by decide)))
              have h25 : (S_95.1 68 (((S.1 63 8)).toNatClampNeg)).toInt = (x2).toInt := eq_iv rfl rfl v_S_95
              have h26 : (S_95.1 68 (((S_95.1 63 8)).toNatClampNeg)).toInt = (x2).toInt := by rw [f_S_95 63 8 (fun e => absurd e (by decide))]; exact eq_iv rfl rfl v_S_95
              have hc1 := cl_iv (b_63_8 I_S).1
              have PX_S_95 : PX S_95 := RG_w PX_S (by decide) (by omega) f_S_95
              have h27 := b_63_8 I_S_95
              refine Sf.g (ck_iv (by omega) (by omega)) ?_
              refine Sf.w I_S_95 F_S_95 rfl (show ((0) : Int) ≤ ((x3 - x2)).toInt by omega) (show ((x3 - x2)).toInt ≤ (10 : Int) by omega) (fun S_107 I_S_107 F_S_107 v_S_107 f_S_107 l_S_107 => ?_)
              have h28 := ti_eq (f_S_107 63 8 (fun e => absurd e (by decide)))
              have h29 : (S_107.1 69 (((S_95.1 63 8)).toNatClampNeg)).toInt = ((x3 - x2)).toInt := eq_iv rfl rfl v_S_107
              have h30 : (S_107.1 69 (((S_107.1 63 8)).toNatClampNeg)).toInt = ((x3 - x2)).toInt := by rw [f_S_107 63 8 (fun e => absurd e (by decide))]; exact eq_iv rfl rfl v_S_107
              have hc2 := cl_iv (b_63_8 I_S_95).1
              have PX_S_107 : PX S_107 := RG_w PX_S_95 (by decide) (by omega) f_S_107
              have h31 : (S_107.1 68 (((S.1 63 8)).toNatClampNeg)).toInt = (S_95.1 68 (((S.1 63 8)).toNatClampNeg)).toInt := ti_eq (f_S_107 68 (((S.1 63 8)).toNatClampNeg) (fun e => absurd e (by decide)))
              have h32 : (S_107.1 68 (((S_95.1 63 8)).toNatClampNeg)).toInt = (S_95.1 68 (((S_95.1 63 8)).toNatClampNeg)).toInt := ti_eq (f_S_107 68 (((S_95.1 63 8)).toNatClampNeg) (fun e => absurd e (by decide)))
              have h33 : (S_107.1 68 (((S_107.1 63 8)).toNatClampNeg)).toInt = (S_95.1 68 (((S_95.1 63 8)).toNatClampNeg)).toInt := by rw [f_S_107 63 8 (fun e => absurd e (by decide))]; exact ti_eq (f_S_107 68 (((S_95.1 63 8)).toNatClampNeg) (fun e => absurd e (by decide)))
              have h34 := b_63_8 I_S_107
              try have h35 : (((S_107.1 63 8) + (1 : Int32))).toInt = ((S_107.1 63 8)).toInt + (1) := add_iv rfl li_1 (by omega) (by omega)
              refine Sf.w I_S_107 F_S_107 rfl (show ((0) : Int) ≤ (((S_107.1 63 8) + (1 : Int32))).toInt by omega) (show (((S_107.1 63 8) + (1 : Int32))).toInt ≤ (6 : Int) by omega) (fun S_115 I_S_115 F_S_115 v_S_115 f_S_115 l_S_115 => ?_)
              have h36 := eq_iv rfl rfl v_S_115
              have PX_S_115 : PX S_115 := RG_inc PX_S_107 (by decide) (by decide) f_S_115 (by omega) (by omega) (by show _ + _ ≤ _; omega)
              have h37 : (S_115.1 68 (((S.1 63 8)).toNatClampNeg)).toInt = (S_107.1 68 (((S.1 63 8)).toNatClampNeg)).toInt := ti_eq (f_S_115 68 (((S.1 63 8)).toNatClampNeg) (fun e => absurd e (by decide)))
              have h38 : (S_115.1 68 (((S_107.1 63 8)).toNatClampNeg)).toInt = (S_107.1 68 (((S_107.1 63 8)).toNatClampNeg)).toInt := ti_eq (f_S_115 68 (((S_107.1 63 8)).toNatClampNeg) (fun e => absurd e (by decide)))
              have h39 : (S_115.1 68 (((S_95.1 63 8)).toNatClampNeg)).toInt = (S_107.1 68 (((S_95.1 63 8)).toNatClampNeg)).toInt := ti_eq (f_S_115 68 (((S_95.1 63 8)).toNatClampNeg) (fun e => absurd e (by decide)))
              have h40 : (S_115.1 69 (((S_107.1 63 8)).toNatClampNeg)).toInt = (S_107.1 69 (((S_107.1 63 8)).toNatClampNeg)).toInt := ti_eq (f_S_115 69 (((S_107.1 63 8)).toNatClampNeg) (fun e => absurd e (by decide)))
              have h41 : (S_115.1 69 (((S_95.1 63 8)).toNatClampNeg)).toInt = (S_107.1 69 (((S_95.1 63 8)).toNatClampNeg)).toInt := ti_eq (f_S_115 69 (((S_95.1 63 8)).toNatClampNeg) (fun e => absurd e (by decide)))
              unfold fX12_isText_122
              try have h42 : ((x3 + (1 : Int32))).toInt = (x3).toInt + (1) := add_iv rfl li_1 (by omega) (by omega)
              refine Sf.mono (ih x1 (x3 + (1 : Int32)) (x3 + (1 : Int32)) S_115 I_S_115 PX_S_115 (by omega) (by omega) (by omega) (by omega) (by omega) (by omega) (by omega)) (fun U r p_h43 => ?_)
              obtain ⟨I_U, G_U, p_h43, PX_U⟩ := p_h43
              exact ⟨I_U, Fr.tr F_S_115 G_U rfl, by omega, PX_U⟩
      · have h44 := nle_iv rfl rfl c_h7
        refine Sf.g (ck_iv (by omega) (by omega)) ?_
        refine Sf.i (fun c_h45 => ?_) (fun c_h45 => ?_)
        · have h46 := eq_iv rfl li_46 c_h45
          unfold fX12_isText_62
          have h47 := i32 x2
          refine Sf.i (fun c_h48 => ?_) (fun c_h48 => ?_)
          · have h49 := eq_iv rfl rfl c_h48
            have h50 : ((0 : Int32)).toInt = 0 := li_0
            exact Sf.so ⟨I_S, F_S, by omega, PX_S⟩
          · have h51 := neq_iv rfl rfl c_h48
            try have h52 : ((x3 - x2)).toInt = (x3).toInt - (x2).toInt := sub_iv rfl rfl (by omega) (by omega)
            refine Sf.i (fun c_h53 => ?_) (fun c_h53 => ?_)
            · have h54 := lt_iv li_10 rfl c_h53
              have h55 : ((0 : Int32)).toInt = 0 := li_0
              exact Sf.so ⟨I_S, F_S, by omega, PX_S⟩
            · have h56 := nlt_iv li_10 rfl c_h53
              have h57 := b_63_8 I_S
              refine Sf.i (fun c_h58 => ?_) (fun c_h58 => ?_)
              · have h59 := eq_iv rfl li_6 c_h58
                have h60 : ((0 : Int32)).toInt = 0 := li_0
                exact Sf.so ⟨I_S, F_S, by omega, PX_S⟩
              · have h61 := neq_iv rfl li_6 c_h58
                refine Sf.g (ck_iv (by omega) (by omega)) ?_
                refine Sf.w I_S F_S rfl (show ((0) : Int) ≤ (x2).toInt by omega) (show (x2).toInt ≤ (1000 : Int) by omega) (fun S_95 I_S_95 F_S_95 v_S_95 f_S_95 l_S_95 => ?_)
                have h62 := ti_eq (f_S_95 63 8 (fun e => absurd e (by decide)))
                have h63 : (S_95.1 68 (((S.1 63 8)).toNatClampNeg)).toInt = (x2).toInt := eq_iv rfl rfl v_S_95
                have h64 : (S_95.1 68 (((S_95.1 63 8)).toNatClampNeg)).toInt = (x2).toInt := by rw [f_S_95 63 8 (fun e => absurd e (by decide))]; exact eq_iv rfl rfl v_S_95
                have hc1 := cl_iv (b_63_8 I_S).1
                have PX_S_95 : PX S_95 := RG_w PX_S (by decide) (by omega) f_S_95
                have h65 : (S_95.1 70 ((x3).toNatClampNeg)).toInt = (S.1 70 ((x3).toNatClampNeg)).toInt := ti_eq (f_S_95 70 ((x3).toNatClampNeg) (fun e => absurd e (by decide)))
                have h66 := b_63_8 I_S_95
                refine Sf.g (ck_iv (by omega) (by omega)) ?_
                refine Sf.w I_S_95 F_S_95 rfl (show ((0) : Int) ≤ ((x3 - x2)).toInt by omega) (show ((x3 - x2)).toInt ≤ (10 : Int) by omega) (fun S_107 I_S_107 F_S_107 v_S_107 f_S_107 l_S_107 => ?_)
                have h67 := ti_eq (f_S_107 63 8 (fun e => absurd e (by decide)))
                have h68 : (S_107.1 69 (((S_95.1 63 8)).toNatClampNeg)).toInt = ((x3 - x2)).toInt := eq_iv rfl rfl v_S_107
                have h69 : (S_107.1 69 (((S_107.1 63 8)).toNatClampNeg)).toInt = ((x3 - x2)).toInt := by rw [f_S_107 63 8 (fun e => absurd e (by decide))]; exact eq_iv rfl rfl v_S_107
                have hc2 := cl_iv (b_63_8 I_S_95).1
                have PX_S_107 : PX S_107 := RG_w PX_S_95 (by decide) (by omega) f_S_107
                have h70 : (S_107.1 68 (((S.1 63 8)).toNatClampNeg)).toInt = (S_95.1 68 (((S.1 63 8)).toNatClampNeg)).toInt := ti_eq (f_S_107 68 (((S.1 63 8)).toNatClampNeg) (fun e => absurd e (by decide)))
                have h71 : (S_107.1 68 (((S_95.1 63 8)).toNatClampNeg)).toInt = (S_95.1 68 (((S_95.1 63 8)).toNatClampNeg)).toInt := ti_eq (f_S_107 68 (((S_95.1 63 8)).toNatClampNeg) (fun e => absurd e (by decide)))
                have h72 : (S_107.1 68 (((S_107.1 63 8)).toNatClampNeg)).toInt = (S_95.1 68 (((S_95.1 63 8)).toNatClampNeg)).toInt := by rw [f_S_107 63 8 (fun e => absurd e (by decide))]; exact ti_eq (f_S_107 68 (((S_95.1 63 8)).toNatClampNeg) (fun e => absurd e (by decide)))
                have h73 : (S_107.1 70 ((x3).toNatClampNeg)).toInt = (S_95.1 70 ((x3).toNatClampNeg)).toInt := ti_eq (f_S_107 70 ((x3).toNatClampNeg) (fun e => absurd e (by decide)))
                have h74 := b_63_8 I_S_107
                try have h75 : (((S_107.1 63 8) + (1 : Int32))).toInt = ((S_107.1 63 8)).toInt + (1) := add_iv rfl li_1 (by omega) (by omega)
                refine Sf.w I_S_107 F_S_107 rfl (show ((0) : Int) ≤ (((S_107.1 63 8) + (1 : Int32))).toInt by omega) (show (((S_107.1 63 8) + (1 : Int32))).toInt ≤ (6 : Int) by omega) (fun S_115 I_S_115 F_S_115 v_S_115 f_S_115 l_S_115 => ?_)
                have h76 := eq_iv rfl rfl v_S_115
                have PX_S_115 : PX S_115 := RG_inc PX_S_107 (by decide) (by decide) f_S_115 (by omega) (by omega) (by show _ + _ ≤ _; omega)
                have h77 : (S_115.1 68 (((S.1 63 8)).toNatClampNeg)).toInt = (S_107.1 68 (((S.1 63 8)).toNatClampNeg)).toInt := ti_eq (f_S_115 68 (((S.1 63 8)).toNatClampNeg) (fun e => absurd e (by decide)))
                have h78 : (S_115.1 68 (((S_107.1 63 8)).toNatClampNeg)).toInt = (S_107.1 68 (((S_107.1 63 8)).toNatClampNeg)).toInt := ti_eq (f_S_115 68 (((S_107.1 63 8)).toNatClampNeg) (fun e => absurd e (by decide)))
                have h79 : (S_115.1 68 (((S_95.1 63 8)).toNatClampNeg)).toInt = (S_107.1 68 (((S_95.1 63 8)).toNatClampNeg)).toInt := ti_eq (f_S_115 68 (((S_95.1 63 8)).toNatClampNeg) (fun e => absurd e (by decide)))
                have h80 : (S_115.1 69 (((S_107.1 63 8)).toNatClampNeg)).toInt = (S_107.1 69 (((S_107.1 63 8)).toNatClampNeg)).toInt := ti_eq (f_S_115 69 (((S_107.1 63 8)).toNatClampNeg) (fun e => absurd e (by decide)))
                have h81 : (S_115.1 69 (((S_95.1 63 8)).toNatClampNeg)).toInt = (S_107.1 69 (((S_95.1 63 8)).toNatClampNeg)).toInt := ti_eq (f_S_115 69 (((S_95.1 63 8)).toNatClampNeg) (fun e => absurd e (by decide)))
                have h82 : (S_115.1 70 ((x3).toNatClampNeg)).toInt = (S_107.1 70 ((x3).toNatClampNeg)).toInt := ti_eq (f_S_115 70 ((x3).toNatClampNeg) (fun e => absurd e (by decide)))
                unfold fX12_isText_122
                try have h83 : ((x3 + (1 : Int32))).toInt = (x3).toInt + (1) := add_iv rfl li_1 (by omega) (by omega)
                refine Sf.mono (ih x1 (x3 + (1 : Int32)) (x3 + (1 : Int32)) S_115 I_S_115 PX_S_115 (by omega) (by omega) (by omega) (by omega) (by omega) (by omega) (by omega)) (fun U r p_h84 => ?_)
                obtain ⟨I_U, G_U, p_h84, PX_U⟩ := p_h84
                exact ⟨I_U, Fr.tr F_S_115 G_U rfl, by omega, PX_U⟩
        · have h85 := neq_iv rfl li_46 c_h45
          refine Sf.g (ck_iv (by omega) (by omega)) ?_
          refine Sf.bp (s_fX12_isLetter fu hfu (S.1 70 ((x3).toNatClampNeg)) S I_S) (fun r_54 p_r_54 => ?_)
          have h86 := i32 r_54
          refine Sf.i (fun c_h87 => ?_) (fun c_h87 => ?_)
          · have h88 := eq_iv rfl li_0 c_h87
            have h89 : ((0 : Int32)).toInt = 0 := li_0
            exact Sf.so ⟨I_S, F_S, by omega, PX_S⟩
          · have h90 := neq_iv rfl li_0 c_h87
            unfold fX12_isText_122
            have h91 := i32 x2
            try have h92 : ((x3 + (1 : Int32))).toInt = (x3).toInt + (1) := add_iv rfl li_1 (by omega) (by omega)
            refine Sf.mono (ih x1 x2 (x3 + (1 : Int32)) S I_S PX_S (by omega) (by omega) (by omega) (by omega) (by omega) (by omega) (by omega)) (fun U r p_h93 => ?_)
            obtain ⟨I_U, G_U, p_h93, PX_U⟩ := p_h93
            exact ⟨I_U, Fr.tr F_S G_U rfl, by omega, PX_U⟩
