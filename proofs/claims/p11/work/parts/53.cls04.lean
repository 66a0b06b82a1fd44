theorem s_fX6_keepFirstAlias (fu : Nat) (hfu : 1000000000000000000 ≤ fu) (x2 : Int32) (S : St) (I_S : Inv S) : Sf (fX6_keepFirstAlias fu x2 S) (fun U r => Inv U ∧ Fr [(42, 7), (42, 8), (43, 0), (44, 0), (46, 0), (47, 0), (48, 0), (61, 0)] S U ∧ ((0 ≤ r.toInt) ∧ (r.toInt ≤ 1))) := by
  unfold fX6_keepFirstAlias
  have F_S : Fr [(42, 7), (42, 8), (43, 0), (44, 0), (46, 0), (47, 0), (48, 0), (61, 0)] S S := Fr.refl _ _
  have h1 := i32 x2
  have h2 : ((0 : Int32)).toInt = 0 := li_0
  refine Sf.mono (s_fX6_keepFirstAlias_2 fu hfu fu x2 (0 : Int32) S I_S (by omega) (by omega)) (fun U r p_h3 => ?_)
  obtain ⟨I_U, G_U, p_h3⟩ := p_h3
  have h4 := ti_eq (G_U 30 5 rfl)
  exact ⟨I_U, Fr.tr F_S G_U rfl, by omega⟩
theorem s_fX6_learn (fu : Nat) (hfu : 1000000000000000000 ≤ fu) (S : St) (I_S : Inv S) : Sf (fX6_learn fu S) (fun U r => Inv U ∧ Fr [(42, 7), (42, 8), (43, 0), (44, 0), (46, 0), (47, 0), (48, 0), (61, 0), (62, 0)] S U ∧ (True)) := by
  unfold fX6_learn
  have F_S : Fr [(42, 7), (42, 8), (43, 0), (44, 0), (46, 0), (47, 0), (48, 0), (61, 0), (62, 0)] S S := Fr.refl _ _
  refine Sf.bp (s_fX4_rows fu hfu S I_S) (fun r_1_ p_r_1_ => ?_)
  refine Sf.bp (s_fX6_askedName fu hfu S I_S) (fun r_6 p_r_6 => ?_)
  refine Sf.bp (s_fX6_askedType fu hfu S I_S) (fun r_11 p_r_11 => ?_)
  have h1 : ((0 : Int32)).toInt = 0 := li_0
  have h2 := i32 r_6
  have h3 := i32 r_11
  refine Sf.b (s_fX6_keepSet fu hfu (0 : Int32) r_6 r_11 S I_S) (fun S_22 r_22 p_r_22 => ?_)
  obtain ⟨I_S_22, G_S_22, p_r_22⟩ := p_r_22
  have F_S_22 := Fr.tr F_S G_S_22 rfl
  have h4 := i32 r_22
  refine Sf.i (fun c_h5 => ?_) (fun c_h5 => ?_)
  · have h6 := le_iv rfl li_0 c_h5
    refine Sf.i (fun c_h7 => ?_) (fun c_h7 => ?_)
    · have h8 := eq_iv rfl li_5 c_h7
      unfold fX6_learn_45
      have h9 : ((1 : Int32)).toInt = 1 := li_1
      have h10 : ((6 : Int32)).toInt = 6 := li_6
      refine Sf.bp (s_fX5_first_30 fu hfu (1 : Int32) (6 : Int32) S_22 I_S_22) (fun r_49 p_r_49 => ?_)
      refine Sf.bp (s_fX4_flags fu hfu S_22 I_S_22) (fun r_55 p_r_55 => ?_)
      have h11 := i32 r_49
      refine Sf.i (fun c_h12 => ?_) (fun c_h12 => ?_)
      · have h13 := eq_iv rfl li_m1 c_h12
        unfold fX6_learn_87
        refine Sf.i (fun c_h14 => ?_) (fun c_h14 => ?_)
        · have h15 := eq_iv rfl li_m1 c_h14
          unfold fX6_learn_122
          refine Sf.b (s_fX6_keepReferral fu hfu r_6 S_22 I_S_22) (fun S_125 r_125_ p_r_125_ => ?_)
          obtain ⟨I_S_125, G_S_125, p_r_125_⟩ := p_r_125_
          have F_S_125 := Fr.tr F_S_22 G_S_125 rfl
          exact Sf.so ⟨I_S_125, F_S_125, trivial⟩
        · have h16 := neq_iv rfl li_m1 c_h14
          have h17 := i32 r_55
          have h18 := and_15 (r_55)
          refine Sf.i (fun c_h19 => ?_) (fun c_h19 => ?_)
          · have h20 := eq_iv rfl li_0 c_h19
            refine Sf.bp (s_fX4_flags fu hfu S_22 I_S_22) (fun r_99 p_r_99 => ?_)
            have h21 := i32 r_99
            refine Sf.i (fun c_h22 => ?_) (fun c_h22 => ?_)
            · have h23 := eq_iv rfl li_0 c_h22
              unfold fX6_learn_122
              refine Sf.b (s_fX6_keepReferral fu hfu r_6 S_22 I_S_22) (fun S_125 r_125_ p_r_125_ => ?_)
              obtain ⟨I_S_125, G_S_125, p_r_125_⟩ := p_r_125_
              have F_S_125 := Fr.tr F_S_22 G_S_125 rfl
              exact Sf.so ⟨I_S_125, F_S_125, trivial⟩
            · have h24 := neq_iv rfl li_0 c_h22
              refine Sf.b (s_fX6_keepNothing fu hfu r_49 r_6 r_11 S_22 I_S_22) (fun S_116 r_116_ p_r_116_ => ?_)
              obtain ⟨I_S_116, G_S_116, p_r_116_⟩ := p_r_116_
              have F_S_116 := Fr.tr F_S_22 G_S_116 rfl
              exact Sf.so ⟨I_S_116, F_S_116, trivial⟩
          · have h25 := neq_iv rfl li_0 c_h19
            unfold fX6_learn_122
            refine Sf.b (s_fX6_keepReferral fu hfu r_6 S_22 I_S_22) (fun S_125 r_125_ p_r_125_ => ?_)
            obtain ⟨I_S_125, G_S_125, p_r_125_⟩ := p_r_125_
            have F_S_125 := Fr.tr F_S_22 G_S_125 rfl
            exact Sf.so ⟨I_S_125, F_S_125, trivial⟩
      · have h26 := neq_iv rfl li_m1 c_h12
        have h27 := i32 r_55
        have h28 := and_15 (r_55)
        refine Sf.i (fun c_h29 => ?_) (fun c_h29 => ?_)
        · have h30 := eq_iv rfl li_3 c_h29
          refine Sf.b (s_fX6_keepNothing fu hfu r_49 r_6 (0 : Int32) S_22 I_S_22) (fun S_81 r_81_ p_r_81_ => ?_)
          obtain ⟨I_S_81, G_S_81, p_r_81_⟩ := p_r_81_
          have F_S_81 := Fr.tr F_S_22 G_S_81 rfl
          exact Sf.so ⟨I_S_81, F_S_81, trivial⟩
        · have h31 := neq_iv rfl li_3 c_h29
          unfold fX6_learn_87
          refine Sf.i (fun c_h32 => ?_) (fun c_h32 => ?_)
          · have h33 := eq_iv rfl li_m1 c_h32
            unfold fX6_learn_122
            refine Sf.b (s_fX6_keepReferral fu hfu r_6 S_22 I_S_22) (fun S_125 r_125_ p_r_125_ => ?_)
            obtain ⟨I_S_125, G_S_125, p_r_125_⟩ := p_r_125_
            have F_S_125 := Fr.tr F_S_22 G_S_125 rfl
            exact Sf.so ⟨I_S_125, F_S_125, trivial⟩
          · have h34 := neq_iv rfl li_m1 c_h32
            refine Sf.i (fun c_h35 => ?_) (fun c_h35 => ?_)
            · have h36 := eq_iv rfl li_0 c_h35
              refine Sf.bp (s_fX4_flags fu hfu S_22 I_S_22) (fun r_99 p_r_99 => ?_)
              have h37 := i32 r_99
              refine Sf.i (fun c_h38 => ?_) (fun c_h38 => ?_)
              · have h39 := eq_iv rfl li_0 c_h38
                unfold fX6_learn_122
                refine Sf.b (s_fX6_keepReferral fu hfu r_6 S_22 I_S_22) (fun S_125 r_125_ p_r_125_ => ?_)
                obtain ⟨I_S_125, G_S_125, p_r_125_⟩ := p_r_125_
                have F_S_125 := Fr.tr F_S_22 G_S_125 rfl
                exact Sf.so ⟨I_S_125, F_S_125, trivial⟩
              · have h40 := neq_iv rfl li_0 c_h38
                refine Sf.b (s_fX6_keepNothing fu hfu r_49 r_6 r_11 S_22 I_S_22) (fun S_116 r_116_ p_r_116_ => ?_)
                obtain ⟨I_S_116, G_S_116, p_r_116_⟩ := p_r_116_
                have F_S_116 := Fr.tr F_S_22 G_S_116 rfl
                exact Sf.so ⟨I_S_116, F_S_116, trivial⟩
            · have h41 := neq_iv rfl li_0 c_h35
              unfold fX6_learn_122
              refine Sf.b (s_fX6_keepReferral fu hfu r_6 S_22 I_S_22) (fun S_125 r_125_ p_r_125_ => ?_)
              obtain ⟨I_S_125, G_S_125, p_r_125_⟩ := p_r_125_
              have F_S_125 := Fr.tr F_S_22 G_S_125 rfl
              exact Sf.so ⟨I_S_125, F_S_125, trivial⟩
    · have h42 := neq_iv rfl li_5 c_h7
      refine Sf.b (s_fX6_keepFirstAlias fu hfu r_6 S_22 I_S_22) (fun S_38 r_38 p_r_38 => ?_)
      obtain ⟨I_S_38, G_S_38, p_r_38⟩ := p_r_38
      have F_S_38 := Fr.tr F_S_22 G_S_38 rfl
      have h43 := i32 r_38
      refine Sf.i (fun c_h44 => ?_) (fun c_h44 => ?_)
      · have h45 := eq_iv rfl li_0 c_h44
        unfold fX6_learn_45
        have h46 : ((1 : Int32)).toInt = 1 := li_1
        have h47 : ((6 : Int32)).toInt = 6 := li_6
        refine Sf.bp (s_fX5_first_30 fu hfu (1 : Int32) (6 : Int32) S_38 I_S_38) (fun r_49 p_r_49 => ?_)
        refine Sf.bp (s_fX4_flags fu hfu S_38 I_S_38) (fun r_55 p_r_55 => ?_)
        have h48 := i32 r_49
        refine Sf.i (fun c_h49 => ?_) (fun c_h49 => ?_)
        · have h50 := eq_iv rfl li_m1 c_h49
          unfold fX6_learn_87
          refine Sf.i (fun c_h51 => ?_) (fun c_h51 => ?_)
          · have h52 := eq_iv rfl li_m1 c_h51
            unfold fX6_learn_122
            refine Sf.b (s_fX6_keepReferral fu hfu r_6 S_38 I_S_38) (fun S_125 r_125_ p_r_125_ => ?_)
            obtain ⟨I_S_125, G_S_125, p_r_125_⟩ := p_r_125_
            have F_S_125 := Fr.tr F_S_38 G_S_125 rfl
            exact Sf.so ⟨I_S_125, F_S_125, trivial⟩
          · have h53 := neq_iv rfl li_m1 c_h51
            have h54 := i32 r_55
            have h55 := and_15 (r_55)
            refine Sf.i (fun c_h56 => ?_) (fun c_h56 => ?_)
            · have h57 := eq_iv rfl li_0 c_h56
              refine Sf.bp (s_fX4_flags fu hfu S_38 I_S_38) (fun r_99 p_r_99 => ?_)
              have h58 := i32 r_99
              refine Sf.i (fun c_h59 => ?_) (fun c_h59 => ?_)
              · have h60 := eq_iv rfl li_0 c_h59
                unfold fX6_learn_122
                refine Sf.b (s_fX6_keepReferral fu hfu r_6 S_38 I_S_38) (fun S_125 r_125_ p_r_125_ => ?_)
                obtain ⟨I_S_125, G_S_125, p_r_125_⟩ := p_r_125_
                have F_S_125 := Fr.tr F_S_38 G_S_125 rfl
                exact Sf.so ⟨I_S_125, F_S_125, trivial⟩
              · have h61 := neq_iv rfl li_0 c_h59
                refine Sf.b (s_fX6_keepNothing fu hfu r_49 r_6 r_11 S_38 I_S_38) (fun S_116 r_116_ p_r_116_ => ?_)
                obtain ⟨I_S_116, G_S_116, p_r_116_⟩ := p_r_116_
                have F_S_116 := Fr.tr F_S_38 G_S_116 rfl
                exact Sf.so ⟨I_S_116, F_S_116, trivial⟩
            · have h62 := neq_iv rfl li_0 c_h56
              unfold fX6_learn_122
              refine Sf.b (s_fX6_keepReferral fu hfu r_6 S_38 I_S_38) (fun S_125 r_125_ p_r_125_ => ?_)
              obtain ⟨I_S_125, G_S_125, p_r_125_⟩ := p_r_125_
              have F_S_125 := Fr.tr F_S_38 G_S_125 rfl
              exact Sf.so ⟨I_S_125, F_S_125, trivial⟩
        · have h63 := neq_iv rfl li_m1 c_h49
          have h64 := i32 r_55
          have h65 := and_15 (r_55)
          refine Sf.i (fun c_h66 => ?_) (fun c_h66 => ?_)
          · have h67 := eq_iv rfl li_3 c_h66
            refine Sf.b (s_fX6_keepNothing fu hfu r_49 r_6 (0 : Int32) S_38 I_S_38) (fun S_81 r_81_ p_r_81_ => ?_)
            obtain ⟨I_S_81, G_S_81, p_r_81_⟩ := p_r_81_
            have F_S_81 := Fr.tr F_S_38 G_S_81 rfl
            exact Sf.so ⟨I_S_81, F_S_81, trivial⟩
          · have h68 := neq_iv rfl li_3 c_h66
            unfold fX6_learn_87
            refine Sf.i (fun c_h69 => ?_) (fun c_h69 => ?_)
            · have h70 := eq_iv rfl li_m1 c_h69
              unfold fX6_learn_122
              refine Sf.b (s_fX6_keepReferral fu hfu r_6 S_38 I_S_38) (fun S_125 r_125_ p_r_125_ => ?_)
              obtain ⟨I_S_125, G_S_125, p_r_125_⟩ := p_r_125_
              have F_S_125 := Fr.tr F_S_38 G_S_125 rfl
              exact Sf.so ⟨I_S_125, F_S_125, trivial⟩
            · have h71 := neq_iv rfl li_m1 c_h69
              refine Sf.i (fun c_h72 => ?_) (fun c_h72 => ?_)
              · have h73 := eq_iv rfl li_0 c_h72
                refine Sf.bp (s_fX4_flags fu hfu S_38 I_S_38) (fun r_99 p_r_99 => ?_)
                have h74 := i32 r_99
                refine Sf.i (fun c_h75 => ?_) (fun c_h75 => ?_)
                · have h76 := eq_iv rfl li_0 c_h75
                  unfold fX6_learn_122
                  refine Sf.b (s_fX6_keepReferral fu hfu r_6 S_38 I_S_38) (fun S_125 r_125_ p_r_125_ => ?_)
                  obtain ⟨I_S_125, G_S_125, p_r_125_⟩ := p_r_125_
                  have F_S_125 := Fr.tr F_S_38 G_S_125 rfl
                  exact Sf.so ⟨I_S_125, F_S_125, trivial⟩
                · have h77 := neq_iv rfl li_0 c_h75
                  refine Sf.b (s_fX6_keepNothing fu hfu r_49 r_6 r_11 S_38 I_S_38) (fun S_116 r_116_ p_r_116_ => ?_)
                  obtain ⟨I_S_116, G_S_116, p_r_116_⟩ := p_r_116_
                  have F_S_116 := Fr.tr F_S_38 G_S_116 rfl
                  exact Sf.so ⟨I_S_116, F_S_116, trivial⟩
              · have h78 := neq_iv rfl li_0 c_h72
                unfold fX6_learn_122
                refine Sf.b (s_fX6_keepReferral fu hfu r_6 S_38 I_S_38) (fun S_125 r_125_ p_r_125_ => ?_)
                obtain ⟨I_S_125, G_S_125, p_r_125_⟩ := p_r_125_
                have F_S_125 := Fr.tr F_S_38 G_S_125 rfl
                exact Sf.so ⟨I_S_125, F_S_125, trivial⟩
      · have h79 := neq_iv rfl li_0 c_h44
        exact Sf.so ⟨I_S_38, F_S_38, trivial⟩
  · have h80 := nle_iv rfl li_0 c_h5
    exact Sf.so ⟨I_S_22, F_S_22, trivial⟩
theorem s_fX11_step (fu : Nat) (hfu : 1000000000000000000 ≤ fu) (S : St) (I_S : Inv S) : Sf (fX11_step fu S) (fun U r => Inv U ∧ Fr [(3, 4), (4, 0), (6, 0), (19, 2), (19, 3), (20, 0), (21, 0), (22, 0), (26, 4), (26, 5), (26, 6), (26, 7), (26, 8), (26, 9), (26, 10), (27, 3), (29, 0), (30, 6), (31, 0), (32, 0), (33, 0), (34, 0), (35, 0), (42, 7), (42, 8), (43, 0), (44, 0), (46, 0), (47, 0), (48, 0), (49, 6), (49, 7), (49, 8), (49, 9), (49, 10), (49, 12), (50, 9), (50, 10), (51, 0), (52, 0), (53, 0), (54, 0), (55, 0), (56, 0), (57, 0), (58, 0), (60, 0), (61, 0), (62, 0)] S U ∧ (((r.1 = 0 ∨ r.1 = 5)))) := by
  unfold fX11_step
  have F_S : Fr [(3, 4), (4, 0), (6, 0), (19, 2), (19, 3), (20, 0), (21, 0), (22, 0), (26, 4), (26, 5), (26, 6), (26, 7), (26, 8), (26, 9), (26, 10), (27, 3), (29, 0), (30, 6), (31, 0), (32, 0), (33, 0), (34, 0), (35, 0), (42, 7), (42, 8), (43, 0), (44, 0), (46, 0), (47, 0), (48, 0), (49, 6), (49, 7), (49, 8), (49, 9), (49, 10), (49, 12), (50, 9), (50, 10), (51, 0), (52, 0), (53, 0), (54, 0), (55, 0), (56, 0), (57, 0), (58, 0), (60, 0), (61, 0), (62, 0)] S S := Fr.refl _ _
  refine Sf.xp (s_fX11_needQuery fu hfu S I_S) (fun r_1_ p_r_1_ => ?_) (fun k r p_e => ?_)
  rotate_left
  · have p_e : (((k + 1) = 0 ∨ (k + 1) = 5)) := p_e
    exact ⟨I_S, F_S, (show (((k + 1) = 0 ∨ (k + 1) = 5)) by omega)⟩
  have p_r_1_ : (((0 : Nat) = 0 ∨ (0 : Nat) = 5)) := p_r_1_
  refine Sf.bp (s_fX6_address fu hfu S I_S) (fun r_12 p_r_12 => ?_)
  have h1 := i32 r_12
  have h2 := b_23_4 I_S
  refine Sf.bp (s_fX7_ofAddress fu hfu r_12 S I_S) (fun r_15 p_r_15 => ?_)
  refine Sf.bp (s_fX6_askedName fu hfu S I_S) (fun r_28 p_r_28 => ?_)
  have h3 := i32 r_15
  have h4 := i32 r_28
  have h5 := b_10_3 I_S
  refine Sf.bp (s_fX7_zoneFor fu hfu r_15 r_28 S I_S) (fun r_31 p_r_31 => ?_)
  have h6 := i32 r_31
  refine Sf.i (fun c_h7 => ?_) (fun c_h7 => ?_)
  · have h8 := eq_iv rfl li_m1 c_h7
    unfold fX11_step_120
    refine Sf.b (s_fX6_goOn fu hfu S I_S) (fun S_124 r_124 p_r_124 => ?_)
    obtain ⟨I_S_124, G_S_124, p_r_124⟩ := p_r_124
    have F_S_124 := Fr.tr F_S G_S_124 rfl
    have h9 := ti_eq (G_S_124 10 3 rfl)
    have h10 := ti_eq (G_S_124 23 4 rfl)
    exact Sf.so ⟨I_S_124, F_S_124, (show (((0 : Nat) = 0 ∨ (0 : Nat) = 5)) by omega)⟩
  · have h11 := neq_iv rfl li_m1 c_h7
    refine Sf.bp (s_fX6_askedName fu hfu S I_S) (fun r_49 p_r_49 => ?_)
    refine Sf.bp (s_fX6_askedType fu hfu S I_S) (fun r_56 p_r_56 => ?_)
    refine Sf.bp (s_fX6_id fu hfu S I_S) (fun r_63 p_r_63 => ?_)
    have h12 := i32 r_49
    have h13 := i32 r_56
    have h14 := i32 r_63
    refine Sf.b (s_fX10_tell fu hfu r_31 r_49 r_56 r_63 S I_S) (fun S_70 r_70 p_r_70 => ?_)
    obtain ⟨I_S_70, G_S_70, p_r_70⟩ := p_r_70
    have F_S_70 := Fr.tr F_S G_S_70 rfl
    have h15 := ti_eq (G_S_70 10 3 rfl)
    have h16 := ti_eq (G_S_70 23 4 rfl)
    have h17 := i32 r_70
    refine Sf.i (fun c_h18 => ?_) (fun c_h18 => ?_)
    · have h19 := eq_iv rfl li_0 c_h18
      unfold fX11_step_120
      refine Sf.b (s_fX6_goOn fu hfu S_70 I_S_70) (fun S_124 r_124 p_r_124 => ?_)
      obtain ⟨I_S_124, G_S_124, p_r_124⟩ := p_r_124
      have F_S_124 := Fr.tr F_S_70 G_S_124 rfl
      have h20 := ti_eq (G_S_124 10 3 rfl)
      have h21 := ti_eq (G_S_124 23 4 rfl)
      exact Sf.so ⟨I_S_124, F_S_124, (show (((0 : Nat) = 0 ∨ (0 : Nat) = 5)) by omega)⟩
    · have h22 := neq_iv rfl li_0 c_h18
      refine Sf.bp (s_fX9_message fu hfu S_70 I_S_70) (fun r_84_ p_r_84_ => ?_)
      refine Sf.b (s_fX4_read_19 fu hfu S_70 I_S_70) (fun S_87 r_87 p_r_87 => ?_)
      obtain ⟨I_S_87, G_S_87, p_r_87⟩ := p_r_87
      have F_S_87 := Fr.tr F_S_70 G_S_87 rfl
      have h23 := ti_eq (G_S_87 10 3 rfl)
      have h24 := ti_eq (G_S_87 23 4 rfl)
      have h25 := i32 r_87
      refine Sf.i (fun c_h26 => ?_) (fun c_h26 => ?_)
      · have h27 := eq_iv rfl li_0 c_h26
        refine Sf.bp (s_fX6_isAnsweredBy fu hfu S_87 I_S_87) (fun r_103 p_r_103 => ?_)
        have h28 := i32 r_103
        refine Sf.i (fun c_h29 => ?_) (fun c_h29 => ?_)
        · have h30 := eq_iv rfl li_0 c_h29
          unfold fX11_step_120
          refine Sf.b (s_fX6_goOn fu hfu S_87 I_S_87) (fun S_124 r_124 p_r_124 => ?_)
          obtain ⟨I_S_124, G_S_124, p_r_124⟩ := p_r_124
          have F_S_124 := Fr.tr F_S_87 G_S_124 rfl
          have h31 := ti_eq (G_S_124 10 3 rfl)
          have h32 := ti_eq (G_S_124 23 4 rfl)
          exact Sf.so ⟨I_S_124, F_S_124, (show (((0 : Nat) = 0 ∨ (0 : Nat) = 5)) by omega)⟩
        · have h33 := neq_iv rfl li_0 c_h29
          refine Sf.b (s_fX6_learn fu hfu S_87 I_S_87) (fun S_117 r_117_ p_r_117_ => ?_)
          obtain ⟨I_S_117, G_S_117, p_r_117_⟩ := p_r_117_
          have F_S_117 := Fr.tr F_S_87 G_S_117 rfl
          have h34 := ti_eq (G_S_117 10 3 rfl)
          have h35 := ti_eq (G_S_117 23 4 rfl)
          unfold fX11_step_120
          refine Sf.b (s_fX6_goOn fu hfu S_117 I_S_117) (fun S_124 r_124 p_r_124 => ?_)
          obtain ⟨I_S_124, G_S_124, p_r_124⟩ := p_r_124
          have F_S_124 := Fr.tr F_S_117 G_S_124 rfl
          have h36 := ti_eq (G_S_124 10 3 rfl)
          have h37 := ti_eq (G_S_124 23 4 rfl)
          exact Sf.so ⟨I_S_124, F_S_124, (show (((0 : Nat) = 0 ∨ (0 : Nat) = 5)) by omega)⟩
      · have h38 := neq_iv rfl li_0 c_h26
        unfold fX11_step_120
        refine Sf.b (s_fX6_goOn fu hfu S_87 I_S_87) (fun S_124 r_124 p_r_124 => ?_)
        obtain ⟨I_S_124, G_S_124, p_r_124⟩ := p_r_124
        have F_S_124 := Fr.tr F_S_87 G_S_124 rfl
        have h39 := ti_eq (G_S_124 10 3 rfl)
        have h40 := ti_eq (G_S_124 23 4 rfl)
        exact Sf.so ⟨I_S_124, F_S_124, (show (((0 : Nat) = 0 ∨ (0 : Nat) = 5)) by omega)⟩
theorem s_fX11_lose (fu : Nat) (hfu : 1000000000000000000 ≤ fu) (S : St) (I_S : Inv S) : Sf (fX11_lose fu S) (fun U r => Inv U ∧ Fr [(49, 6), (49, 7), (49, 8), (49, 9), (49, 10), (49, 12), (50, 9), (50, 10), (51, 0), (52, 0), (53, 0), (54, 0), (55, 0), (56, 0), (57, 0), (58, 0), (60, 0)] S U ∧ (((r.1 = 0 ∨ r.1 = 5)))) := by
  unfold fX11_lose
  have F_S : Fr [(49, 6), (49, 7), (49, 8), (49, 9), (49, 10), (49, 12), (50, 9), (50, 10), (51, 0), (52, 0), (53, 0), (54, 0), (55, 0), (56, 0), (57, 0), (58, 0), (60, 0)] S S := Fr.refl _ _
  refine Sf.xp (s_fX11_needQuery fu hfu S I_S) (fun r_1_ p_r_1_ => ?_) (fun k r p_e => ?_)
  rotate_left
  · have p_e : (((k + 1) = 0 ∨ (k + 1) = 5)) := p_e
    exact ⟨I_S, F_S, (show (((k + 1) = 0 ∨ (k + 1) = 5)) by omega)⟩
  have p_r_1_ : (((0 : Nat) = 0 ∨ (0 : Nat) = 5)) := p_r_1_
  refine Sf.b (s_fX6_goOn fu hfu S I_S) (fun S_8 r_8 p_r_8 => ?_)
  obtain ⟨I_S_8, G_S_8, p_r_8⟩ := p_r_8
  have F_S_8 := Fr.tr F_S G_S_8 rfl
  exact Sf.so ⟨I_S_8, F_S_8, (show (((0 : Nat) = 0 ∨ (0 : Nat) = 5)) by omega)⟩
theorem s_fX11_forge (fu : Nat) (hfu : 1000000000000000000 ≤ fu) (S : St) (I_S : Inv S) : Sf (fX11_forge fu S) (fun U r => Inv U ∧ Fr [(1, 2), (1, 3), (3, 4), (4, 0), (6, 0), (26, 4), (26, 5), (26, 6), (26, 7), (26, 8), (26, 9), (26, 10), (27, 3), (29, 0), (30, 6), (31, 0), (32, 0), (33, 0), (34, 0), (35, 0), (42, 7), (42, 8), (43, 0), (44, 0), (46, 0), (47, 0), (48, 0), (49, 6), (49, 7), (49, 8), (49, 9), (49, 10), (49, 12), (50, 9), (50, 10), (51, 0), (52, 0), (53, 0), (54, 0), (55, 0), (56, 0), (57, 0), (58, 0), (60, 0), (61, 0), (62, 0)] S U ∧ (((r.1 = 0 ∨ r.1 = 5)))) := by
  unfold fX11_forge
  have F_S : Fr [(1, 2), (1, 3), (3, 4), (4, 0), (6, 0), (26, 4), (26, 5), (26, 6), (26, 7), (26, 8), (26, 9), (26, 10), (27, 3), (29, 0), (30, 6), (31, 0), (32, 0), (33, 0), (34, 0), (35, 0), (42, 7), (42, 8), (43, 0), (44, 0), (46, 0), (47, 0), (48, 0), (49, 6), (49, 7), (49, 8), (49, 9), (49, 10), (49, 12), (50, 9), (50, 10), (51, 0), (52, 0), (53, 0), (54, 0), (55, 0), (56, 0), (57, 0), (58, 0), (60, 0), (61, 0), (62, 0)] S S := Fr.refl _ _
  refine Sf.bp (s_fX6_isWaiting fu hfu S I_S) (fun r_4 p_r_4 => ?_)
  have h1 := i32 r_4
  refine Sf.i (fun c_h2 => ?_) (fun c_h2 => ?_)
  · have h3 := eq_iv rfl li_0 c_h2
    refine Sf.b (s_fX0_clear_1 fu hfu S I_S) (fun S_14 r_14_ p_r_14_ => ?_)
    obtain ⟨I_S_14, G_S_14, p_r_14_⟩ := p_r_14_
    have F_S_14 := Fr.tr F_S G_S_14 rfl
    exact Sf.so ⟨I_S_14, F_S_14, (show (((5 : Nat) = 0 ∨ (5 : Nat) = 5)) by omega)⟩
  · have h4 := neq_iv rfl li_0 c_h2
    refine Sf.b (s_fX4_read_1 fu hfu S I_S) (fun S_36 r_36 p_r_36 => ?_)
    obtain ⟨I_S_36, G_S_36, p_r_36⟩ := p_r_36
    have F_S_36 := Fr.tr F_S G_S_36 rfl
    refine Sf.b (s_fX0_clear_1 fu hfu S_36 I_S_36) (fun S_44 r_44_ p_r_44_ => ?_)
    obtain ⟨I_S_44, G_S_44, p_r_44_⟩ := p_r_44_
    have F_S_44 := Fr.tr F_S_36 G_S_44 rfl
    have h5 := i32 r_36
    refine Sf.i (fun c_h6 => ?_) (fun c_h6 => ?_)
    · have h7 := eq_iv rfl li_0 c_h6
      refine Sf.bp (s_fX6_isAnsweredBy fu hfu S_44 I_S_44) (fun r_59 p_r_59 => ?_)
      have h8 := i32 r_59
      refine Sf.i (fun c_h9 => ?_) (fun c_h9 => ?_)
      · have h10 := eq_iv rfl li_0 c_h9
        exact Sf.so ⟨I_S_44, F_S_44, (show (((0 : Nat) = 0 ∨ (0 : Nat) = 5)) by omega)⟩
      · have h11 := neq_iv rfl li_0 c_h9
        refine Sf.b (s_fX6_learn fu hfu S_44 I_S_44) (fun S_75 r_75_ p_r_75_ => ?_)
        obtain ⟨I_S_75, G_S_75, p_r_75_⟩ := p_r_75_
        have F_S_75 := Fr.tr F_S_44 G_S_75 rfl
        refine Sf.b (s_fX6_goOn fu hfu S_75 I_S_75) (fun S_82 r_82 p_r_82 => ?_)
        obtain ⟨I_S_82, G_S_82, p_r_82⟩ := p_r_82
        have F_S_82 := Fr.tr F_S_75 G_S_82 rfl
        exact Sf.so ⟨I_S_82, F_S_82, (show (((0 : Nat) = 0 ∨ (0 : Nat) = 5)) by omega)⟩
    · have h12 := neq_iv rfl li_0 c_h6
      exact Sf.so ⟨I_S_44, F_S_44, (show (((0 : Nat) = 0 ∨ (0 : Nat) = 5)) by omega)⟩
theorem s_fX6_depth (fu : Nat) (hfu : 1000000000000000000 ≤ fu) (S : St) (I_S : Inv S) : Sp (fX6_depth fu S) S (fun r => True) := by
  unfold fX6_depth
  have h1 := b_50_8 I_S
  refine Sp.b (s_fX2_depth fu hfu S I_S) (fun r_4 p_r_4 => ?_)
  exact Sp.so trivial
theorem s_fX6_place (fu : Nat) (hfu : 1000000000000000000 ≤ fu) (S : St) (I_S : Inv S) : Sp (fX6_place fu S) S (fun r => True) := by
  unfold fX6_place
  refine Sp.b (s_fX2_topPlace fu hfu S I_S) (fun r_4 p_r_4 => ?_)
  exact Sp.so trivial
theorem s_fX11_query (fu : Nat) (hfu : 1000000000000000000 ≤ fu) (x1 : Int32) (S : St) (I_S : Inv S) : Sp (fX11_query fu x1 S) S (fun r => ((r.1 = 0 ∨ r.1 = 5 ∨ r.1 = 4))) := by
  unfold fX11_query
  refine Sp.x (s_fX11_needQuery fu hfu S I_S) (fun r_1_ p_r_1_ => ?_) (fun k r p_e => ?_)
  rotate_left
  · have p_e : (((k + 1) = 0 ∨ (k + 1) = 5)) := p_e
    exact (show (((k + 1) = 0 ∨ (k + 1) = 5 ∨ (k + 1) = 4)) by omega)
  have p_r_1_ : (((0 : Nat) = 0 ∨ (0 : Nat) = 5)) := p_r_1_
  have h1 := i32 x1
  refine Sp.i (fun c_h2 => ?_) (fun c_h2 => ?_)
  · have h3 := eq_iv rfl li_0 c_h2
    refine Sp.b (s_fX6_address fu hfu S I_S) (fun r_48 p_r_48 => ?_)
    exact Sp.so (show (((0 : Nat) = 0 ∨ (0 : Nat) = 5 ∨ (0 : Nat) = 4)) by omega)
  · have h4 := neq_iv rfl li_0 c_h2
    refine Sp.i (fun c_h5 => ?_) (fun c_h5 => ?_)
    · have h6 := eq_iv rfl li_1 c_h5
      refine Sp.b (s_fX6_id fu hfu S I_S) (fun r_56 p_r_56 => ?_)
      exact Sp.so (show (((0 : Nat) = 0 ∨ (0 : Nat) = 5 ∨ (0 : Nat) = 4)) by omega)
    · have h7 := neq_iv rfl li_1 c_h5
      refine Sp.i (fun c_h8 => ?_) (fun c_h8 => ?_)
      · have h9 := eq_iv rfl li_2 c_h8
        refine Sp.b (s_fX6_askedName fu hfu S I_S) (fun r_64 p_r_64 => ?_)
        exact Sp.so (show (((0 : Nat) = 0 ∨ (0 : Nat) = 5 ∨ (0 : Nat) = 4)) by omega)
      · have h10 := neq_iv rfl li_2 c_h8
        refine Sp.i (fun c_h11 => ?_) (fun c_h11 => ?_)
        · have h12 := eq_iv rfl li_3 c_h11
          refine Sp.b (s_fX6_askedType fu hfu S I_S) (fun r_72 p_r_72 => ?_)
          exact Sp.so (show (((0 : Nat) = 0 ∨ (0 : Nat) = 5 ∨ (0 : Nat) = 4)) by omega)
        · have h13 := neq_iv rfl li_3 c_h11
          refine Sp.i (fun c_h14 => ?_) (fun c_h14 => ?_)
          · have h15 := eq_iv rfl li_4 c_h14
            refine Sp.b (s_fX6_depth fu hfu S I_S) (fun r_80 p_r_80 => ?_)
            exact Sp.so (show (((0 : Nat) = 0 ∨ (0 : Nat) = 5 ∨ (0 : Nat) = 4)) by omega)
          · have h16 := neq_iv rfl li_4 c_h14
            refine Sp.i (fun c_h17 => ?_) (fun c_h17 => ?_)
            · have h18 := eq_iv rfl li_5 c_h17
              refine Sp.b (s_fX6_place fu hfu S I_S) (fun r_88 p_r_88 => ?_)
              exact Sp.so (show (((0 : Nat) = 0 ∨ (0 : Nat) = 5 ∨ (0 : Nat) = 4)) by omega)
            · have h19 := neq_iv rfl li_5 c_h17
              exact Sp.so (show (((4 : Nat) = 0 ∨ (4 : Nat) = 5 ∨ (4 : Nat) = 4)) by omega)
theorem s_fX6_foundSize (fu : Nat) (hfu : 1000000000000000000 ≤ fu) (S : St) (I_S : Inv S) : Sp (fX6_foundSize fu S) S (fun r => True) := by
  unfold fX6_foundSize
  exact Sp.so trivial
theorem s_fX2_firstChains (fu : Nat) (hfu : 1000000000000000000 ≤ fu) (S : St) (I_S : Inv S) : Sp (fX2_firstChains fu S) S (fun r => True) := by
  unfold fX2_firstChains
  refine Sp.g (by decide) ?_
  exact Sp.so trivial
theorem s_fX6_firstChains (fu : Nat) (hfu : 1000000000000000000 ≤ fu) (S : St) (I_S : Inv S) : Sp (fX6_firstChains fu S) S (fun r => True) := by
  unfold fX6_firstChains
  refine Sp.b (s_fX2_firstChains fu hfu S I_S) (fun r_4 p_r_4 => ?_)
  exact Sp.so trivial
theorem s_fX2_firstName (fu : Nat) (hfu : 1000000000000000000 ≤ fu) (S : St) (I_S : Inv S) : Sp (fX2_firstName fu S) S (fun r => True) := by
  unfold fX2_firstName
  refine Sp.g (by decide) ?_
  exact Sp.so trivial
theorem s_fX6_firstName (fu : Nat) (hfu : 1000000000000000000 ≤ fu) (S : St) (I_S : Inv S) : Sp (fX6_firstName fu S) S (fun r => True) := by
  unfold fX6_firstName
  refine Sp.b (s_fX2_firstName fu hfu S I_S) (fun r_4 p_r_4 => ?_)
  exact Sp.so trivial
theorem s_fX6_sent (fu : Nat) (hfu : 1000000000000000000 ≤ fu) (S : St) (I_S : Inv S) : Sp (fX6_sent fu S) S (fun r => True) := by
  unfold fX6_sent
  exact Sp.so trivial
theorem s_fX11_result (fu : Nat) (hfu : 1000000000000000000 ≤ fu) (x1 : Int32) (S : St) (I_S : Inv S) : Sp (fX11_result fu x1 S) S (fun r => ((r.1 = 0 ∨ r.1 = 4))) := by
  unfold fX11_result
  have h1 := i32 x1
  refine Sp.i (fun c_h2 => ?_) (fun c_h2 => ?_)
  · have h3 := eq_iv rfl li_0 c_h2
    refine Sp.b (s_fX6_state fu hfu S I_S) (fun r_40 p_r_40 => ?_)
    exact Sp.so (show (((0 : Nat) = 0 ∨ (0 : Nat) = 4)) by omega)
  · have h4 := neq_iv rfl li_0 c_h2
    refine Sp.i (fun c_h5 => ?_) (fun c_h5 => ?_)
    · have h6 := eq_iv rfl li_1 c_h5
      refine Sp.b (s_fX6_foundSize fu hfu S I_S) (fun r_48 p_r_48 => ?_)
      exact Sp.so (show (((0 : Nat) = 0 ∨ (0 : Nat) = 4)) by omega)
    · have h7 := neq_iv rfl li_1 c_h5
      refine Sp.i (fun c_h8 => ?_) (fun c_h8 => ?_)
      · have h9 := eq_iv rfl li_2 c_h8
        refine Sp.b (s_fX6_firstChains fu hfu S I_S) (fun r_56 p_r_56 => ?_)
        exact Sp.so (show (((0 : Nat) = 0 ∨ (0 : Nat) = 4)) by omega)
      · have h10 := neq_iv rfl li_2 c_h8
        refine Sp.i (fun c_h11 => ?_) (fun c_h11 => ?_)
        · have h12 := eq_iv rfl li_3 c_h11
          refine Sp.b (s_fX6_firstName fu hfu S I_S) (fun r_64 p_r_64 => ?_)
          exact Sp.so (show (((0 : Nat) = 0 ∨ (0 : Nat) = 4)) by omega)
        · have h13 := neq_iv rfl li_3 c_h11
          refine Sp.i (fun c_h14 => ?_) (fun c_h14 => ?_)
          · have h15 := eq_iv rfl li_4 c_h14
            refine Sp.b (s_fX6_sent fu hfu S I_S) (fun r_72 p_r_72 => ?_)
            exact Sp.so (show (((0 : Nat) = 0 ∨ (0 : Nat) = 4)) by omega)
          · have h16 := neq_iv rfl li_4 c_h14
            exact Sp.so (show (((4 : Nat) = 0 ∨ (4 : Nat) = 4)) by omega)
theorem s_fX6_found (fu : Nat) (hfu : 1000000000000000000 ≤ fu) (x1 : Int32) (S : St) (I_S : Inv S) : Sp (fX6_found fu x1 S) S (fun r => True) := by
  unfold fX6_found
  have h1 := i32 x1
  refine Sp.i (fun c_h2 => ?_) (fun c_h2 => ?_)
  · have h3 := lt_iv rfl li_0 c_h2
    exact Sp.so trivial
  · have h4 := nlt_iv rfl li_0 c_h2
    have h5 := b_49_11 I_S
    refine Sp.i (fun c_h6 => ?_) (fun c_h6 => ?_)
    · have h7 := le_iv rfl rfl c_h6
      exact Sp.so trivial
    · have h8 := nle_iv rfl rfl c_h6
      refine Sp.g (ck_iv (by omega) (by omega)) ?_
      exact Sp.so trivial
theorem s_fX11_data (fu : Nat) (hfu : 1000000000000000000 ≤ fu) (x1 : Int32) (S : St) (I_S : Inv S) : Sp (fX11_data fu x1 S) S (fun r => True) := by
  unfold fX11_data
  have h1 := i32 x1
  refine Sp.b (s_fX6_found fu hfu x1 S I_S) (fun r_5 p_r_5 => ?_)
  exact Sp.so trivial
theorem s_fX11_cached (fu : Nat) (hfu : 1000000000000000000 ≤ fu) (x1 : Int32) (x2 : Int32) (S : St) (I_S : Inv S) : Sp (fX11_cached fu x1 x2 S) S (fun r => ((r.1 = 0 ∨ r.1 = 3))) := by
  unfold fX11_cached
  have h1 := i32 x1
  have h2 := b_3_3 I_S
  refine Sp.x (s_fX11_needName fu hfu x1 S I_S) (fun r_2_ p_r_2_ => ?_) (fun k r p_e => ?_)
  rotate_left
  · have p_e : (((k + 1) = 0 ∧ 0 ≤ (x1).toInt ∧ (x1).toInt < (S.1 3 3).toInt ∨ (k + 1) = 3)) := p_e
    exact (show (((k + 1) = 0 ∨ (k + 1) = 3)) by omega)
  have p_r_2_ : (((0 : Nat) = 0 ∧ 0 ≤ (x1).toInt ∧ (x1).toInt < (S.1 3 3).toInt ∨ (0 : Nat) = 3)) := p_r_2_
  have h3 := i32 x2
  refine Sp.b (s_fX1_held fu hfu x1 x2 S I_S) (fun r_11 p_r_11 => ?_)
  exact Sp.so (show (((0 : Nat) = 0 ∨ (0 : Nat) = 3)) by omega)
theorem s_fX6_hints (fu : Nat) (hfu : 1000000000000000000 ≤ fu) (S : St) (I_S : Inv S) : Sp (fX6_hints fu S) S (fun r => True) := by
  unfold fX6_hints
  exact Sp.so trivial
theorem s_fX1_now (fu : Nat) (hfu : 1000000000000000000 ≤ fu) (S : St) (I_S : Inv S) : Sp (fX1_now fu S) S (fun r => True) := by
  unfold fX1_now
  exact Sp.so trivial
theorem s_fX1_size (fu : Nat) (hfu : 1000000000000000000 ≤ fu) (S : St) (I_S : Inv S) : Sp (fX1_size fu S) S (fun r => True) := by
  unfold fX1_size
  exact Sp.so trivial
theorem s_fX6_sentEver (fu : Nat) (hfu : 1000000000000000000 ≤ fu) (S : St) (I_S : Inv S) : Sp (fX6_sentEver fu S) S (fun r => True) := by
  unfold fX6_sentEver
  exact Sp.so trivial
theorem s_fX11_count (fu : Nat) (hfu : 1000000000000000000 ≤ fu) (x1 : Int32) (S : St) (I_S : Inv S) : Sp (fX11_count fu x1 S) S (fun r => True) := by
  unfold fX11_count
  have h1 := i32 x1
  refine Sp.i (fun c_h2 => ?_) (fun c_h2 => ?_)
  · have h3 := eq_iv rfl li_0 c_h2
    have h4 := b_3_3 I_S
    refine Sp.b (s_fX3_size fu hfu S I_S) (fun r_56 p_r_56 => ?_)
    exact Sp.so trivial
  · have h5 := neq_iv rfl li_0 c_h2
    refine Sp.i (fun c_h6 => ?_) (fun c_h6 => ?_)
    · have h7 := eq_iv rfl li_1 c_h6
      have h8 := b_10_3 I_S
      refine Sp.b (s_fX10_size fu hfu S I_S) (fun r_64 p_r_64 => ?_)
      exact Sp.so trivial
    · have h9 := neq_iv rfl li_1 c_h6
      refine Sp.i (fun c_h10 => ?_) (fun c_h10 => ?_)
      · have h11 := eq_iv rfl li_2 c_h10
        have h12 := b_10_9 I_S
        refine Sp.b (s_fX10_records fu hfu S I_S) (fun r_72 p_r_72 => ?_)
        exact Sp.so trivial
      · have h13 := neq_iv rfl li_2 c_h10
        refine Sp.i (fun c_h14 => ?_) (fun c_h14 => ?_)
        · have h15 := eq_iv rfl li_3 c_h14
          have h16 := b_23_4 I_S
          refine Sp.b (s_fX7_size fu hfu S I_S) (fun r_80 p_r_80 => ?_)
          exact Sp.so trivial
        · have h17 := neq_iv rfl li_3 c_h14
          refine Sp.i (fun c_h18 => ?_) (fun c_h18 => ?_)
          · have h19 := eq_iv rfl li_4 c_h18
            refine Sp.b (s_fX6_hints fu hfu S I_S) (fun r_88 p_r_88 => ?_)
            exact Sp.so trivial
          · have h20 := neq_iv rfl li_4 c_h18
            refine Sp.i (fun c_h21 => ?_) (fun c_h21 => ?_)
            · have h22 := eq_iv rfl li_5 c_h21
              refine Sp.b (s_fX1_now fu hfu S I_S) (fun r_96 p_r_96 => ?_)
              exact Sp.so trivial
            · have h23 := neq_iv rfl li_5 c_h21
              refine Sp.i (fun c_h24 => ?_) (fun c_h24 => ?_)
              · have h25 := eq_iv rfl li_6 c_h24
                refine Sp.b (s_fX1_size fu hfu S I_S) (fun r_104 p_r_104 => ?_)
                exact Sp.so trivial
              · have h26 := neq_iv rfl li_6 c_h24
                refine Sp.i (fun c_h27 => ?_) (fun c_h27 => ?_)
                · have h28 := eq_iv rfl li_7 c_h27
                  refine Sp.b (s_fX6_sentEver fu hfu S I_S) (fun r_112 p_r_112 => ?_)
                  exact Sp.so trivial
                · have h29 := neq_iv rfl li_7 c_h27
                  refine Sp.i (fun c_h30 => ?_) (fun c_h30 => ?_)
                  · have h31 := eq_iv rfl li_8 c_h30
                    have h32 := b_1_1 I_S
                    refine Sp.b (s_fX0_size_1 fu hfu S I_S) (fun r_120 p_r_120 => ?_)
                    exact Sp.so trivial
                  · have h33 := neq_iv rfl li_8 c_h30
                    exact Sp.so trivial
