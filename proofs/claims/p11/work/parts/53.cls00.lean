theorem s_fX11_isNamed (fu : Nat) (hfu : 1000000000000000000 ≤ fu) (x0 : Int32) (S : St) (I_S : Inv S) : Sp (fX11_isNamed fu x0 S) S (fun r => (0 ≤ r.toInt) ∧ (r.toInt ≤ 1)) := by
  unfold fX11_isNamed
  have h1 := i32 x0
  refine Sp.i (fun c_h2 => ?_) (fun c_h2 => ?_)
  · have h3 := eq_iv rfl li_2 c_h2
    unfold fX11_isNamed_10
    have h4 : ((1 : Int32)).toInt = 1 := li_1
    exact Sp.so (by omega)
  · have h5 := neq_iv rfl li_2 c_h2
    refine Sp.i (fun c_h6 => ?_) (fun c_h6 => ?_)
    · have h7 := eq_iv rfl li_5 c_h6
      unfold fX11_isNamed_10
      have h8 : ((1 : Int32)).toInt = 1 := li_1
      exact Sp.so (by omega)
    · have h9 := neq_iv rfl li_5 c_h6
      have h10 : ((0 : Int32)).toInt = 0 := li_0
      exact Sp.so (by omega)
theorem s_fX11_isKept (fu : Nat) (hfu : 1000000000000000000 ≤ fu) (x0 : Int32) (S : St) (I_S : Inv S) : Sp (fX11_isKept fu x0 S) S (fun r => (0 ≤ r.toInt) ∧ (r.toInt ≤ 1)) := by
  unfold fX11_isKept
  have h1 := i32 x0
  refine Sp.i (fun c_h2 => ?_) (fun c_h2 => ?_)
  · have h3 := eq_iv rfl li_1 c_h2
    unfold fX11_isKept_21
    have h4 : ((1 : Int32)).toInt = 1 := li_1
    exact Sp.so (by omega)
  · have h5 := neq_iv rfl li_1 c_h2
    refine Sp.i (fun c_h6 => ?_) (fun c_h6 => ?_)
    · have h7 := eq_iv rfl li_2 c_h6
      unfold fX11_isKept_21
      have h8 : ((1 : Int32)).toInt = 1 := li_1
      exact Sp.so (by omega)
    · have h9 := neq_iv rfl li_2 c_h6
      refine Sp.i (fun c_h10 => ?_) (fun c_h10 => ?_)
      · have h11 := eq_iv rfl li_5 c_h10
        unfold fX11_isKept_21
        have h12 : ((1 : Int32)).toInt = 1 := li_1
        exact Sp.so (by omega)
      · have h13 := neq_iv rfl li_5 c_h10
        refine Sp.i (fun c_h14 => ?_) (fun c_h14 => ?_)
        · have h15 := eq_iv rfl li_16 c_h14
          unfold fX11_isKept_21
          have h16 : ((1 : Int32)).toInt = 1 := li_1
          exact Sp.so (by omega)
        · have h17 := neq_iv rfl li_16 c_h14
          have h18 : ((0 : Int32)).toInt = 0 := li_0
          exact Sp.so (by omega)
theorem s_fX11_isLife (fu : Nat) (hfu : 1000000000000000000 ≤ fu) (x0 : Int32) (S : St) (I_S : Inv S) : Sp (fX11_isLife fu x0 S) S (fun r => (0 ≤ r.toInt) ∧ (r.toInt ≤ 1)) := by
  unfold fX11_isLife
  have h1 := i32 x0
  refine Sp.i (fun c_h2 => ?_) (fun c_h2 => ?_)
  · have h3 := lt_iv rfl li_1 c_h2
    have h4 : ((0 : Int32)).toInt = 0 := li_0
    exact Sp.so (by omega)
  · have h5 := nlt_iv rfl li_1 c_h2
    refine Sp.i (fun c_h6 => ?_) (fun c_h6 => ?_)
    · have h7 := lt_iv li_100000 rfl c_h6
      have h8 : ((0 : Int32)).toInt = 0 := li_0
      exact Sp.so (by omega)
    · have h9 := nlt_iv li_100000 rfl c_h6
      have h10 : ((1 : Int32)).toInt = 1 := li_1
      exact Sp.so (by omega)
theorem s_fX0_size_1 (fu : Nat) (hfu : 1000000000000000000 ≤ fu) (S : St) (I_S : Inv S) : Sp (fX0_size fu 1 S) S (fun r => (r.toInt = (S.1 1 1).toInt)) := by
  unfold fX0_size
  try simp only [Nat.reduceAdd]
  have h1 := b_1_1 I_S
  have h2 := b_1_1 I_S
  exact Sp.so (by omega)
theorem s_fX0_add_1 (fu : Nat) (hfu : 1000000000000000000 ≤ fu) (x1 : Int32) (S : St) (I_S : Inv S) : Sf (fX0_add fu 1 x1 S) (fun U r => Inv U ∧ Fr [(1, 2), (1, 3), (2, 0)] S U ∧ (True)) := by
  unfold fX0_add
  try simp only [Nat.reduceAdd]
  have F_S : Fr [(1, 2), (1, 3), (2, 0)] S S := Fr.refl _ _
  have h1 := b_1_1 I_S
  refine Sf.i (fun c_h2 => ?_) (fun c_h2 => ?_)
  · have h3 := lt_iv rfl li_1000 c_h2
    refine Sf.g (ck_iv (by omega) (by omega)) ?_
    have h4 := vpy ((x1).toInt8.toInt32)
    refine Sf.w I_S F_S rfl (i32 _).1 (i32 _).2 (fun S_26 I_S_26 F_S_26 v_S_26 f_S_26 l_S_26 => ?_)
    have h5 := ti_eq (f_S_26 1 1 (fun e => absurd e (by decide)))
    have h6 : (S_26.1 2 (((S.1 1 1)).toNatClampNeg)).toInt = ((vp_nar .byte ((x1).toInt8.toInt32))).toInt := eq_iv rfl rfl v_S_26
    have h7 : (S_26.1 2 (((S_26.1 1 1)).toNatClampNeg)).toInt = ((vp_nar .byte ((x1).toInt8.toInt32))).toInt := by rw [f_S_26 1 1 (fun e => absurd e (by decide))]; exact eq_iv rfl rfl v_S_26
    have h8 := b_1_1 I_S_26
    try have h9 : (((S_26.1 1 1) + (1 : Int32))).toInt = ((S_26.1 1 1)).toInt + (1) := add_iv rfl li_1 (by omega) (by omega)
    refine Sf.w I_S_26 F_S_26 rfl (show ((0) : Int) ≤ (((S_26.1 1 1) + (1 : Int32))).toInt by omega) (show (((S_26.1 1 1) + (1 : Int32))).toInt ≤ (1000 : Int) by omega) (fun S_34 I_S_34 F_S_34 v_S_34 f_S_34 l_S_34 => ?_)
    have h10 := eq_iv rfl rfl v_S_34
    have h11 : (S_34.1 2 (((S.1 1 1)).toNatClampNeg)).toInt = (S_26.1 2 (((S.1 1 1)).toNatClampNeg)).toInt := ti_eq (f_S_34 2 (((S.1 1 1)).toNatClampNeg) (fun e => absurd e (by decide)))
    have h12 : (S_34.1 2 (((S_26.1 1 1)).toNatClampNeg)).toInt = (S_26.1 2 (((S_26.1 1 1)).toNatClampNeg)).toInt := ti_eq (f_S_34 2 (((S_26.1 1 1)).toNatClampNeg) (fun e => absurd e (by decide)))
    exact Sf.so ⟨I_S_34, F_S_34, trivial⟩
  · have h13 := nlt_iv rfl li_1000 c_h2
    refine Sf.w I_S F_S rfl (show ((0) : Int) ≤ ((1 : Int32)).toInt by rw [li_1]; omega) (show ((1 : Int32)).toInt ≤ (1 : Int) by rw [li_1]; omega) (fun S_12 I_S_12 F_S_12 v_S_12 f_S_12 l_S_12 => ?_)
    have h14 := ti_eq (f_S_12 1 1 (fun _ e => absurd e (by decide)))
    exact Sf.so ⟨I_S_12, F_S_12, trivial⟩
theorem s_fX0_addFour_1 (fu : Nat) (hfu : 1000000000000000000 ≤ fu) (x1 : Int32) (S : St) (I_S : Inv S) : Sf (fX0_addFour fu 1 x1 S) (fun U r => Inv U ∧ Fr [(1, 2), (1, 3), (2, 0)] S U ∧ (True)) := by
  unfold fX0_addFour
  try simp only [Nat.reduceAdd]
  have F_S : Fr [(1, 2), (1, 3), (2, 0)] S S := Fr.refl _ _
  have h1 := i32 x1
  have h2 := and_31 ((24 : Int32))
  refine Sf.b (s_fX0_add_1 fu hfu (x1 >>> ((24 : Int32) &&& 31)) S I_S) (fun S_5 r_5_ p_r_5_ => ?_)
  obtain ⟨I_S_5, G_S_5, p_r_5_⟩ := p_r_5_
  have F_S_5 := Fr.tr F_S G_S_5 rfl
  have h3 := and_31 ((16 : Int32))
  refine Sf.b (s_fX0_add_1 fu hfu (x1 >>> ((16 : Int32) &&& 31)) S_5 I_S_5) (fun S_13 r_13_ p_r_13_ => ?_)
  obtain ⟨I_S_13, G_S_13, p_r_13_⟩ := p_r_13_
  have F_S_13 := Fr.tr F_S_5 G_S_13 rfl
  have h4 := and_31 ((8 : Int32))
  refine Sf.b (s_fX0_add_1 fu hfu (x1 >>> ((8 : Int32) &&& 31)) S_13 I_S_13) (fun S_21 r_21_ p_r_21_ => ?_)
  obtain ⟨I_S_21, G_S_21, p_r_21_⟩ := p_r_21_
  have F_S_21 := Fr.tr F_S_13 G_S_21 rfl
  refine Sf.b (s_fX0_add_1 fu hfu x1 S_21 I_S_21) (fun S_26 r_26_ p_r_26_ => ?_)
  obtain ⟨I_S_26, G_S_26, p_r_26_⟩ := p_r_26_
  have F_S_26 := Fr.tr F_S_21 G_S_26 rfl
  exact Sf.so ⟨I_S_26, F_S_26, trivial⟩
theorem s_fX11_feed (fu : Nat) (hfu : 1000000000000000000 ≤ fu) (x1 : Int32) (x2 : Int32) (x3 : Int32) (x4 : Int32) (x5 : Int32) (S : St) (I_S : Inv S) : Sf (fX11_feed fu x1 x2 x3 x4 x5 S) (fun U r => Inv U ∧ Fr [(1, 2), (1, 3), (2, 0)] S U ∧ (True)) := by
  unfold fX11_feed
  have F_S : Fr [(1, 2), (1, 3), (2, 0)] S S := Fr.refl _ _
  have h1 := b_1_1 I_S
  refine Sf.bp (s_fX0_size_1 fu hfu S I_S) (fun r_4 p_r_4 => ?_)
  have h2 := i32 r_4
  try have h3 : ((r_4 + (20 : Int32))).toInt = (r_4).toInt + (20) := add_iv rfl li_20 (by omega) (by omega)
  refine Sf.i (fun c_h4 => ?_) (fun c_h4 => ?_)
  · have h5 := le_iv rfl li_1000 c_h4
    have h6 := i32 x1
    refine Sf.b (s_fX0_addFour_1 fu hfu x1 S I_S) (fun S_23 r_23_ p_r_23_ => ?_)
    obtain ⟨I_S_23, G_S_23, p_r_23_⟩ := p_r_23_
    have F_S_23 := Fr.tr F_S G_S_23 rfl
    have h7 := i32 x2
    refine Sf.b (s_fX0_addFour_1 fu hfu x2 S_23 I_S_23) (fun S_31 r_31_ p_r_31_ => ?_)
    obtain ⟨I_S_31, G_S_31, p_r_31_⟩ := p_r_31_
    have F_S_31 := Fr.tr F_S_23 G_S_31 rfl
    have h8 := i32 x3
    refine Sf.b (s_fX0_addFour_1 fu hfu x3 S_31 I_S_31) (fun S_39 r_39_ p_r_39_ => ?_)
    obtain ⟨I_S_39, G_S_39, p_r_39_⟩ := p_r_39_
    have F_S_39 := Fr.tr F_S_31 G_S_39 rfl
    have h9 := i32 x4
    refine Sf.b (s_fX0_addFour_1 fu hfu x4 S_39 I_S_39) (fun S_48 r_48_ p_r_48_ => ?_)
    obtain ⟨I_S_48, G_S_48, p_r_48_⟩ := p_r_48_
    have F_S_48 := Fr.tr F_S_39 G_S_48 rfl
    have h10 := i32 x5
    refine Sf.b (s_fX0_addFour_1 fu hfu x5 S_48 I_S_48) (fun S_57 r_57_ p_r_57_ => ?_)
    obtain ⟨I_S_57, G_S_57, p_r_57_⟩ := p_r_57_
    have F_S_57 := Fr.tr F_S_48 G_S_57 rfl
    have h11 := b_1_1 I_S_57
    refine Sf.bp (s_fX0_size_1 fu hfu S_57 I_S_57) (fun r_64 p_r_64 => ?_)
    exact Sf.so ⟨I_S_57, F_S_57, trivial⟩
  · have h12 := nle_iv rfl li_1000 c_h4
    exact Sf.so ⟨I_S, F_S, trivial⟩
theorem s_fX0_cutTo_1 (fu : Nat) (hfu : 1000000000000000000 ≤ fu) (x1 : Int32) (S : St) (I_S : Inv S) : Sf (fX0_cutTo fu 1 x1 S) (fun U r => Inv U ∧ Fr [(1, 2)] S U ∧ ((0 ≤ r.toInt) ∧ (r.toInt ≤ 1))) := by
  unfold fX0_cutTo
  try simp only [Nat.reduceAdd]
  have F_S : Fr [(1, 2)] S S := Fr.refl _ _
  have h1 := i32 x1
  refine Sf.i (fun c_h2 => ?_) (fun c_h2 => ?_)
  · have h3 := lt_iv rfl li_0 c_h2
    have h4 : ((0 : Int32)).toInt = 0 := li_0
    exact Sf.so ⟨I_S, F_S, by omega⟩
  · have h5 := nlt_iv rfl li_0 c_h2
    have h6 := b_1_1 I_S
    refine Sf.i (fun c_h7 => ?_) (fun c_h7 => ?_)
    · have h8 := le_iv rfl rfl c_h7
      refine Sf.w I_S F_S rfl (show ((0) : Int) ≤ (x1).toInt by omega) (show (x1).toInt ≤ (1000 : Int) by omega) (fun S_16 I_S_16 F_S_16 v_S_16 f_S_16 l_S_16 => ?_)
      have h9 := eq_iv rfl rfl v_S_16
      have h10 : ((1 : Int32)).toInt = 1 := li_1
      exact Sf.so ⟨I_S_16, F_S_16, by omega⟩
    · have h11 := nle_iv rfl rfl c_h7
      have h12 : ((0 : Int32)).toInt = 0 := li_0
      exact Sf.so ⟨I_S, F_S, by omega⟩
theorem s_fX11_end (fu : Nat) (hfu : 1000000000000000000 ≤ fu) (x1 : Int32) (S : St) (I_S : Inv S) : Sf (fX11_end fu x1 S) (fun U r => Inv U ∧ Fr [(1, 2)] S U ∧ (True)) := by
  unfold fX11_end
  have F_S : Fr [(1, 2)] S S := Fr.refl _ _
  have h1 := i32 x1
  refine Sf.b (s_fX0_cutTo_1 fu hfu x1 S I_S) (fun S_5 r_5 p_r_5 => ?_)
  obtain ⟨I_S_5, G_S_5, p_r_5⟩ := p_r_5
  have F_S_5 := Fr.tr F_S G_S_5 rfl
  have h2 := i32 r_5
  refine Sf.g (isB_iv (by omega) (by omega)) ?_
  exact Sf.so ⟨I_S_5, F_S_5, trivial⟩
theorem s_fX0_set_1 (fu : Nat) (hfu : 1000000000000000000 ≤ fu) (x1 : Int32) (x2 : Int32) (S : St) (I_S : Inv S) : Sf (fX0_set fu 1 x1 x2 S) (fun U r => Inv U ∧ Fr [(2, 0)] S U ∧ ((0 ≤ r.toInt) ∧ (r.toInt ≤ 1))) := by
  unfold fX0_set
  try simp only [Nat.reduceAdd]
  have F_S : Fr [(2, 0)] S S := Fr.refl _ _
  have h1 := i32 x1
  refine Sf.i (fun c_h2 => ?_) (fun c_h2 => ?_)
  · have h3 := lt_iv rfl li_0 c_h2
    have h4 : ((0 : Int32)).toInt = 0 := li_0
    exact Sf.so ⟨I_S, F_S, by omega⟩
  · have h5 := nlt_iv rfl li_0 c_h2
    have h6 := b_1_1 I_S
    refine Sf.i (fun c_h7 => ?_) (fun c_h7 => ?_)
    · have h8 := lt_iv rfl rfl c_h7
      refine Sf.g (ck_iv (by omega) (by omega)) ?_
      have h9 := vpy ((x2).toInt8.toInt32)
      refine Sf.w I_S F_S rfl (i32 _).1 (i32 _).2 (fun S_21 I_S_21 F_S_21 v_S_21 f_S_21 l_S_21 => ?_)
      have h10 := ti_eq (f_S_21 1 1 (fun e => absurd e (by decide)))
      have h11 : (S_21.1 2 ((x1).toNatClampNeg)).toInt = ((vp_nar .byte ((x2).toInt8.toInt32))).toInt := eq_iv rfl rfl v_S_21
      have h12 : ((1 : Int32)).toInt = 1 := li_1
      exact Sf.so ⟨I_S_21, F_S_21, by omega⟩
    · have h13 := nlt_iv rfl rfl c_h7
      have h14 : ((0 : Int32)).toInt = 0 := li_0
      exact Sf.so ⟨I_S, F_S, by omega⟩
theorem s_fX11_turn (fu : Nat) (hfu : 1000000000000000000 ≤ fu) (x1 : Int32) (x2 : Int32) (S : St) (I_S : Inv S) : Sf (fX11_turn fu x1 x2 S) (fun U r => Inv U ∧ Fr [(2, 0)] S U ∧ (True)) := by
  unfold fX11_turn
  have F_S : Fr [(2, 0)] S S := Fr.refl _ _
  have h1 := i32 x1
  have h2 := i32 x2
  refine Sf.b (s_fX0_set_1 fu hfu x1 x2 S I_S) (fun S_6 r_6 p_r_6 => ?_)
  obtain ⟨I_S_6, G_S_6, p_r_6⟩ := p_r_6
  have F_S_6 := Fr.tr F_S G_S_6 rfl
  have h3 := i32 r_6
  refine Sf.g (isB_iv (by omega) (by omega)) ?_
  exact Sf.so ⟨I_S_6, F_S_6, trivial⟩
theorem s_fX8_clear_7 (fu : Nat) (hfu : 1000000000000000000 ≤ fu) (S : St) (I_S : Inv S) : Sf (fX8_clear fu 7 S) (fun U r => Inv U ∧ Fr [(7, 3)] S U ∧ (True)) := by
  unfold fX8_clear
  try simp only [Nat.reduceAdd]
  have F_S : Fr [(7, 3)] S S := Fr.refl _ _
  refine Sf.w I_S F_S rfl (show ((0) : Int) ≤ ((0 : Int32)).toInt by rw [li_0]; omega) (show ((0 : Int32)).toInt ≤ (6 : Int) by rw [li_0]; omega) (fun S_2 I_S_2 F_S_2 v_S_2 f_S_2 l_S_2 => ?_)
  exact Sf.so ⟨I_S_2, F_S_2, trivial⟩
theorem s_fX0_at_1 (fu : Nat) (hfu : 1000000000000000000 ≤ fu) (x1 : Int32) (S : St) (I_S : Inv S) : Sp (fX0_at fu 1 x1 S) S (fun r => True) := by
  unfold fX0_at
  try simp only [Nat.reduceAdd]
  have h1 := i32 x1
  refine Sp.i (fun c_h2 => ?_) (fun c_h2 => ?_)
  · have h3 := lt_iv rfl li_0 c_h2
    exact Sp.so trivial
  · have h4 := nlt_iv rfl li_0 c_h2
    have h5 := b_1_1 I_S
    refine Sp.i (fun c_h6 => ?_) (fun c_h6 => ?_)
    · have h7 := le_iv rfl rfl c_h6
      exact Sp.so trivial
    · have h8 := nle_iv rfl rfl c_h6
      refine Sp.g (ck_iv (by omega) (by omega)) ?_
      exact Sp.so trivial
theorem s_fX8_open_7 (fu : Nat) (hfu : 1000000000000000000 ≤ fu) (S : St) (I_S : Inv S) : Sf (fX8_open fu 7 S) (fun U r => Inv U ∧ Fr [(7, 3), (9, 0)] S U ∧ ((0 ≤ r.toInt) ∧ (r.toInt ≤ 1))) := by
  unfold fX8_open
  try simp only [Nat.reduceAdd]
  have F_S : Fr [(7, 3), (9, 0)] S S := Fr.refl _ _
  have h1 := b_7_2 I_S
  refine Sf.i (fun c_h2 => ?_) (fun c_h2 => ?_)
  · have h3 := lt_iv rfl li_6 c_h2
    refine Sf.g (ck_iv (by omega) (by omega)) ?_
    refine Sf.j I_S F_S (fun S_20 I_S_20 F_S_20 l_S_20 => ?_)
    have h4 : (S_20.1 7 2).toInt = (S.1 7 2).toInt := by rw [l_S_20]
    have h5 := b_7_2 I_S_20
    refine Sf.g (ck_iv (by omega) (by omega)) ?_
    refine Sf.w I_S_20 F_S_20 rfl (show ((0) : Int) ≤ ((0 : Int32)).toInt by rw [li_0]; omega) (show ((0 : Int32)).toInt ≤ (10 : Int) by rw [li_0]; omega) (fun S_30 I_S_30 F_S_30 v_S_30 f_S_30 l_S_30 => ?_)
    have h6 := ti_eq (f_S_30 7 2 (fun e => absurd e (by decide)))
    have h7 : (S_30.1 9 (((S_20.1 7 2)).toNatClampNeg)).toInt = (0) := eq_iv rfl li_0 v_S_30
    have h8 : (S_30.1 9 (((S_30.1 7 2)).toNatClampNeg)).toInt = (0) := by rw [f_S_30 7 2 (fun e => absurd e (by decide))]; exact eq_iv rfl li_0 v_S_30
    have h9 := b_7_2 I_S_30
    try have h10 : (((S_30.1 7 2) + (1 : Int32))).toInt = ((S_30.1 7 2)).toInt + (1) := add_iv rfl li_1 (by omega) (by omega)
    refine Sf.w I_S_30 F_S_30 rfl (show ((0) : Int) ≤ (((S_30.1 7 2) + (1 : Int32))).toInt by omega) (show (((S_30.1 7 2) + (1 : Int32))).toInt ≤ (6 : Int) by omega) (fun S_38 I_S_38 F_S_38 v_S_38 f_S_38 l_S_38 => ?_)
    have h11 := eq_iv rfl rfl v_S_38
    have h12 : (S_38.1 9 (((S_20.1 7 2)).toNatClampNeg)).toInt = (S_30.1 9 (((S_20.1 7 2)).toNatClampNeg)).toInt := ti_eq (f_S_38 9 (((S_20.1 7 2)).toNatClampNeg) (fun e => absurd e (by decide)))
    have h13 : (S_38.1 9 (((S_30.1 7 2)).toNatClampNeg)).toInt = (S_30.1 9 (((S_30.1 7 2)).toNatClampNeg)).toInt := ti_eq (f_S_38 9 (((S_30.1 7 2)).toNatClampNeg) (fun e => absurd e (by decide)))
    have h14 : ((1 : Int32)).toInt = 1 := li_1
    exact Sf.so ⟨I_S_38, F_S_38, by omega⟩
  · have h15 := nlt_iv rfl li_6 c_h2
    have h16 : ((0 : Int32)).toInt = 0 := li_0
    exact Sf.so ⟨I_S, F_S, by omega⟩
theorem s_fX8_lengthAt_7 (fu : Nat) (hfu : 1000000000000000000 ≤ fu) (x1 : Int32) (S : St) (I_S : Inv S) : Sp (fX8_lengthAt fu 7 x1 S) S (fun r => (0 ≤ r.toInt) ∧ (r.toInt ≤ 10)) := by
  unfold fX8_lengthAt
  try simp only [Nat.reduceAdd]
  have h1 := i32 x1
  refine Sp.i (fun c_h2 => ?_) (fun c_h2 => ?_)
  · have h3 := lt_iv rfl li_0 c_h2
    have h4 : ((0 : Int32)).toInt = 0 := li_0
    exact Sp.so (by omega)
  · have h5 := nlt_iv rfl li_0 c_h2
    have h6 := b_7_2 I_S
    refine Sp.i (fun c_h7 => ?_) (fun c_h7 => ?_)
    · have h8 := le_iv rfl rfl c_h7
      have h9 : ((0 : Int32)).toInt = 0 := li_0
      exact Sp.so (by omega)
    · have h10 := nle_iv rfl rfl c_h7
      refine Sp.g (ck_iv (by omega) (by omega)) ?_
      have h11 := a_9 I_S ((x1).toNatClampNeg)
      exact Sp.so (by omega)
theorem s_fX8_add_7 (fu : Nat) (hfu : 1000000000000000000 ≤ fu) (x1 : Int32) (S : St) (I_S : Inv S) : Sf (fX8_add fu 7 x1 S) (fun U r => Inv U ∧ Fr [(9, 0)] S U ∧ ((0 ≤ r.toInt) ∧ (r.toInt ≤ 1))) := by
  unfold fX8_add
  try simp only [Nat.reduceAdd]
  have F_S : Fr [(9, 0)] S S := Fr.refl _ _
  have h1 := i32 x1
  refine Sf.i (fun c_h2 => ?_) (fun c_h2 => ?_)
  · have h3 := lt_iv rfl li_97 c_h2
    unfold fX8_add_24
    try simp only [Nat.reduceAdd]
    refine Sf.i (fun c_h4 => ?_) (fun c_h4 => ?_)
    · have h5 := lt_iv rfl li_48 c_h4
      unfold fX8_add_47
      try simp only [Nat.reduceAdd]
      refine Sf.i (fun c_h6 => ?_) (fun c_h6 => ?_)
      · have h7 := eq_iv rfl li_45 c_h6
        unfold fX8_add_56
        try simp only [Nat.reduceAdd]
        refine Sf.ie (by decide) ?_
        have h8 := b_7_2 I_S
        try have h9 : (((S.1 7 2) - (1 : Int32))).toInt = ((S.1 7 2)).toInt - (1) := sub_iv rfl li_1 (by omega) (by omega)
        refine Sf.i (fun c_h10 => ?_) (fun c_h10 => ?_)
        · have h11 := lt_iv rfl li_0 c_h10
          have h12 : ((0 : Int32)).toInt = 0 := li_0
          exact Sf.so ⟨I_S, F_S, by omega⟩
        · have h13 := nlt_iv rfl li_0 c_h10
          refine Sf.g (ck_iv (by omega) (by omega)) ?_
          have h14 := a_9 I_S ((((S.1 7 2) - (1 : Int32))).toNatClampNeg)
          refine Sf.i (fun c_h15 => ?_) (fun c_h15 => ?_)
          · have h16 := lt_iv rfl li_10 c_h15
            refine Sf.g (ck_iv (by omega) (by omega)) ?_
            refine Sf.g (ck_iv (by omega) (by omega)) ?_
            refine Sf.j I_S F_S (fun S_101 I_S_101 F_S_101 l_S_101 => ?_)
            have h17 : (S_101.1 7 2).toInt = (S.1 7 2).toInt := by rw [l_S_101]
            have h18 : (S_101.1 9 ((((S.1 7 2) - (1 : Int32))).toNatClampNeg)).toInt = (S.1 9 ((((S.1 7 2) - (1 : Int32))).toNatClampNeg)).toInt := (by rw [l_S_101])
            have h19 : (S_101.1 9 ((((S_101.1 7 2) - (1 : Int32))).toNatClampNeg)).toInt = (S.1 9 ((((S.1 7 2) - (1 : Int32))).toNatClampNeg)).toInt := by rw [(show S_101.1 7 2 = S.1 7 2 by rw [l_S_101])]; exact (by rw [l_S_101])
            refine Sf.g (ck_iv (by omega) (by omega)) ?_
            refine Sf.g (ck_iv (by omega) (by omega)) ?_
            try have h20 : (((S_101.1 9 ((((S.1 7 2) - (1 : Int32))).toNatClampNeg)) + (1 : Int32))).toInt = ((S_101.1 9 ((((S.1 7 2) - (1 : Int32))).toNatClampNeg))).toInt + (1) := add_iv rfl li_1 (by omega) (by omega)
            refine Sf.w I_S_101 F_S_101 rfl (show ((0) : Int) ≤ (((S_101.1 9 ((((S.1 7 2) - (1 : Int32))).toNatClampNeg)) + (1 : Int32))).toInt by omega) (show (((S_101.1 9 ((((S.1 7 2) - (1 : Int32))).toNatClampNeg)) + (1 : Int32))).toInt ≤ (10 : Int) by omega) (fun S_111 I_S_111 F_S_111 v_S_111 f_S_111 l_S_111 => ?_)
            have h21 := ti_eq (f_S_111 7 2 (fun e => absurd e (by decide)))
            have h22 : (S_111.1 9 ((((S.1 7 2) - (1 : Int32))).toNatClampNeg)).toInt = (((S_101.1 9 ((((S.1 7 2) - (1 : Int32))).toNatClampNeg)) + (1 : Int32))).toInt := eq_iv rfl rfl v_S_111
            have h23 : ((1 : Int32)).toInt = 1 := li_1
            exact Sf.so ⟨I_S_111, F_S_111, by omega⟩
          · have h24 := nlt_iv rfl li_10 c_h15
            have h25 : ((0 : Int32)).toInt = 0 := li_0
            exact Sf.so ⟨I_S, F_S, by omega⟩
      · have h26 := neq_iv rfl li_45 c_h6
        unfold fX8_add_56
        try simp only [Nat.reduceAdd]
        refine Sf.it (by decide) ?_
        have h27 : ((0 : Int32)).toInt = 0 := li_0
        exact Sf.so ⟨I_S, F_S, by omega⟩
    · have h28 := nlt_iv rfl li_48 c_h4
      refine Sf.i (fun c_h29 => ?_) (fun c_h29 => ?_)
      · have h30 := lt_iv li_57 rfl c_h29
        unfold fX8_add_47
        try simp only [Nat.reduceAdd]
        refine Sf.i (fun c_h31 => ?_) (fun c_h31 => ?_)
        · have h32 := eq_iv rfl li_45 c_h31
          unfold fX8_add_56
          try simp only [Nat.reduceAdd]
          refine Sf.ie (by decide) ?_
          have h33 := b_7_2 I_S
          try have h34 : (((S.1 7 2) - (1 : Int32))).toInt = ((S.1 7 2)).toInt - (1) := sub_iv rfl li_1 (by omega) (by omega)
          refine Sf.i (fun c_h35 => ?_) (fun c_h35 => ?_)
          · have h36 := lt_iv rfl li_0 c_h35
            have h37 : ((0 : Int32)).toInt = 0 := li_0
            exact Sf.so ⟨I_S, F_S, by omega⟩
          · have h38 := nlt_iv rfl li_0 c_h35
            refine Sf.g (ck_iv (by omega) (by omega)) ?_
            have h39 := a_9 I_S ((((S.1 7 2) - (1 : Int32))).toNatClampNeg)
            refine Sf.i (fun c_h40 => ?_) (fun c_h40 => ?_)
            · have h41 := lt_iv rfl li_10 c_h40
              refine Sf.g (ck_iv (by omega) (by omega)) ?_
              refine Sf.g (ck_iv (by omega) (by omega)) ?_
              refine Sf.j I_S F_S (fun S_101 I_S_101 F_S_101 l_S_101 => ?_)
              have h42 : (S_101.1 7 2).toInt = (S.1 7 2).toInt := by rw [l_S_101]
              have h43 : (S_101.1 9 ((((S.1 7 2) - (1 : Int32))).toNatClampNeg)).toInt = (S.1 9 ((((S.1 7 2) - (1 : Int32))).toNatClampNeg)).toInt := (by rw [l_S_101])
              have h44 : (S_101.1 9 ((((S_101.1 7 2) - (1 : Int32))).toNatClampNeg)).toInt = (S.1 9 ((((S.1 7 2) - (1 : Int32))).toNatClampNeg)).toInt := by rw [(show S_101.1 7 2 = S.1 7 2 by rw [l_S_101])]; exact (by rw [l_S_101])
              refine Sf.g (ck_iv (by omega) (by omega)) ?_
              refine Sf.g (ck_iv (by omega) (by omega)) ?_
              try have h45 : (((S_101.1 9 ((((S.1 7 2) - (1 : Int32))).toNatClampNeg)) + (1 : Int32))).toInt = ((S_101.1 9 ((((S.1 7 2) - (1 : Int32))).toNatClampNeg))).toInt + (1) := add_iv rfl li_1 (by omega) (by omega)
              refine Sf.w I_S_101 F_S_101 rfl (show ((0) : Int) ≤ (((S_101.1 9 ((((S.1 7 2) - (1 : Int32))).toNatClampNeg)) + (1 : Int32))).toInt by omega) (show (((S_101.1 9 ((((S.1 7 2) - (1 : Int32))).toNatClampNeg)) + (1 : Int32))).toInt ≤ (10 : Int) by omega) (fun S_111 I_S_111 F_S_111 v_S_111 f_S_111 l_S_111 => ?_)
              have h46 := ti_eq (f_S_111 7 2 (fun e => absurd e (by decide)))
              have h47 : (S_111.1 9 ((((S.1 7 2) - (1 : Int32))).toNatClampNeg)).toInt = (((S_101.1 9 ((((S.1 7 2) - (1 : Int32))).toNatClampNeg)) + (1 : Int32))).toInt := eq_iv rfl rfl v_S_111
              have h48 : ((1 : Int32)).toInt = 1 := li_1
              exact Sf.so ⟨I_S_111, F_S_111, by omega⟩
            · have h49 := nlt_iv rfl li_10 c_h40
              have h50 : ((0 : Int32)).toInt = 0 := li_0
              exact Sf.so ⟨I_S, F_S, by omega⟩
        · have h51 := neq_iv rfl li_45 c_h31
          unfold fX8_add_56
          try simp only [Nat.reduceAdd]
          refine Sf.it (by decide) ?_
          have h52 : ((0 : Int32)).toInt = 0 := li_0
          exact Sf.so ⟨I_S, F_S, by omega⟩
      · have h53 := nlt_iv li_57 rfl c_h29
        unfold fX8_add_56
        try simp only [Nat.reduceAdd]
        try have h54 : ((x1 - (48 : Int32))).toInt = (x1).toInt - (48) := sub_iv rfl li_48 (by omega) (by omega)
        try have h55 : (((x1 - (48 : Int32)) + (27 : Int32))).toInt = ((x1 - (48 : Int32))).toInt + (27) := add_iv rfl li_27 (by omega) (by omega)
        refine Sf.i (fun c_h56 => ?_) (fun c_h56 => ?_)
        · have h57 := eq_iv rfl li_0 c_h56
          have h58 : ((0 : Int32)).toInt = 0 := li_0
          exact Sf.so ⟨I_S, F_S, by omega⟩
        · have h59 := neq_iv rfl li_0 c_h56
          have h60 := b_7_2 I_S
          try have h61 : (((S.1 7 2) - (1 : Int32))).toInt = ((S.1 7 2)).toInt - (1) := sub_iv rfl li_1 (by omega) (by omega)
          refine Sf.i (fun c_h62 => ?_) (fun c_h62 => ?_)
          · have h63 := lt_iv rfl li_0 c_h62
            have h64 : ((0 : Int32)).toInt = 0 := li_0
            exact Sf.so ⟨I_S, F_S, by omega⟩
          · have h65 := nlt_iv rfl li_0 c_h62
            refine Sf.g (ck_iv (by omega) (by omega)) ?_
            have h66 := a_9 I_S ((((S.1 7 2) - (1 : Int32))).toNatClampNeg)
            refine Sf.i (fun c_h67 => ?_) (fun c_h67 => ?_)
            · have h68 := lt_iv rfl li_10 c_h67
              refine Sf.g (ck_iv (by omega) (by omega)) ?_
              refine Sf.g (ck_iv (by omega) (by omega)) ?_
              refine Sf.j I_S F_S (fun S_101 I_S_101 F_S_101 l_S_101 => ?_)
              have h69 : (S_101.1 7 2).toInt = (S.1 7 2).toInt := by rw [l_S_101]
              have h70 : (S_101.1 9 ((((S.1 7 2) - (1 : Int32))).toNatClampNeg)).toInt = (S.1 9 ((((S.1 7 2) - (1 : Int32))).toNatClampNeg)).toInt := (by rw [l_S_101])
              have h71 : (S_101.1 9 ((((S_101.1 7 2) - (1 : Int32))).toNatClampNeg)).toInt = (S.1 9 ((((S.1 7 2) - (1 : Int32))).toNatClampNeg)).toInt := by rw [(show S_101.1 7 2 = S.1 7 2 by rw [l_S_101])]; exact (by rw [l_S_101])
              refine Sf.g (ck_iv (by omega) (by omega)) ?_
              refine Sf.g (ck_iv (by omega) (by omega)) ?_
              try have h72 : (((S_101.1 9 ((((S.1 7 2) - (1 : Int32))).toNatClampNeg)) + (1 : Int32))).toInt = ((S_101.1 9 ((((S.1 7 2) - (1 : Int32))).toNatClampNeg))).toInt + (1) := add_iv rfl li_1 (by omega) (by omega)
              refine Sf.w I_S_101 F_S_101 rfl (show ((0) : Int) ≤ (((S_101.1 9 ((((S.1 7 2) - (1 : Int32))).toNatClampNeg)) + (1 : Int32))).toInt by omega) (show (((S_101.1 9 ((((S.1 7 2) - (1 : Int32))).toNatClampNeg)) + (1 : Int32))).toInt ≤ (10 : Int) by omega) (fun S_111 I_S_111 F_S_111 v_S_111 f_S_111 l_S_111 => ?_)
              have h73 := ti_eq (f_S_111 7 2 (fun e => absurd e (by decide)))
              have h74 : (S_111.1 9 ((((S.1 7 2) - (1 : Int32))).toNatClampNeg)).toInt = (((S_101.1 9 ((((S.1 7 2) - (1 : Int32))).toNatClampNeg)) + (1 : Int32))).toInt := eq_iv rfl rfl v_S_111
              have h75 : ((1 : Int32)).toInt = 1 := li_1
              exact Sf.so ⟨I_S_111, F_S_111, by omega⟩
            · have h76 := nlt_iv rfl li_10 c_h67
              have h77 : ((0 : Int32)).toInt = 0 := li_0
              exact Sf.so ⟨I_S, F_S, by omega⟩
  · have h78 := nlt_iv rfl li_97 c_h2
    refine Sf.i (fun c_h79 => ?_) (fun c_h79 => ?_)
    · have h80 := lt_iv li_122 rfl c_h79
      unfold fX8_add_24
      try simp only [Nat.reduceAdd]
      refine Sf.i (fun c_h81 => ?_) (fun c_h81 => ?_)
      · have h82 := lt_iv rfl li_48 c_h81
        unfold fX8_add_47
        try simp only [Nat.reduceAdd]
        refine Sf.i (fun c_h83 => ?_) (fun c_h83 => ?_)
        · have h84 := eq_iv rfl li_45 c_h83
          unfold fX8_add_56
          try simp only [Nat.reduceAdd]
          refine Sf.ie (by decide) ?_
          have h85 := b_7_2 I_S
          try have h86 : (((S.1 7 2) - (1 : Int32))).toInt = ((S.1 7 2)).toInt - (1) := sub_iv rfl li_1 (by omega) (by omega)
          refine Sf.i (fun c_h87 => ?_) (fun c_h87 => ?_)
          · have h88 := lt_iv rfl li_0 c_h87
            have h89 : ((0 : Int32)).toInt = 0 := li_0
            exact Sf.so ⟨I_S, F_S, by omega⟩
          · have h90 := nlt_iv rfl li_0 c_h87
            refine Sf.g (ck_iv (by omega) (by omega)) ?_
            have h91 := a_9 I_S ((((S.1 7 2) - (1 : Int32))).toNatClampNeg)
            refine Sf.i (fun c_h92 => ?_) (fun c_h92 => ?_)
            · have h93 := lt_iv rfl li_10 c_h92
              refine Sf.g (ck_iv (by omega) (by omega)) ?_
              refine Sf.g (ck_iv (by omega) (by omega)) ?_
              refine Sf.j I_S F_S (fun S_101 I_S_101 F_S_101 l_S_101 => ?_)
              have h94 : (S_101.1 7 2).toInt = (S.1 7 2).toInt := by rw [l_S_101]
              have h95 : (S_101.1 9 ((((S.1 7 2) - (1 : Int32))).toNatClampNeg)).toInt = (S.1 9 ((((S.1 7 2) - (1 : Int32))).toNatClampNeg)).toInt := (by rw [l_S_101])
              have h96 : (S_101.1 9 ((((S_101.1 7 2) - (1 : Int32))).toNatClampNeg)).toInt = (S.1 9 ((((S.1 7 2) - (1 : Int32))).toNatClampNeg)).toInt := by rw [(show S_101.1 7 2 = S.1 7 2 by rw [l_S_101])]; exact (by rw [l_S_101])
              refine Sf.g (ck_iv (by omega) (by omega)) ?_
              refine Sf.g (ck_iv (by omega) (by omega)) ?_
              try have h97 : (((S_101.1 9 ((((S.1 7 2) - (1 : Int32))).toNatClampNeg)) + (1 : Int32))).toInt = ((S_101.1 9 ((((S.1 7 2) - (1 : Int32))).toNatClampNeg))).toInt + (1) := add_iv rfl li_1 (by omega) (by omega)
              refine Sf.w I_S_101 F_S_101 rfl (show ((0) : Int) ≤ (((S_101.1 9 ((((S.1 7 2) - (1 : Int32))).toNatClampNeg)) + (1 : Int32))).toInt by omega) (show (((S_101.1 9 ((((S.1 7 2) - (1 : Int32))).toNatClampNeg)) + (1 : Int32))).toInt ≤ (10 : Int) by omega) (fun S_111 I_S_111 F_S_111 v_S_111 f_S_111 l_S_111 => ?_)
              have h98 := ti_eq (f_S_111 7 2 (fun e => absurd e (by decide)))
              have h99 : (S_111.1 9 ((((S.1 7 2) - (1 : Int32))).toNatClampNeg)).toInt = (((S_101.1 9 ((((S.1 7 2) - (1 : Int32))).toNatClampNeg)) + (1 : Int32))).toInt := eq_iv rfl rfl v_S_111
              have h100 : ((1 : Int32)).toInt = 1 := li_1
              exact Sf.so ⟨I_S_111, F_S_111, by omega⟩
            · have h101 := nlt_iv rfl li_10 c_h92
              have h102 : ((0 : Int32)).toInt = 0 := li_0
              exact Sf.so ⟨I_S, F_S, by omega⟩
        · have h103 := neq_iv rfl li_45 c_h83
          unfold fX8_add_56
          try simp only [Nat.reduceAdd]
          refine Sf.it (by decide) ?_
          have h104 : ((0 : Int32)).toInt = 0 := li_0
          exact Sf.so ⟨I_S, F_S, by omega⟩
      · have h105 := nlt_iv rfl li_48 c_h81
        refine Sf.i (fun c_h106 => ?_) (fun c_h106 => ?_)
        · have h107 := lt_iv li_57 rfl c_h106
          unfold fX8_add_47
          try simp only [Nat.reduceAdd]
          refine Sf.i (fun c_h108 => ?_) (fun c_h108 => ?_)
          · have h109 := eq_iv rfl li_45 c_h108
            unfold fX8_add_56
            try simp only [Nat.reduceAdd]
            refine Sf.ie (by decide) ?_
            have h110 := b_7_2 I_S
            try have h111 : (((S.1 7 2) - (1 : Int32))).toInt = ((S.1 7 2)).toInt - (1) := sub_iv rfl li_1 (by omega) (by omega)
            refine Sf.i (fun c_h112 => ?_) (fun c_h112 => ?_)
            · have h113 := lt_iv rfl li_0 c_h112
              have h114 : ((0 : Int32)).toInt = 0 := li_0
              exact Sf.so ⟨I_S, F_S, by omega⟩
            · have h115 := nlt_iv rfl li_0 c_h112
              refine Sf.g (ck_iv (by omega) (by omega)) ?_
              have h116 := a_9 I_S ((((S.1 7 2) - (1 : Int32))).toNatClampNeg)
              refine Sf.i (fun c_h117 => ?_) (fun c_h117 => ?_)
              · have h118 := lt_iv rfl li_10 c_h117
                refine Sf.g (ck_iv (by omega) (by omega)) ?_
                refine Sf.g (ck_iv (by omega) (by omega)) ?_
                refine Sf.j I_S F_S (fun S_101 I_S_101 F_S_101 l_S_101 => ?_)
                have h119 : (S_101.1 7 2).toInt = (S.1 7 2).toInt := by rw [l_S_101]
                have h120 : (S_101.1 9 ((((S.1 7 2) - (1 : Int32))).toNatClampNeg)).toInt = (S.1 9 ((((S.1 7 2) - (1 : Int32))).toNatClampNeg)).toInt := (by rw [l_S_101])
                have h121 : (S_101.1 9 ((((S_101.1 7 2) - (1 : Int32))).toNatClampNeg)).toInt = (S.1 9 ((((S.1 7 2) - (1 : Int32))).toNatClampNeg)).toInt := by rw [(show S_101.1 7 2 = S.1 7 2 by rw [l_S_101])]; exact (by rw [l_S_101])
                refine Sf.g (ck_iv (by omega) (by omega)) ?_
                refine Sf.g (ck_iv (by omega) (by omega)) ?_
                try have h122 : (((S_101.1 9 ((((S.1 7 2) - (1 : Int32))).toNatClampNeg)) + (1 : Int32))).toInt = ((S_101.1 9 ((((S.1 7 2) - (1 : Int32))).toNatClampNeg))).toInt + (1) := add_iv rfl li_1 (by omega) (by omega)
                refine Sf.w I_S_101 F_S_101 rfl (show ((0) : Int) ≤ (((S_101.1 9 ((((S.1 7 2) - (1 : Int32))).toNatClampNeg)) + (1 : Int32))).toInt by omega) (show (((S_101.1 9 ((((S.1 7 2) - (1 : Int32))).toNatClampNeg)) + (1 : Int32))).toInt ≤ (10 : Int) by omega) (fun S_111 I_S_111 F_S_111 v_S_111 f_S_111 l_S_111 => ?_)
                have h123 := ti_eq (f_S_111 7 2 (fun e => absurd e (by decide)))
                have h124 : (S_111.1 9 ((((S.1 7 2) - (1 : Int32))).toNatClampNeg)).toInt = (((S_101.1 9 ((((S.1 7 2) - (1 : Int32))).toNatClampNeg)) + (1 : Int32))).toInt := eq_iv rfl rfl v_S_111
                have h125 : ((1 : Int32)).toInt = 1 := li_1
                exact Sf.so ⟨I_S_111, F_S_111, by omega⟩
              · have h126 := nlt_iv rfl li_10 c_h117
                have h127 : ((0 : Int32)).toInt = 0 := li_0
                exact Sf.so ⟨I_S, F_S, by omega⟩
          · have h128 := neq_iv rfl li_45 c_h108
            unfold fX8_add_56
            try simp only [Nat.reduceAdd]
            refine Sf.it (by decide) ?_
            have h129 : ((0 : Int32)).toInt = 0 := li_0
            exact Sf.so ⟨I_S, F_S, by omega⟩
        · have h130 := nlt_iv li_57 rfl c_h106
          unfold fX8_add_56
          try simp only [Nat.reduceAdd]
          try have h131 : ((x1 - (48 : Int32))).toInt = (x1).toInt - (48) := sub_iv rfl li_48 (by omega) (by omega)
          try have h132 : (((x1 - (48 : Int32)) + (27 : Int32))).toInt = ((x1 - (48 : Int32))).toInt + (27) := add_iv rfl li_27 (by omega) (by omega)
          refine Sf.i (fun c_h133 => ?_) (fun c_h133 => ?_)
          · have h134 := eq_iv rfl li_0 c_h133
            have h135 : ((0 : Int32)).toInt = 0 := li_0
            exact Sf.so ⟨I_S, F_S, by omega⟩
          · have h136 := neq_iv rfl li_0 c_h133
            have h137 := b_7_2 I_S
            try have h138 : (((S.1 7 2) - (1 : Int32))).toInt = ((S.1 7 2)).toInt - (1) := sub_iv rfl li_1 (by omega) (by omega)
            refine Sf.i (fun c_h139 => ?_) (fun c_h139 => ?_)
            · have h140 := lt_iv rfl li_0 c_h139
              have h141 : ((0 : Int32)).toInt = 0 := li_0
              exact Sf.so ⟨I_S, F_S, by omega⟩
            · have h142 := nlt_iv rfl li_0 c_h139
              refine Sf.g (ck_iv (by omega) (by omega)) ?_
              have h143 := a_9 I_S ((((S.1 7 2) - (1 : Int32))).toNatClampNeg)
              refine Sf.i (fun c_h144 => ?_) (fun c_h144 => ?_)
              · have h145 := lt_iv rfl li_10 c_h144
                refine Sf.g (ck_iv (by omega) (by omega)) ?_
                refine Sf.g (ck_iv (by omega) (by omega)) ?_
                refine Sf.j I_S F_S (fun S_101 I_S_101 F_S_101 l_S_101 => ?_)
                have h146 : (S_101.1 7 2).toInt = (S.1 7 2).toInt := by rw [l_S_101]
                have h147 : (S_101.1 9 ((((S.1 7 2) - (1 : Int32))).toNatClampNeg)).toInt = (S.1 9 ((((S.1 7 2) - (1 : Int32))).toNatClampNeg)).toInt := (by rw [l_S_101])
                have h148 : (S_101.1 9 ((((S_101.1 7 2) - (1 : Int32))).toNatClampNeg)).toInt = (S.1 9 ((((S.1 7 2) - (1 : Int32))).toNatClampNeg)).toInt := by rw [(show S_101.1 7 2 = S.1 7 2 by rw [l_S_101])]; exact (by rw [l_S_101])
                refine Sf.g (ck_iv (by omega) (by omega)) ?_
                refine Sf.g (ck_iv (by omega) (by omega)) ?_
                try have h149 : (((S_101.1 9 ((((S.1 7 2) - (1 : Int32))).toNatClampNeg)) + (1 : Int32))).toInt = ((S_101.1 9 ((((S.1 7 2) - (1 : Int32))).toNatClampNeg))).toInt + (1) := add_iv rfl li_1 (by omega) (by omega)
                refine Sf.w I_S_101 F_S_101 rfl (show ((0) : Int) ≤ (((S_101.1 9 ((((S.1 7 2) - (1 : Int32))).toNatClampNeg)) + (1 : Int32))).toInt by omega) (show (((S_101.1 9 ((((S.1 7 2) - (1 : Int32))).toNatClampNeg)) + (1 : Int32))).toInt ≤ (10 : Int) by omega) (fun S_111 I_S_111 F_S_111 v_S_111 f_S_111 l_S_111 => ?_)
                have h150 := ti_eq (f_S_111 7 2 (fun e => absurd e (by decide)))
                have h151 : (S_111.1 9 ((((S.1 7 2) - (1 : Int32))).toNatClampNeg)).toInt = (((S_101.1 9 ((((S.1 7 2) - (1 : Int32))).toNatClampNeg)) + (1 : Int32))).toInt := eq_iv rfl rfl v_S_111
                have h152 : ((1 : Int32)).toInt = 1 := li_1
                exact Sf.so ⟨I_S_111, F_S_111, by omega⟩
              · have h153 := nlt_iv rfl li_10 c_h144
                have h154 : ((0 : Int32)).toInt = 0 := li_0
                exact Sf.so ⟨I_S, F_S, by omega⟩
    · have h155 := nlt_iv li_122 rfl c_h79
      unfold fX8_add_56
      try simp only [Nat.reduceAdd]
      try have h156 : ((x1 - (97 : Int32))).toInt = (x1).toInt - (97) := sub_iv rfl li_97 (by omega) (by omega)
      try have h157 : (((x1 - (97 : Int32)) + (1 : Int32))).toInt = ((x1 - (97 : Int32))).toInt + (1) := add_iv rfl li_1 (by omega) (by omega)
      refine Sf.i (fun c_h158 => ?_) (fun c_h158 => ?_)
      · have h159 := eq_iv rfl li_0 c_h158
        have h160 : ((0 : Int32)).toInt = 0 := li_0
        exact Sf.so ⟨I_S, F_S, by omega⟩
      · have h161 := neq_iv rfl li_0 c_h158
        have h162 := b_7_2 I_S
        try have h163 : (((S.1 7 2) - (1 : Int32))).toInt = ((S.1 7 2)).toInt - (1) := sub_iv rfl li_1 (by omega) (by omega)
        refine Sf.i (fun c_h164 => ?_) (fun c_h164 => ?_)
        · have h165 := lt_iv rfl li_0 c_h164
          have h166 : ((0 : Int32)).toInt = 0 := li_0
          exact Sf.so ⟨I_S, F_S, by omega⟩
        · have h167 := nlt_iv rfl li_0 c_h164
          refine Sf.g (ck_iv (by omega) (by omega)) ?_
          have h168 := a_9 I_S ((((S.1 7 2) - (1 : Int32))).toNatClampNeg)
          refine Sf.i (fun c_h169 => ?_) (fun c_h169 => ?_)
          · have h170 := lt_iv rfl li_10 c_h169
            refine Sf.g (ck_iv (by omega) (by omega)) ?_
            refine Sf.g (ck_iv (by omega) (by omega)) ?_
            refine Sf.j I_S F_S (fun S_101 I_S_101 F_S_101 l_S_101 => ?_)
            have h171 : (S_101.1 7 2).toInt = (S.1 7 2).toInt := by rw [l_S_101]
            have h172 : (S_101.1 9 ((((S.1 7 2) - (1 : Int32))).toNatClampNeg)).toInt = (S.1 9 ((((S.1 7 2) - (1 : Int32))).toNatClampNeg)).toInt := (by rw [l_S_101])
            have h173 : (S_101.1 9 ((((S_101.1 7 2) - (1 : Int32))).toNatClampNeg)).toInt = (S.1 9 ((((S.1 7 2) - (1 : Int32))).toNatClampNeg)).toInt := by rw [(show S_101.1 7 2 = S.1 7 2 by rw [l_S_101])]; exact (by rw [l_S_101])
            refine Sf.g (ck_iv (by omega) (by omega)) ?_
            refine Sf.g (ck_iv (by omega) (by omega)) ?_
            try have h174 : (((S_101.1 9 ((((S.1 7 2) - (1 : Int32))).toNatClampNeg)) + (1 : Int32))).toInt = ((S_101.1 9 ((((S.1 7 2) - (1 : Int32))).toNatClampNeg))).toInt + (1) := add_iv rfl li_1 (by omega) (by omega)
            refine Sf.w I_S_101 F_S_101 rfl (show ((0) : Int) ≤ (((S_101.1 9 ((((S.1 7 2) - (1 : Int32))).toNatClampNeg)) + (1 : Int32))).toInt by omega) (show (((S_101.1 9 ((((S.1 7 2) - (1 : Int32))).toNatClampNeg)) + (1 : Int32))).toInt ≤ (10 : Int) by omega) (fun S_111 I_S_111 F_S_111 v_S_111 f_S_111 l_S_111 => ?_)
            have h175 := ti_eq (f_S_111 7 2 (fun e => absurd e (by decide)))
            have h176 : (S_111.1 9 ((((S.1 7 2) - (1 : Int32))).toNatClampNeg)).toInt = (((S_101.1 9 ((((S.1 7 2) - (1 : Int32))).toNatClampNeg)) + (1 : Int32))).toInt := eq_iv rfl rfl v_S_111
            have h177 : ((1 : Int32)).toInt = 1 := li_1
            exact Sf.so ⟨I_S_111, F_S_111, by omega⟩
          · have h178 := nlt_iv rfl li_10 c_h169
            have h179 : ((0 : Int32)).toInt = 0 := li_0
            exact Sf.so ⟨I_S, F_S, by omega⟩
theorem s_fX8_readText_31 (fu : Nat) (hfu : 1000000000000000000 ≤ fu) : ∀ (n : Nat) (x2 : Int32) (S : St), Inv S → (0 ≤ (x2).toInt) → (1000 - (x2).toInt).toNat < n → Sf (fX8_readText_31 fu n x2 S) (fun U r => Inv U ∧ Fr [(7, 3), (9, 0)] S U ∧ ((0 ≤ r.toInt) ∧ (r.toInt ≤ 1))) := by
  intro n
  induction n with
  | zero => intro x2 S I_S g0 hm; exact absurd hm (Nat.not_lt_zero _)
  | succ n ih =>
    intro x2 S I_S g0 hm
    rw [fX8_readText_31_s]
    have F_S : Fr [(7, 3), (9, 0)] S S := Fr.refl _ _
    have h1 := b_1_1 I_S
    refine Sf.bp (s_fX0_size_1 fu hfu S I_S) (fun r_33 p_r_33 => ?_)
    have h2 := i32 r_33
    have h3 := i32 x2
    refine Sf.i (fun c_h4 => ?_) (fun c_h4 => ?_)
    · have h5 := le_iv rfl rfl c_h4
      have h6 := b_7_2 I_S
      try have h7 : (((S.1 7 2) - (1 : Int32))).toInt = ((S.1 7 2)).toInt - (1) := sub_iv rfl li_1 (by omega) (by omega)
      refine Sf.bp (s_fX8_lengthAt_7 fu hfu ((S.1 7 2) - (1 : Int32)) S I_S) (fun r_106 p_r_106 => ?_)
      have h8 := i32 r_106
      refine Sf.i (fun c_h9 => ?_) (fun c_h9 => ?_)
      · have h10 := le_iv rfl li_0 c_h9
        have h11 : ((0 : Int32)).toInt = 0 := li_0
        exact Sf.so ⟨I_S, F_S, by omega⟩
      · have h12 := nle_iv rfl li_0 c_h9
        have h13 : ((1 : Int32)).toInt = 1 := li_1
        exact Sf.so ⟨I_S, F_S, by omega⟩
    · have h14 := nle_iv rfl rfl c_h4
      refine Sf.bp (s_fX0_at_1 fu hfu x2 S I_S) (fun r_41 p_r_41 => ?_)
      have h15 := i32 r_41
      refine Sf.i (fun c_h16 => ?_) (fun c_h16 => ?_)
      · have h17 := eq_iv rfl li_46 c_h16
        have h18 := b_7_2 I_S
        try have h19 : (((S.1 7 2) - (1 : Int32))).toInt = ((S.1 7 2)).toInt - (1) := sub_iv rfl li_1 (by omega) (by omega)
        refine Sf.bp (s_fX8_lengthAt_7 fu hfu ((S.1 7 2) - (1 : Int32)) S I_S) (fun r_58 p_r_58 => ?_)
        have h20 := i32 r_58
        refine Sf.i (fun c_h21 => ?_) (fun c_h21 => ?_)
        · have h22 := le_iv rfl li_0 c_h21
          unfold fX8_readText_75
          unfold fX8_readText_84
          refine Sf.it (by decide) ?_
          have h23 : ((0 : Int32)).toInt = 0 := li_0
          exact Sf.so ⟨I_S, F_S, by omega⟩
        · have h24 := nle_iv rfl li_0 c_h21
          refine Sf.b (s_fX8_open_7 fu hfu S I_S) (fun S_65 r_65 p_r_65 => ?_)
          obtain ⟨I_S_65, G_S_65, p_r_65⟩ := p_r_65
          have F_S_65 := Fr.tr F_S G_S_65 rfl
          have h25 := ti_eq (G_S_65 1 1 rfl)
          have h26 := i32 r_65
          refine Sf.i (fun c_h27 => ?_) (fun c_h27 => ?_)
          · have h28 := eq_iv rfl li_0 c_h27
            unfold fX8_readText_75
            unfold fX8_readText_84
            refine Sf.it (by decide) ?_
            have h29 : ((0 : Int32)).toInt = 0 := li_0
            exact Sf.so ⟨I_S_65, F_S_65, by omega⟩
          · have h30 := neq_iv rfl li_0 c_h27
            unfold fX8_readText_84
            refine Sf.ie (by decide) ?_
            try have h31 : ((x2 + (1 : Int32))).toInt = (x2).toInt + (1) := add_iv rfl li_1 (by omega) (by omega)
            refine Sf.mono (ih (x2 + (1 : Int32)) S_65 I_S_65 (by omega) (by omega)) (fun U r p_h32 => ?_)
            obtain ⟨I_U, G_U, p_h32⟩ := p_h32
            have h33 := ti_eq (G_U 1 1 rfl)
            exact ⟨I_U, Fr.tr F_S_65 G_U rfl, by omega⟩
      · have h34 := neq_iv rfl li_46 c_h16
        refine Sf.b (s_fX8_add_7 fu hfu r_41 S I_S) (fun S_81 r_81 p_r_81 => ?_)
        obtain ⟨I_S_81, G_S_81, p_r_81⟩ := p_r_81
        have F_S_81 := Fr.tr F_S G_S_81 rfl
        have h35 := ti_eq (G_S_81 1 1 rfl)
        have h36 := ti_eq (G_S_81 7 2 rfl)
        unfold fX8_readText_84
        have h37 := i32 r_81
        refine Sf.i (fun c_h38 => ?_) (fun c_h38 => ?_)
        · have h39 := eq_iv rfl li_0 c_h38
          have h40 : ((0 : Int32)).toInt = 0 := li_0
          exact Sf.so ⟨I_S_81, F_S_81, by omega⟩
        · have h41 := neq_iv rfl li_0 c_h38
          try have h42 : ((x2 + (1 : Int32))).toInt = (x2).toInt + (1) := add_iv rfl li_1 (by omega) (by omega)
          refine Sf.mono (ih (x2 + (1 : Int32)) S_81 I_S_81 (by omega) (by omega)) (fun U r p_h43 => ?_)
          obtain ⟨I_U, G_U, p_h43⟩ := p_h43
          have h44 := ti_eq (G_U 1 1 rfl)
          exact ⟨I_U, Fr.tr F_S_81 G_U rfl, by omega⟩
theorem s_fX8_readText (fu : Nat) (hfu : 1000000000000000000 ≤ fu) (S : St) (I_S : Inv S) : Sf (fX8_readText fu S) (fun U r => Inv U ∧ Fr [(7, 3), (9, 0)] S U ∧ ((0 ≤ r.toInt) ∧ (r.toInt ≤ 1))) := by
  unfold fX8_readText
  have F_S : Fr [(7, 3), (9, 0)] S S := Fr.refl _ _
  refine Sf.b (s_fX8_clear_7 fu hfu S I_S) (fun S_1 r_1_ p_r_1_ => ?_)
  obtain ⟨I_S_1, G_S_1, p_r_1_⟩ := p_r_1_
  have F_S_1 := Fr.tr F_S G_S_1 rfl
  have h1 := ti_eq (G_S_1 1 1 rfl)
  have h2 := b_1_1 I_S_1
  refine Sf.bp (s_fX0_size_1 fu hfu S_1 I_S_1) (fun r_5 p_r_5 => ?_)
  have h3 := i32 r_5
  refine Sf.i (fun c_h4 => ?_) (fun c_h4 => ?_)
  · have h5 := eq_iv rfl li_1 c_h4
    have h6 : ((0 : Int32)).toInt = 0 := li_0
    refine Sf.bp (s_fX0_at_1 fu hfu (0 : Int32) S_1 I_S_1) (fun r_14 p_r_14 => ?_)
    have h7 := i32 r_14
    refine Sf.i (fun c_h8 => ?_) (fun c_h8 => ?_)
    · have h9 := eq_iv rfl li_46 c_h8
      have h10 : ((1 : Int32)).toInt = 1 := li_1
      exact Sf.so ⟨I_S_1, F_S_1, by omega⟩
    · have h11 := neq_iv rfl li_46 c_h8
      unfold fX8_readText_24
      refine Sf.b (s_fX8_open_7 fu hfu S_1 I_S_1) (fun S_25 r_25 p_r_25 => ?_)
      obtain ⟨I_S_25, G_S_25, p_r_25⟩ := p_r_25
      have F_S_25 := Fr.tr F_S_1 G_S_25 rfl
      have h12 := ti_eq (G_S_25 1 1 rfl)
      refine Sf.mono (s_fX8_readText_31 fu hfu fu (0 : Int32) S_25 I_S_25 (by omega) (by omega)) (fun U r p_h13 => ?_)
      obtain ⟨I_U, G_U, p_h13⟩ := p_h13
      have h14 := ti_eq (G_U 1 1 rfl)
      exact ⟨I_U, Fr.tr F_S_25 G_U rfl, by omega⟩
  · have h15 := neq_iv rfl li_1 c_h4
    unfold fX8_readText_24
    refine Sf.b (s_fX8_open_7 fu hfu S_1 I_S_1) (fun S_25 r_25 p_r_25 => ?_)
    obtain ⟨I_S_25, G_S_25, p_r_25⟩ := p_r_25
    have F_S_25 := Fr.tr F_S_1 G_S_25 rfl
    have h16 := ti_eq (G_S_25 1 1 rfl)
    have h17 : ((0 : Int32)).toInt = 0 := li_0
    refine Sf.mono (s_fX8_readText_31 fu hfu fu (0 : Int32) S_25 I_S_25 (by omega) (by omega)) (fun U r p_h18 => ?_)
    obtain ⟨I_U, G_U, p_h18⟩ := p_h18
    have h19 := ti_eq (G_U 1 1 rfl)
    exact ⟨I_U, Fr.tr F_S_25 G_U rfl, by omega⟩
theorem s_fX0_clear_1 (fu : Nat) (hfu : 1000000000000000000 ≤ fu) (S : St) (I_S : Inv S) : Sf (fX0_clear fu 1 S) (fun U r => Inv U ∧ Fr [(1, 2), (1, 3)] S U ∧ (True)) := by
  unfold fX0_clear
  try simp only [Nat.reduceAdd]
  have F_S : Fr [(1, 2), (1, 3)] S S := Fr.refl _ _
  refine Sf.w I_S F_S rfl (show ((0) : Int) ≤ ((0 : Int32)).toInt by rw [li_0]; omega) (show ((0 : Int32)).toInt ≤ (1000 : Int) by rw [li_0]; omega) (fun S_2 I_S_2 F_S_2 v_S_2 f_S_2 l_S_2 => ?_)
  refine Sf.w I_S_2 F_S_2 rfl (show ((0) : Int) ≤ ((0 : Int32)).toInt by rw [li_0]; omega) (show ((0 : Int32)).toInt ≤ (1 : Int) by rw [li_0]; omega) (fun S_7 I_S_7 F_S_7 v_S_7 f_S_7 l_S_7 => ?_)
  exact Sf.so ⟨I_S_7, F_S_7, trivial⟩
theorem s_fX3_size (fu : Nat) (hfu : 1000000000000000000 ≤ fu) (S : St) (I_S : Inv S) : Sp (fX3_size fu S) S (fun r => (r.toInt = (S.1 3 3).toInt)) := by
  unfold fX3_size
  have h1 := b_3_3 I_S
  have h2 := b_3_3 I_S
  exact Sp.so (by omega)
theorem s_fX8_size_7 (fu : Nat) (hfu : 1000000000000000000 ≤ fu) (S : St) (I_S : Inv S) : Sp (fX8_size fu 7 S) S (fun r => (r.toInt = (S.1 7 2).toInt)) := by
  unfold fX8_size
  try simp only [Nat.reduceAdd]
  have h1 := b_7_2 I_S
  have h2 := b_7_2 I_S
  exact Sp.so (by omega)
theorem s_fX8_labelAt_7 (fu : Nat) (hfu : 1000000000000000000 ≤ fu) (x1 : Int32) (S : St) (I_S : Inv S) : Sp (fX8_labelAt fu 7 x1 S) S (fun r => True) := by
  unfold fX8_labelAt
  try simp only [Nat.reduceAdd]
  have h1 := i32 x1
  refine Sp.i (fun c_h2 => ?_) (fun c_h2 => ?_)
  · have h3 := lt_iv rfl li_0 c_h2
    exact Sp.so trivial
  · have h4 := nlt_iv rfl li_0 c_h2
    have h5 := b_7_2 I_S
    refine Sp.i (fun c_h6 => ?_) (fun c_h6 => ?_)
    · have h7 := le_iv rfl rfl c_h6
      exact Sp.so trivial
    · have h8 := nle_iv rfl rfl c_h6
      refine Sp.g (ck_iv (by omega) (by omega)) ?_
      exact Sp.so trivial
theorem s_fX3_child_3 (fu : Nat) (hfu : 1000000000000000000 ≤ fu) : ∀ (n : Nat) (x1 : Int32) (x2 : Int64) (x4 : Int32) (S : St), Inv S → (1 ≤ (x4).toInt) → (300 - (x4).toInt).toNat < n → Sp (fX3_child_3 fu n x1 x2 x4 S) S (fun r => (-1 ≤ r.toInt) ∧ (r.toInt ≤ 299)) := by
  intro n
  induction n with
  | zero => intro x1 x2 x4 S I_S g0 hm; exact absurd hm (Nat.not_lt_zero _)
  | succ n ih =>
    intro x1 x2 x4 S I_S g0 hm
    rw [fX3_child_3_s]
    have h1 := b_3_3 I_S
    have h2 := i32 x4
    refine Sp.i (fun c_h3 => ?_) (fun c_h3 => ?_)
    · have h4 := le_iv rfl rfl c_h3
      have h5 : ((-1 : Int32)).toInt = -1 := li_m1
      exact Sp.so (by omega)
    · have h6 := nle_iv rfl rfl c_h3
      refine Sp.g (ck_iv (by omega) (by omega)) ?_
      have h7 := a_4 I_S ((x4).toNatClampNeg)
      have h8 := i32 x1
      refine Sp.i (fun c_h9 => ?_) (fun c_h9 => ?_)
      · have h10 := eq_iv rfl rfl c_h9
        refine Sp.g (ck_iv (by omega) (by omega)) ?_
        refine Sp.i (fun c_h11 => ?_) (fun c_h11 => ?_)
        · have h12 := eq_iv rfl li_0 c_h11
          exact Sp.so (by omega)
        · have h13 := neq_iv rfl li_0 c_h11
          unfold fX3_child_38
          try have h14 : ((x4 + (1 : Int32))).toInt = (x4).toInt + (1) := add_iv rfl li_1 (by omega) (by omega)
          refine Sp.mono (ih x1 x2 (x4 + (1 : Int32)) S I_S (by omega) (by omega)) (fun r p_h15 => ?_)
          exact by omega
      · have h16 := neq_iv rfl rfl c_h9
        unfold fX3_child_38
        try have h17 : ((x4 + (1 : Int32))).toInt = (x4).toInt + (1) := add_iv rfl li_1 (by omega) (by omega)
        refine Sp.mono (ih x1 x2 (x4 + (1 : Int32)) S I_S (by omega) (by omega)) (fun r p_h18 => ?_)
        exact by omega
theorem s_fX3_child (fu : Nat) (hfu : 1000000000000000000 ≤ fu) (x1 : Int32) (x2 : Int64) (S : St) (I_S : Inv S) : Sp (fX3_child fu x1 x2 S) S (fun r => (-1 ≤ r.toInt) ∧ (r.toInt ≤ 299)) := by
  unfold fX3_child
  have h1 := i32 x1
  have h2 : ((1 : Int32)).toInt = 1 := li_1
  refine Sp.mono (s_fX3_child_3 fu hfu fu x1 x2 (1 : Int32) S I_S (by omega) (by omega)) (fun r p_h3 => ?_)
  exact by omega
theorem s_fX3_missing_9 (fu : Nat) (hfu : 1000000000000000000 ≤ fu) : ∀ (n : Nat) (x2 : Int32) (x3 : Int32) (S : St), Inv S → (-1 ≤ (x3).toInt) → ((x3).toInt ≤ 5) → ((x3).toInt + 1).toNat < n → Sp (fX3_missing_9 fu n x2 x3 S) S (fun r => True) := by
  intro n
  induction n with
  | zero => intro x2 x3 S I_S g0 g1 hm; exact absurd hm (Nat.not_lt_zero _)
  | succ n ih =>
    intro x2 x3 S I_S g0 g1 hm
    rw [fX3_missing_9_s]
    have h1 := i32 x3
    refine Sp.i (fun c_h2 => ?_) (fun c_h2 => ?_)
    · have h3 := lt_iv rfl li_0 c_h2
      exact Sp.so trivial
    · have h4 := nlt_iv rfl li_0 c_h2
      refine Sp.b (s_fX8_labelAt_7 fu hfu x3 S I_S) (fun r_17 p_r_17 => ?_)
      have h5 := i32 x2
      refine Sp.b (s_fX3_child fu hfu x2 r_17 S I_S) (fun r_20 p_r_20 => ?_)
      have h6 := i32 r_20
      refine Sp.i (fun c_h7 => ?_) (fun c_h7 => ?_)
      · have h8 := eq_iv rfl li_m1 c_h7
        exact Sp.so trivial
      · have h9 := neq_iv rfl li_m1 c_h7
        obtain ⟨d10, e_d10⟩ : ∃ d : Int32, d = (x3 + (-1 : Int32)) := ⟨_, rfl⟩
        have h11 : (d10).toInt = (x3).toInt + (-1) := by rw [e_d10]; exact add_iv rfl li_m1 (by omega) (by omega)
        rw [← e_d10]
        clear e_d10
        refine Sp.mono (ih r_20 d10 S I_S (by omega) (by omega) (by omega)) (fun r p_h12 => ?_)
        exact trivial
theorem s_fX3_missing (fu : Nat) (hfu : 1000000000000000000 ≤ fu) (S : St) (I_S : Inv S) : Sp (fX3_missing fu S) S (fun r => True) := by
  unfold fX3_missing
  have h1 := b_7_2 I_S
  refine Sp.b (s_fX8_size_7 fu hfu S I_S) (fun r_3 p_r_3 => ?_)
  have h2 : ((0 : Int32)).toInt = 0 := li_0
  have h3 := i32 r_3
  try have h4 : ((r_3 - (1 : Int32))).toInt = (r_3).toInt - (1) := sub_iv rfl li_1 (by omega) (by omega)
  refine Sp.mono (s_fX3_missing_9 fu hfu fu (0 : Int32) (r_3 - (1 : Int32)) S I_S (by omega) (by omega) (by omega)) (fun r p_h5 => ?_)
  exact trivial
theorem s_fX3_add (fu : Nat) (hfu : 1000000000000000000 ≤ fu) (x1 : Int32) (x2 : Int64) (x4 : Int32) (S : St) (I_S : Inv S) (g0 : 0 ≤ (x1).toInt) (g1 : (x1).toInt ≤ 299) (g2 : 0 ≤ (x4).toInt) (g3 : (x4).toInt ≤ 10) : Sf (fX3_add fu x1 x2 x4 S) (fun U r => Inv U ∧ Fr [(3, 4), (4, 0), (6, 0)] S U ∧ ((-1 ≤ r.toInt) ∧ (r.toInt ≤ 299))) := by
  unfold fX3_add
  have F_S : Fr [(3, 4), (4, 0), (6, 0)] S S := Fr.refl _ _
  have h1 := b_3_3 I_S
  refine Sf.i (fun c_h2 => ?_) (fun c_h2 => ?_)
  · have h3 := lt_iv rfl li_300 c_h2
    refine Sf.g (ck_iv (by omega) (by omega)) ?_
    have h4 := i32 x1
    refine Sf.w I_S F_S rfl (show ((0) : Int) ≤ (x1).toInt by omega) (show (x1).toInt ≤ (299 : Int) by omega) (fun S_21 I_S_21 F_S_21 v_S_21 f_S_21 l_S_21 => ?_)
    have h5 := ti_eq (f_S_21 3 3 (fun e => absurd e (by decide)))
    have h6 : (S_21.1 4 (((S.1 3 3)).toNatClampNeg)).toInt = (x1).toInt := eq_iv rfl rfl v_S_21
    have h7 : (S_21.1 4 (((S_21.1 3 3)).toNatClampNeg)).toInt = (x1).toInt := by rw [f_S_21 3 3 (fun e => absurd e (by decide))]; exact eq_iv rfl rfl v_S_21
    have h8 := b_3_3 I_S_21
    refine Sf.g (ck_iv (by omega) (by omega)) ?_
    refine Sf.j I_S_21 F_S_21 (fun S_31 I_S_31 F_S_31 l_S_31 => ?_)
    have h9 : (S_31.1 3 3).toInt = (S_21.1 3 3).toInt := by rw [l_S_31]
    have h10 : (S_31.1 4 (((S.1 3 3)).toNatClampNeg)).toInt = (S_21.1 4 (((S.1 3 3)).toNatClampNeg)).toInt := (by rw [l_S_31])
    have h11 : (S_31.1 4 (((S_21.1 3 3)).toNatClampNeg)).toInt = (S_21.1 4 (((S_21.1 3 3)).toNatClampNeg)).toInt := (by rw [l_S_31])
    have h12 : (S_31.1 4 (((S_31.1 3 3)).toNatClampNeg)).toInt = (S_21.1 4 (((S_21.1 3 3)).toNatClampNeg)).toInt := by rw [(show S_31.1 3 3 = S_21.1 3 3 by rw [l_S_31])]; exact (by rw [l_S_31])
    have h13 := b_3_3 I_S_31
    refine Sf.g (ck_iv (by omega) (by omega)) ?_
    have h14 := i32 x4
    refine Sf.w I_S_31 F_S_31 rfl (show ((0) : Int) ≤ (x4).toInt by omega) (show (x4).toInt ≤ (10 : Int) by omega) (fun S_42 I_S_42 F_S_42 v_S_42 f_S_42 l_S_42 => ?_)
    have h15 := ti_eq (f_S_42 3 3 (fun e => absurd e (by decide)))
    have h16 : (S_42.1 6 (((S_31.1 3 3)).toNatClampNeg)).toInt = (x4).toInt := eq_iv rfl rfl v_S_42
    have h17 : (S_42.1 6 (((S_42.1 3 3)).toNatClampNeg)).toInt = (x4).toInt := by rw [f_S_42 3 3 (fun e => absurd e (by decide))]; exact eq_iv rfl rfl v_S_42
    have h18 : (S_42.1 4 (((S.1 3 3)).toNatClampNeg)).toInt = (S_31.1 4 (((S.1 3 3)).toNatClampNeg)).toInt := ti_eq (f_S_42 4 (((S.1 3 3)).toNatClampNeg) (fun e => absurd e (by decide)))
    have h19 : (S_42.1 4 (((S_21.1 3 3)).toNatClampNeg)).toInt = (S_31.1 4 (((S_21.1 3 3)).toNatClampNeg)).toInt := ti_eq (f_S_42 4 (((S_21.1 3 3)).toNatClampNeg) (fun e => absurd e (by decide)))
    have h20 : (S_42.1 4 (((S_31.1 3 3)).toNatClampNeg)).toInt = (S_31.1 4 (((S_31.1 3 3)).toNatClampNeg)).toInt := ti_eq (f_S_42 4 (((S_31.1 3 3)).toNatClampNeg) (fun e => absurd e (by decide)))
    have h21 : (S_42.1 4 (((S_42.1 3 3)).toNatClampNeg)).toInt = (S_31.1 4 (((S_31.1 3 3)).toNatClampNeg)).toInt := by rw [f_S_42 3 3 (fun e => absurd e (by decide))]; exact ti_eq (f_S_42 4 (((S_31.1 3 3)).toNatClampNeg) (fun e => absurd e (by decide)))
    have h22 := b_3_3 I_S_42
    try have h23 : (((S_42.1 3 3) + (1 : Int32))).toInt = ((S_42.1 3 3)).toInt + (1) := add_iv rfl li_1 (by omega) (by omega)
    refine Sf.w I_S_42 F_S_42 rfl (show ((1) : Int) ≤ (((S_42.1 3 3) + (1 : Int32))).toInt by omega) (show (((S_42.1 3 3) + (1 : Int32))).toInt ≤ (300 : Int) by omega) (fun S_50 I_S_50 F_S_50 v_S_50 f_S_50 l_S_50 => ?_)
    have h24 := eq_iv rfl rfl v_S_50
    have h25 : (S_50.1 4 (((S.1 3 3)).toNatClampNeg)).toInt = (S_42.1 4 (((S.1 3 3)).toNatClampNeg)).toInt := ti_eq (f_S_50 4 (((S.1 3 3)).toNatClampNeg) (fun e => absurd e (by decide)))
    have h26 : (S_50.1 4 (((S_21.1 3 3)).toNatClampNeg)).toInt = (S_42.1 4 (((S_21.1 3 3)).toNatClampNeg)).toInt := ti_eq (f_S_50 4 (((S_21.1 3 3)).toNatClampNeg) (fun e => absurd e (by decide)))
    have h27 : (S_50.1 4 (((S_31.1 3 3)).toNatClampNeg)).toInt = (S_42.1 4 (((S_31.1 3 3)).toNatClampNeg)).toInt := ti_eq (f_S_50 4 (((S_31.1 3 3)).toNatClampNeg) (fun e => absurd e (by decide)))
    have h28 : (S_50.1 4 (((S_42.1 3 3)).toNatClampNeg)).toInt = (S_42.1 4 (((S_42.1 3 3)).toNatClampNeg)).toInt := ti_eq (f_S_50 4 (((S_42.1 3 3)).toNatClampNeg) (fun e => absurd e (by decide)))
    have h29 : (S_50.1 6 (((S_31.1 3 3)).toNatClampNeg)).toInt = (S_42.1 6 (((S_31.1 3 3)).toNatClampNeg)).toInt := ti_eq (f_S_50 6 (((S_31.1 3 3)).toNatClampNeg) (fun e => absurd e (by decide)))
    have h30 : (S_50.1 6 (((S_42.1 3 3)).toNatClampNeg)).toInt = (S_42.1 6 (((S_42.1 3 3)).toNatClampNeg)).toInt := ti_eq (f_S_50 6 (((S_42.1 3 3)).toNatClampNeg) (fun e => absurd e (by decide)))
    have h31 := b_3_3 I_S_50
    try have h32 : (((S_50.1 3 3) - (1 : Int32))).toInt = ((S_50.1 3 3)).toInt - (1) := sub_iv rfl li_1 (by omega) (by omega)
    exact Sf.so ⟨I_S_50, F_S_50, by omega⟩
  · have h33 := nlt_iv rfl li_300 c_h2
    have h34 : ((-1 : Int32)).toInt = -1 := li_m1
    exact Sf.so ⟨I_S, F_S, by omega⟩
theorem s_fX3_made_9_7 (fu : Nat) (hfu : 1000000000000000000 ≤ fu) : ∀ (n : Nat) (x2 : Int32) (x3 : Int32) (S : St), Inv S → (0 ≤ (x2).toInt) → ((x2).toInt ≤ 299) → (-1 ≤ (x3).toInt) → ((x3).toInt ≤ 5) → ((x3).toInt + 1).toNat < n → Sf (fX3_made_9 fu 7 n x2 x3 S) (fun U r => Inv U ∧ Fr [(3, 4), (4, 0), (6, 0)] S U ∧ ((-1 ≤ r.toInt) ∧ (r.toInt ≤ 299))) := by
  intro n
  induction n with
  | zero => intro x2 x3 S I_S g0 g1 g2 g3 hm; exact absurd hm (Nat.not_lt_zero _)
  | succ n ih =>
    intro x2 x3 S I_S g0 g1 g2 g3 hm
    rw [fX3_made_9_s]
    try simp only [Nat.reduceAdd]
    have F_S : Fr [(3, 4), (4, 0), (6, 0)] S S := Fr.refl _ _
    have h1 := i32 x3
    refine Sf.i (fun c_h2 => ?_) (fun c_h2 => ?_)
    · have h3 := lt_iv rfl li_0 c_h2
      have h4 := i32 x2
      exact Sf.so ⟨I_S, F_S, by omega⟩
    · have h5 := nlt_iv rfl li_0 c_h2
      refine Sf.bp (s_fX8_labelAt_7 fu hfu x3 S I_S) (fun r_17 p_r_17 => ?_)
      have h6 := i32 x2
      refine Sf.bp (s_fX3_child fu hfu x2 r_17 S I_S) (fun r_20 p_r_20 => ?_)
      have h7 := i32 r_20
      refine Sf.i (fun c_h8 => ?_) (fun c_h8 => ?_)
      · have h9 := eq_iv rfl li_m1 c_h8
        refine Sf.bp (s_fX8_labelAt_7 fu hfu x3 S I_S) (fun r_35 p_r_35 => ?_)
        refine Sf.bp (s_fX8_lengthAt_7 fu hfu x3 S I_S) (fun r_40 p_r_40 => ?_)
        have h10 := i32 r_40
        refine Sf.b (s_fX3_add fu hfu x2 r_35 r_40 S I_S (by omega) (by omega) (by omega) (by omega)) (fun S_43 r_43 p_r_43 => ?_)
        obtain ⟨I_S_43, G_S_43, p_r_43⟩ := p_r_43
        have F_S_43 := Fr.tr F_S G_S_43 rfl
        unfold fX3_made_48
        try simp only [Nat.reduceAdd]
        have h11 := i32 r_43
        refine Sf.i (fun c_h12 => ?_) (fun c_h12 => ?_)
        · have h13 := eq_iv rfl li_m1 c_h12
          have h14 : ((-1 : Int32)).toInt = -1 := li_m1
          exact Sf.so ⟨I_S_43, F_S_43, by omega⟩
        · have h15 := neq_iv rfl li_m1 c_h12
          obtain ⟨d16, e_d16⟩ : ∃ d : Int32, d = (x3 + (-1 : Int32)) := ⟨_, rfl⟩
          have h17 : (d16).toInt = (x3).toInt + (-1) := by rw [e_d16]; exact add_iv rfl li_m1 (by omega) (by omega)
          rw [← e_d16]
          clear e_d16
          refine Sf.mono (ih r_43 d16 S_43 I_S_43 (by omega) (by omega) (by omega) (by omega) (by omega)) (fun U r p_h18 => ?_)
          obtain ⟨I_U, G_U, p_h18⟩ := p_h18
          exact ⟨I_U, Fr.tr F_S_43 G_U rfl, by omega⟩
      · have h19 := neq_iv rfl li_m1 c_h8
        unfold fX3_made_48
        try simp only [Nat.reduceAdd]
        refine Sf.i (fun c_h20 => ?_) (fun c_h20 => ?_)
        · have h21 := eq_iv rfl li_m1 c_h20
          have h22 : ((-1 : Int32)).toInt = -1 := li_m1
          exact Sf.so ⟨I_S, F_S, by omega⟩
        · have h23 := neq_iv rfl li_m1 c_h20
          obtain ⟨d24, e_d24⟩ : ∃ d : Int32, d = (x3 + (-1 : Int32)) := ⟨_, rfl⟩
          have h25 : (d24).toInt = (x3).toInt + (-1) := by rw [e_d24]; exact add_iv rfl li_m1 (by omega) (by omega)
          rw [← e_d24]
          clear e_d24
          refine Sf.mono (ih r_20 d24 S I_S (by omega) (by omega) (by omega) (by omega) (by omega)) (fun U r p_h26 => ?_)
          obtain ⟨I_U, G_U, p_h26⟩ := p_h26
          exact ⟨I_U, Fr.tr F_S G_U rfl, by omega⟩
theorem s_fX3_made_7 (fu : Nat) (hfu : 1000000000000000000 ≤ fu) (S : St) (I_S : Inv S) : Sf (fX3_made fu 7 S) (fun U r => Inv U ∧ Fr [(3, 4), (4, 0), (6, 0)] S U ∧ ((-1 ≤ r.toInt) ∧ (r.toInt ≤ 299))) := by
  unfold fX3_made
  try simp only [Nat.reduceAdd]
  have F_S : Fr [(3, 4), (4, 0), (6, 0)] S S := Fr.refl _ _
  have h1 := b_7_2 I_S
  refine Sf.bp (s_fX8_size_7 fu hfu S I_S) (fun r_3 p_r_3 => ?_)
  have h2 : ((0 : Int32)).toInt = 0 := li_0
  have h3 := i32 r_3
  try have h4 : ((r_3 - (1 : Int32))).toInt = (r_3).toInt - (1) := sub_iv rfl li_1 (by omega) (by omega)
  refine Sf.mono (s_fX3_made_9_7 fu hfu fu (0 : Int32) (r_3 - (1 : Int32)) S I_S (by omega) (by omega) (by omega) (by omega) (by omega)) (fun U r p_h5 => ?_)
  obtain ⟨I_U, G_U, p_h5⟩ := p_h5
  have h6 := ti_eq (G_U 7 2 rfl)
  exact ⟨I_U, Fr.tr F_S G_U rfl, by omega⟩
theorem s_fX11_name (fu : Nat) (hfu : 1000000000000000000 ≤ fu) (S : St) (I_S : Inv S) : Sf (fX11_name fu S) (fun U r => Inv U ∧ Fr [(1, 2), (1, 3), (3, 4), (4, 0), (6, 0), (7, 3), (9, 0)] S U ∧ (((r.1 = 0 ∨ r.1 = 1 ∨ r.1 = 2)))) := by
  unfold fX11_name
  have F_S : Fr [(1, 2), (1, 3), (3, 4), (4, 0), (6, 0), (7, 3), (9, 0)] S S := Fr.refl _ _
  refine Sf.b (s_fX8_readText fu hfu S I_S) (fun S_8 r_8 p_r_8 => ?_)
  obtain ⟨I_S_8, G_S_8, p_r_8⟩ := p_r_8
  have F_S_8 := Fr.tr F_S G_S_8 rfl
  have h1 := ti_eq (G_S_8 3 3 rfl)
  refine Sf.b (s_fX0_clear_1 fu hfu S_8 I_S_8) (fun S_16 r_16_ p_r_16_ => ?_)
  obtain ⟨I_S_16, G_S_16, p_r_16_⟩ := p_r_16_
  have F_S_16 := Fr.tr F_S_8 G_S_16 rfl
  have h2 := ti_eq (G_S_16 3 3 rfl)
  have h3 := i32 r_8
  refine Sf.i (fun c_h4 => ?_) (fun c_h4 => ?_)
  · have h5 := eq_iv rfl li_0 c_h4
    exact Sf.so ⟨I_S_16, F_S_16, (show (((1 : Nat) = 0 ∨ (1 : Nat) = 1 ∨ (1 : Nat) = 2)) by omega)⟩
  · have h6 := neq_iv rfl li_0 c_h4
    have h7 := b_3_3 I_S_16
    refine Sf.bp (s_fX3_size fu hfu S_16 I_S_16) (fun r_37 p_r_37 => ?_)
    refine Sf.bp (s_fX3_missing fu hfu S_16 I_S_16) (fun r_48 p_r_48 => ?_)
    have h8 := i32 r_37
    have h9 := i32 r_48
    try have h10 : ((r_37 + r_48)).toInt = (r_37).toInt + (r_48).toInt := add_iv rfl rfl (by omega) (by omega)
    refine Sf.i (fun c_h11 => ?_) (fun c_h11 => ?_)
    · have h12 := le_iv rfl li_300 c_h11
      refine Sf.b (s_fX3_made_7 fu hfu S_16 I_S_16) (fun S_76 r_76 p_r_76 => ?_)
      obtain ⟨I_S_76, G_S_76, p_r_76⟩ := p_r_76
      have F_S_76 := Fr.tr F_S_16 G_S_76 rfl
      exact Sf.so ⟨I_S_76, F_S_76, (show (((0 : Nat) = 0 ∨ (0 : Nat) = 1 ∨ (0 : Nat) = 2)) by omega)⟩
    · have h13 := nle_iv rfl li_300 c_h11
      exact Sf.so ⟨I_S_16, F_S_16, (show (((2 : Nat) = 0 ∨ (2 : Nat) = 1 ∨ (2 : Nat) = 2)) by omega)⟩
theorem s_fX3_has (fu : Nat) (hfu : 1000000000000000000 ≤ fu) (x1 : Int32) (S : St) (I_S : Inv S) : Sp (fX3_has fu x1 S) S (fun r => ((r.toInt = 0 ∨ r.toInt = 1 ∧ 0 ≤ (x1).toInt ∧ (x1).toInt < (S.1 3 3).toInt))) := by
  unfold fX3_has
  have h1 := i32 x1
  refine Sp.i (fun c_h2 => ?_) (fun c_h2 => ?_)
  · have h3 := lt_iv rfl li_0 c_h2
    have h4 := b_3_3 I_S
    have h5 : ((0 : Int32)).toInt = 0 := li_0
    exact Sp.so (by omega)
  · have h6 := nlt_iv rfl li_0 c_h2
    have h7 := b_3_3 I_S
    refine Sp.i (fun c_h8 => ?_) (fun c_h8 => ?_)
    · have h9 := le_iv rfl rfl c_h8
      have h10 := b_3_3 I_S
      have h11 : ((0 : Int32)).toInt = 0 := li_0
      exact Sp.so (by omega)
    · have h12 := nle_iv rfl rfl c_h8
      have h13 := b_3_3 I_S
      have h14 : ((1 : Int32)).toInt = 1 := li_1
      exact Sp.so (by omega)
theorem s_fX11_needName (fu : Nat) (hfu : 1000000000000000000 ≤ fu) (x1 : Int32) (S : St) (I_S : Inv S) : Sp (fX11_needName fu x1 S) S (fun r => ((r.1 = 0 ∧ 0 ≤ (x1).toInt ∧ (x1).toInt < (S.1 3 3).toInt ∨ r.1 = 3))) := by
  unfold fX11_needName
  have h1 := i32 x1
  have h2 := b_3_3 I_S
  refine Sp.b (s_fX3_has fu hfu x1 S I_S) (fun r_5 p_r_5 => ?_)
  have h3 := i32 r_5
  refine Sp.i (fun c_h4 => ?_) (fun c_h4 => ?_)
  · have h5 := eq_iv rfl li_0 c_h4
    have h6 := b_3_3 I_S
    exact Sp.so (show (((3 : Nat) = 0 ∧ 0 ≤ (x1).toInt ∧ (x1).toInt < (S.1 3 3).toInt ∨ (3 : Nat) = 3)) by omega)
  · have h7 := neq_iv rfl li_0 c_h4
    have h8 := b_3_3 I_S
    exact Sp.so (show (((0 : Nat) = 0 ∧ 0 ≤ (x1).toInt ∧ (x1).toInt < (S.1 3 3).toInt ∨ (0 : Nat) = 3)) by omega)
theorem s_fX3_above (fu : Nat) (hfu : 1000000000000000000 ≤ fu) (x1 : Int32) (S : St) (I_S : Inv S) : Sp (fX3_above fu x1 S) S (fun r => (0 ≤ r.toInt) ∧ (r.toInt ≤ 299)) := by
  unfold fX3_above
  have h1 := i32 x1
  refine Sp.i (fun c_h2 => ?_) (fun c_h2 => ?_)
  · have h3 := lt_iv rfl li_0 c_h2
    have h4 : ((0 : Int32)).toInt = 0 := li_0
    exact Sp.so (by omega)
  · have h5 := nlt_iv rfl li_0 c_h2
    have h6 := b_3_3 I_S
    refine Sp.i (fun c_h7 => ?_) (fun c_h7 => ?_)
    · have h8 := le_iv rfl rfl c_h7
      have h9 : ((0 : Int32)).toInt = 0 := li_0
      exact Sp.so (by omega)
    · have h10 := nle_iv rfl rfl c_h7
      refine Sp.g (ck_iv (by omega) (by omega)) ?_
      have h11 := a_4 I_S ((x1).toNatClampNeg)
      exact Sp.so (by omega)
theorem s_fX3_depth_7 (fu : Nat) (hfu : 1000000000000000000 ≤ fu) : ∀ (n : Nat) (x2 : Int32) (x3 : Int32) (x4 : Int32) (S : St), Inv S → (0 ≤ (x4).toInt) → (6 - (x4).toInt).toNat < n → Sp (fX3_depth_7 fu n x2 x3 x4 S) S (fun r => True) := by
  intro n
  induction n with
  | zero => intro x2 x3 x4 S I_S g0 hm; exact absurd hm (Nat.not_lt_zero _)
  | succ n ih =>
    intro x2 x3 x4 S I_S g0 hm
    rw [fX3_depth_7_s]
    have h1 := i32 x4
    refine Sp.i (fun c_h2 => ?_) (fun c_h2 => ?_)
    · have h3 := le_iv li_6 rfl c_h2
      exact Sp.so trivial
    · have h4 := nle_iv li_6 rfl c_h2
      have h5 := i32 x3
      refine Sp.i (fun c_h6 => ?_) (fun c_h6 => ?_)
      · have h7 := eq_iv rfl li_0 c_h6
        exact Sp.so trivial
      · have h8 := neq_iv rfl li_0 c_h6
        refine Sp.b (s_fX3_above fu hfu x3 S I_S) (fun r_23 p_r_23 => ?_)
        have h9 := i32 x2
        try have h10 : ((x2 + (1 : Int32))).toInt = (x2).toInt + (1) := add_iv rfl li_1 (by omega) (by omega)
        have h11 := i32 r_23
        try have h12 : ((x4 + (1 : Int32))).toInt = (x4).toInt + (1) := add_iv rfl li_1 (by omega) (by omega)
        refine Sp.mono (ih (x2 + (1 : Int32)) r_23 (x4 + (1 : Int32)) S I_S (by omega) (by omega)) (fun r p_h13 => ?_)
        exact trivial
theorem s_fX3_depth (fu : Nat) (hfu : 1000000000000000000 ≤ fu) (x1 : Int32) (S : St) (I_S : Inv S) : Sp (fX3_depth fu x1 S) S (fun r => True) := by
  unfold fX3_depth
  have h1 : ((0 : Int32)).toInt = 0 := li_0
  have h2 := i32 x1
  refine Sp.mono (s_fX3_depth_7 fu hfu fu (0 : Int32) x1 (0 : Int32) S I_S (by omega) (by omega)) (fun r p_h3 => ?_)
  exact trivial
theorem s_fX3_labelSize (fu : Nat) (hfu : 1000000000000000000 ≤ fu) (x1 : Int32) (S : St) (I_S : Inv S) : Sp (fX3_labelSize fu x1 S) S (fun r => (0 ≤ r.toInt) ∧ (r.toInt ≤ 10)) := by
  unfold fX3_labelSize
  have h1 := i32 x1
  refine Sp.i (fun c_h2 => ?_) (fun c_h2 => ?_)
  · have h3 := lt_iv rfl li_0 c_h2
    have h4 : ((0 : Int32)).toInt = 0 := li_0
    exact Sp.so (by omega)
  · have h5 := nlt_iv rfl li_0 c_h2
    have h6 := b_3_3 I_S
    refine Sp.i (fun c_h7 => ?_) (fun c_h7 => ?_)
    · have h8 := le_iv rfl rfl c_h7
      have h9 : ((0 : Int32)).toInt = 0 := li_0
      exact Sp.so (by omega)
    · have h10 := nle_iv rfl rfl c_h7
      refine Sp.g (ck_iv (by omega) (by omega)) ?_
      have h11 := a_6 I_S ((x1).toNatClampNeg)
      exact Sp.so (by omega)
theorem s_fX3_textSize_13 (fu : Nat) (hfu : 1000000000000000000 ≤ fu) : ∀ (n : Nat) (x2 : Int32) (x3 : Int32) (x4 : Int32) (S : St), Inv S → (0 ≤ (x4).toInt) → (6 - (x4).toInt).toNat < n → Sp (fX3_textSize_13 fu n x2 x3 x4 S) S (fun r => True) := by
  intro n
  induction n with
  | zero => intro x2 x3 x4 S I_S g0 hm; exact absurd hm (Nat.not_lt_zero _)
  | succ n ih =>
    intro x2 x3 x4 S I_S g0 hm
    rw [fX3_textSize_13_s]
    have h1 := i32 x4
    refine Sp.i (fun c_h2 => ?_) (fun c_h2 => ?_)
    · have h3 := le_iv li_6 rfl c_h2
      exact Sp.so trivial
    · have h4 := nle_iv li_6 rfl c_h2
      have h5 := i32 x3
      refine Sp.i (fun c_h6 => ?_) (fun c_h6 => ?_)
      · have h7 := eq_iv rfl li_0 c_h6
        exact Sp.so trivial
      · have h8 := neq_iv rfl li_0 c_h6
        refine Sp.b (s_fX3_labelSize fu hfu x3 S I_S) (fun r_27 p_r_27 => ?_)
        refine Sp.b (s_fX3_above fu hfu x3 S I_S) (fun r_36 p_r_36 => ?_)
        have h9 := i32 x2
        have h10 := i32 r_27
        try have h11 : ((r_27 + (1 : Int32))).toInt = (r_27).toInt + (1) := add_iv rfl li_1 (by omega) (by omega)
        try have h12 : ((x2 + (r_27 + (1 : Int32)))).toInt = (x2).toInt + ((r_27 + (1 : Int32))).toInt := add_iv rfl rfl (by omega) (by omega)
        have h13 := i32 r_36
        try have h14 : ((x4 + (1 : Int32))).toInt = (x4).toInt + (1) := add_iv rfl li_1 (by omega) (by omega)
        refine Sp.mono (ih (x2 + (r_27 + (1 : Int32))) r_36 (x4 + (1 : Int32)) S I_S (by omega) (by omega)) (fun r p_h15 => ?_)
        exact trivial
theorem s_fX3_textSize (fu : Nat) (hfu : 1000000000000000000 ≤ fu) (x1 : Int32) (S : St) (I_S : Inv S) : Sp (fX3_textSize fu x1 S) S (fun r => True) := by
  unfold fX3_textSize
  have h1 := i32 x1
  refine Sp.i (fun c_h2 => ?_) (fun c_h2 => ?_)
  · have h3 := eq_iv rfl li_0 c_h2
    exact Sp.so trivial
  · have h4 := neq_iv rfl li_0 c_h2
    have h5 : ((-1 : Int32)).toInt = -1 := li_m1
    have h6 : ((0 : Int32)).toInt = 0 := li_0
    refine Sp.mono (s_fX3_textSize_13 fu hfu fu (-1 : Int32) x1 (0 : Int32) S I_S (by omega) (by omega)) (fun r p_h7 => ?_)
    exact trivial
theorem s_fX11_look (fu : Nat) (hfu : 1000000000000000000 ≤ fu) (x1 : Int32) (x2 : Int32) (S : St) (I_S : Inv S) : Sp (fX11_look fu x1 x2 S) S (fun r => ((r.1 = 0 ∨ r.1 = 3 ∨ r.1 = 4))) := by
  unfold fX11_look
  have h1 := i32 x1
  have h2 := b_3_3 I_S
  refine Sp.x (s_fX11_needName fu hfu x1 S I_S) (fun r_2_ p_r_2_ => ?_) (fun k r p_e => ?_)
  rotate_left
  · have p_e : (((k + 1) = 0 ∧ 0 ≤ (x1).toInt ∧ (x1).toInt < (S.1 3 3).toInt ∨ (k + 1) = 3)) := p_e
    exact (show (((k + 1) = 0 ∨ (k + 1) = 3 ∨ (k + 1) = 4)) by omega)
  have p_r_2_ : (((0 : Nat) = 0 ∧ 0 ≤ (x1).toInt ∧ (x1).toInt < (S.1 3 3).toInt ∨ (0 : Nat) = 3)) := p_r_2_
  have h3 := i32 x2
  refine Sp.i (fun c_h4 => ?_) (fun c_h4 => ?_)
  · have h5 := eq_iv rfl li_0 c_h4
    refine Sp.b (s_fX3_depth fu hfu x1 S I_S) (fun r_37 p_r_37 => ?_)
    exact Sp.so (show (((0 : Nat) = 0 ∨ (0 : Nat) = 3 ∨ (0 : Nat) = 4)) by omega)
  · have h6 := neq_iv rfl li_0 c_h4
    refine Sp.i (fun c_h7 => ?_) (fun c_h7 => ?_)
    · have h8 := eq_iv rfl li_1 c_h7
      refine Sp.b (s_fX3_above fu hfu x1 S I_S) (fun r_46 p_r_46 => ?_)
      exact Sp.so (show (((0 : Nat) = 0 ∨ (0 : Nat) = 3 ∨ (0 : Nat) = 4)) by omega)
    · have h9 := neq_iv rfl li_1 c_h7
      refine Sp.i (fun c_h10 => ?_) (fun c_h10 => ?_)
      · have h11 := eq_iv rfl li_2 c_h10
        refine Sp.b (s_fX3_textSize fu hfu x1 S I_S) (fun r_55 p_r_55 => ?_)
        exact Sp.so (show (((0 : Nat) = 0 ∨ (0 : Nat) = 3 ∨ (0 : Nat) = 4)) by omega)
      · have h12 := neq_iv rfl li_2 c_h10
        exact Sp.so (show (((4 : Nat) = 0 ∨ (4 : Nat) = 3 ∨ (4 : Nat) = 4)) by omega)
theorem s_fX3_letter (fu : Nat) (hfu : 1000000000000000000 ≤ fu) (x1 : Int32) (x2 : Int32) (S : St) (I_S : Inv S) : Sp (fX3_letter fu x1 x2 S) S (fun r => True) := by
  unfold fX3_letter
  have h1 := i32 x1
  refine Sp.i (fun c_h2 => ?_) (fun c_h2 => ?_)
  · have h3 := lt_iv rfl li_0 c_h2
    exact Sp.so trivial
  · have h4 := nlt_iv rfl li_0 c_h2
    have h5 := b_3_3 I_S
    refine Sp.i (fun c_h6 => ?_) (fun c_h6 => ?_)
    · have h7 := le_iv rfl rfl c_h6
      exact Sp.so trivial
    · have h8 := nle_iv rfl rfl c_h6
      have h9 := i32 x2
      refine Sp.i (fun c_h10 => ?_) (fun c_h10 => ?_)
      · have h11 := lt_iv rfl li_0 c_h10
        exact Sp.so trivial
      · have h12 := nlt_iv rfl li_0 c_h10
        refine Sp.g (ck_iv (by omega) (by omega)) ?_
        have h13 := a_6 I_S ((x1).toNatClampNeg)
        refine Sp.i (fun c_h14 => ?_) (fun c_h14 => ?_)
        · have h15 := lt_iv rfl rfl c_h14
          refine Sp.g (ck_iv (by omega) (by omega)) ?_
          refine Sp.g (ck_iv (by omega) (by omega)) ?_
          try have h16 : (((S.1 6 ((x1).toNatClampNeg)) - (1 : Int32))).toInt = ((S.1 6 ((x1).toNatClampNeg))).toInt - (1) := sub_iv rfl li_1 (by omega) (by omega)
          try have h17 : ((((S.1 6 ((x1).toNatClampNeg)) - (1 : Int32)) - x2)).toInt = (((S.1 6 ((x1).toNatClampNeg)) - (1 : Int32))).toInt - (x2).toInt := sub_iv rfl rfl (by omega) (by omega)
          try have h18 : (((6 : Int32) * (((S.1 6 ((x1).toNatClampNeg)) - (1 : Int32)) - x2))).toInt = (6) * ((((S.1 6 ((x1).toNatClampNeg)) - (1 : Int32)) - x2)).toInt := mul_iv li_6 rfl (by omega) (by omega)
          have h19 := and_63 ((((S.2 5 ((x1).toNatClampNeg)) >>> ((((6 : Int32) * (((S.1 6 ((x1).toNatClampNeg)) - (1 : Int32)) - x2))).toInt64 &&& 63))).toInt32)
          refine Sp.i (fun c_h20 => ?_) (fun c_h20 => ?_)
          · have h21 := eq_iv rfl li_37 c_h20
            exact Sp.so trivial
          · have h22 := neq_iv rfl li_37 c_h20
            refine Sp.i (fun c_h23 => ?_) (fun c_h23 => ?_)
            · have h24 := le_iv rfl li_26 c_h23
              exact Sp.so trivial
            · have h25 := nle_iv rfl li_26 c_h23
              exact Sp.so trivial
        · have h26 := nlt_iv rfl rfl c_h14
          exact Sp.so trivial
theorem s_fX3_textByte_23 (fu : Nat) (hfu : 1000000000000000000 ≤ fu) : ∀ (n : Nat) (x3 : Int32) (x4 : Int32) (x5 : Int32) (S : St), Inv S → (0 ≤ (x5).toInt) → (6 - (x5).toInt).toNat < n → Sp (fX3_textByte_23 fu n x3 x4 x5 S) S (fun r => True) := by
  intro n
  induction n with
  | zero => intro x3 x4 x5 S I_S g0 hm; exact absurd hm (Nat.not_lt_zero _)
  | succ n ih =>
    intro x3 x4 x5 S I_S g0 hm
    rw [fX3_textByte_23_s]
    have h1 := i32 x5
    refine Sp.i (fun c_h2 => ?_) (fun c_h2 => ?_)
    · have h3 := le_iv li_6 rfl c_h2
      unfold fX3_textByte_64
      have h4 := i32 x3
      refine Sp.b (s_fX3_labelSize fu hfu x3 S I_S) (fun r_68 p_r_68 => ?_)
      have h5 := i32 x4
      have h6 := i32 r_68
      refine Sp.i (fun c_h7 => ?_) (fun c_h7 => ?_)
      · have h8 := eq_iv rfl rfl c_h7
        exact Sp.so trivial
      · have h9 := neq_iv rfl rfl c_h7
        refine Sp.b (s_fX3_letter fu hfu x3 x4 S I_S) (fun r_83 p_r_83 => ?_)
        exact Sp.so trivial
    · have h10 := nle_iv li_6 rfl c_h2
      have h11 := i32 x3
      refine Sp.b (s_fX3_labelSize fu hfu x3 S I_S) (fun r_34 p_r_34 => ?_)
      have h12 := i32 x4
      have h13 := i32 r_34
      refine Sp.i (fun c_h14 => ?_) (fun c_h14 => ?_)
      · have h15 := le_iv rfl rfl c_h14
        unfold fX3_textByte_64
        refine Sp.b (s_fX3_labelSize fu hfu x3 S I_S) (fun r_68 p_r_68 => ?_)
        have h16 := i32 r_68
        refine Sp.i (fun c_h17 => ?_) (fun c_h17 => ?_)
        · have h18 := eq_iv rfl rfl c_h17
          exact Sp.so trivial
        · have h19 := neq_iv rfl rfl c_h17
          refine Sp.b (s_fX3_letter fu hfu x3 x4 S I_S) (fun r_83 p_r_83 => ?_)
          exact Sp.so trivial
      · have h20 := nle_iv rfl rfl c_h14
        refine Sp.b (s_fX3_labelSize fu hfu x3 S I_S) (fun r_44 p_r_44 => ?_)
        refine Sp.b (s_fX3_above fu hfu x3 S I_S) (fun r_54 p_r_54 => ?_)
        have h21 := i32 r_54
        have h22 := i32 r_44
        try have h23 : ((r_44 + (1 : Int32))).toInt = (r_44).toInt + (1) := add_iv rfl li_1 (by omega) (by omega)
        try have h24 : ((x4 - (r_44 + (1 : Int32)))).toInt = (x4).toInt - ((r_44 + (1 : Int32))).toInt := sub_iv rfl rfl (by omega) (by omega)
        try have h25 : ((x5 + (1 : Int32))).toInt = (x5).toInt + (1) := add_iv rfl li_1 (by omega) (by omega)
        refine Sp.mono (ih r_54 (x4 - (r_44 + (1 : Int32))) (x5 + (1 : Int32)) S I_S (by omega) (by omega)) (fun r p_h26 => ?_)
        exact trivial
theorem s_fX3_textByte (fu : Nat) (hfu : 1000000000000000000 ≤ fu) (x1 : Int32) (x2 : Int32) (S : St) (I_S : Inv S) : Sp (fX3_textByte fu x1 x2 S) S (fun r => True) := by
  unfold fX3_textByte
  have h1 := i32 x2
  refine Sp.i (fun c_h2 => ?_) (fun c_h2 => ?_)
  · have h3 := lt_iv rfl li_0 c_h2
    exact Sp.so trivial
  · have h4 := nlt_iv rfl li_0 c_h2
    have h5 := i32 x1
    refine Sp.b (s_fX3_textSize fu hfu x1 S I_S) (fun r_7 p_r_7 => ?_)
    have h6 := i32 r_7
    refine Sp.i (fun c_h7 => ?_) (fun c_h7 => ?_)
    · have h8 := lt_iv rfl rfl c_h7
      have h9 : ((0 : Int32)).toInt = 0 := li_0
      refine Sp.mono (s_fX3_textByte_23 fu hfu fu x1 x2 (0 : Int32) S I_S (by omega) (by omega)) (fun r p_h10 => ?_)
      exact trivial
    · have h11 := nlt_iv rfl rfl c_h7
      exact Sp.so trivial
theorem s_fX11_text (fu : Nat) (hfu : 1000000000000000000 ≤ fu) (x1 : Int32) (x2 : Int32) (S : St) (I_S : Inv S) : Sp (fX11_text fu x1 x2 S) S (fun r => ((r.1 = 0 ∨ r.1 = 3))) := by
  unfold fX11_text
  have h1 := i32 x1
  have h2 := b_3_3 I_S
  refine Sp.x (s_fX11_needName fu hfu x1 S I_S) (fun r_2_ p_r_2_ => ?_) (fun k r p_e => ?_)
  rotate_left
  · have p_e : (((k + 1) = 0 ∧ 0 ≤ (x1).toInt ∧ (x1).toInt < (S.1 3 3).toInt ∨ (k + 1) = 3)) := p_e
    exact (show (((k + 1) = 0 ∨ (k + 1) = 3)) by omega)
  have p_r_2_ : (((0 : Nat) = 0 ∧ 0 ≤ (x1).toInt ∧ (x1).toInt < (S.1 3 3).toInt ∨ (0 : Nat) = 3)) := p_r_2_
  have h3 := i32 x2
  refine Sp.b (s_fX3_textByte fu hfu x1 x2 S I_S) (fun r_11 p_r_11 => ?_)
  exact Sp.so (show (((0 : Nat) = 0 ∨ (0 : Nat) = 3)) by omega)
theorem s_fX10_ofApex_2 (fu : Nat) (hfu : 1000000000000000000 ≤ fu) : ∀ (n : Nat) (x1 : Int32) (x2 : Int32) (S : St), Inv S → (0 ≤ (x2).toInt) → (12 - (x2).toInt).toNat < n → Sp (fX10_ofApex_2 fu n x1 x2 S) S (fun r => (-1 ≤ r.toInt) ∧ (r.toInt < (S.1 10 3).toInt)) := by
  intro n
  induction n with
  | zero => intro x1 x2 S I_S g0 hm; exact absurd hm (Nat.not_lt_zero _)
  | succ n ih =>
    intro x1 x2 S I_S g0 hm
    rw [fX10_ofApex_2_s]
    have h1 := b_10_3 I_S
    have h2 := i32 x2
    refine Sp.i (fun c_h3 => ?_) (fun c_h3 => ?_)
    · have h4 := le_iv rfl rfl c_h3
      have h5 := b_10_3 I_S
      have h6 : ((-1 : Int32)).toInt = -1 := li_m1
      exact Sp.so (by omega)
    · have h7 := nle_iv rfl rfl c_h3
      refine Sp.g (ck_iv (by omega) (by omega)) ?_
      have h8 := i32 x1
      refine Sp.i (fun c_h9 => ?_) (fun c_h9 => ?_)
      · have h10 := eq_iv rfl rfl c_h9
        have h11 := b_10_3 I_S
        exact Sp.so (by omega)
      · have h12 := neq_iv rfl rfl c_h9
        try have h13 : ((x2 + (1 : Int32))).toInt = (x2).toInt + (1) := add_iv rfl li_1 (by omega) (by omega)
        refine Sp.mono (ih x1 (x2 + (1 : Int32)) S I_S (by omega) (by omega)) (fun r p_h14 => ?_)
        exact by omega
theorem s_fX10_ofApex (fu : Nat) (hfu : 1000000000000000000 ≤ fu) (x1 : Int32) (S : St) (I_S : Inv S) : Sp (fX10_ofApex fu x1 S) S (fun r => (-1 ≤ r.toInt) ∧ (r.toInt < (S.1 10 3).toInt)) := by
  unfold fX10_ofApex
  have h1 := i32 x1
  have h2 : ((0 : Int32)).toInt = 0 := li_0
  have h3 := b_10_3 I_S
  refine Sp.mono (s_fX10_ofApex_2 fu hfu fu x1 (0 : Int32) S I_S (by omega) (by omega)) (fun r p_h4 => ?_)
  exact by omega
theorem s_fX10_size (fu : Nat) (hfu : 1000000000000000000 ≤ fu) (S : St) (I_S : Inv S) : Sp (fX10_size fu S) S (fun r => (r.toInt = (S.1 10 3).toInt)) := by
  unfold fX10_size
  have h1 := b_10_3 I_S
  have h2 := b_10_3 I_S
  exact Sp.so (by omega)
theorem s_fX10_open (fu : Nat) (hfu : 1000000000000000000 ≤ fu) (x1 : Int32) (x2 : Int32) (S : St) (I_S : Inv S) : Sf (fX10_open fu x1 x2 S) (fun U r => Inv U ∧ Fr [(10, 4), (11, 0), (12, 0)] S U ∧ (True)) := by
  unfold fX10_open
  have F_S : Fr [(10, 4), (11, 0), (12, 0)] S S := Fr.refl _ _
  have h1 := b_10_3 I_S
  refine Sf.i (fun c_h2 => ?_) (fun c_h2 => ?_)
  · have h3 := lt_iv rfl li_12 c_h2
    refine Sf.g (ck_iv (by omega) (by omega)) ?_
    have h4 := i32 x1
    refine Sf.w I_S F_S rfl (i32 _).1 (i32 _).2 (fun S_20 I_S_20 F_S_20 v_S_20 f_S_20 l_S_20 => ?_)
    have h5 := ti_eq (f_S_20 10 3 (fun e => absurd e (by decide)))
    have h6 : (S_20.1 11 (((S.1 10 3)).toNatClampNeg)).toInt = (x1).toInt := eq_iv rfl rfl v_S_20
    have h7 : (S_20.1 11 (((S_20.1 10 3)).toNatClampNeg)).toInt = (x1).toInt := by rw [f_S_20 10 3 (fun e => absurd e (by decide))]; exact eq_iv rfl rfl v_S_20
    have h8 := b_10_3 I_S_20
    refine Sf.g (ck_iv (by omega) (by omega)) ?_
    have h9 := i32 x2
    refine Sf.w I_S_20 F_S_20 rfl (i32 _).1 (i32 _).2 (fun S_30 I_S_30 F_S_30 v_S_30 f_S_30 l_S_30 => ?_)
    have h10 := ti_eq (f_S_30 10 3 (fun e => absurd e (by decide)))
    have h11 : (S_30.1 12 (((S_20.1 10 3)).toNatClampNeg)).toInt = (x2).toInt := eq_iv rfl rfl v_S_30
    have h12 : (S_30.1 12 (((S_30.1 10 3)).toNatClampNeg)).toInt = (x2).toInt := by rw [f_S_30 10 3 (fun e => absurd e (by decide))]; exact eq_iv rfl rfl v_S_30
    have h13 : (S_30.1 11 (((S.1 10 3)).toNatClampNeg)).toInt = (S_20.1 11 (((S.1 10 3)).toNatClampNeg)).toInt := ti_eq (f_S_30 11 (((S.1 10 3)).toNatClampNeg) (fun e => absurd e (by decide)))
    have h14 : (S_30.1 11 (((S_20.1 10 3)).toNatClampNeg)).toInt = (S_20.1 11 (((S_20.1 10 3)).toNatClampNeg)).toInt := ti_eq (f_S_30 11 (((S_20.1 10 3)).toNatClampNeg) (fun e => absurd e (by decide)))
    have h15 : (S_30.1 11 (((S_30.1 10 3)).toNatClampNeg)).toInt = (S_20.1 11 (((S_20.1 10 3)).toNatClampNeg)).toInt := by rw [f_S_30 10 3 (fun e => absurd e (by decide))]; exact ti_eq (f_S_30 11 (((S_20.1 10 3)).toNatClampNeg) (fun e => absurd e (by decide)))
    have h16 := b_10_3 I_S_30
    try have h17 : (((S_30.1 10 3) + (1 : Int32))).toInt = ((S_30.1 10 3)).toInt + (1) := add_iv rfl li_1 (by omega) (by omega)
    refine Sf.w I_S_30 F_S_30 rfl (show ((0) : Int) ≤ (((S_30.1 10 3) + (1 : Int32))).toInt by omega) (show (((S_30.1 10 3) + (1 : Int32))).toInt ≤ (12 : Int) by omega) (fun S_38 I_S_38 F_S_38 v_S_38 f_S_38 l_S_38 => ?_)
    have h18 := eq_iv rfl rfl v_S_38
    have h19 : (S_38.1 11 (((S.1 10 3)).toNatClampNeg)).toInt = (S_30.1 11 (((S.1 10 3)).toNatClampNeg)).toInt := ti_eq (f_S_38 11 (((S.1 10 3)).toNatClampNeg) (fun e => absurd e (by decide)))
    have h20 : (S_38.1 11 (((S_20.1 10 3)).toNatClampNeg)).toInt = (S_30.1 11 (((S_20.1 10 3)).toNatClampNeg)).toInt := ti_eq (f_S_38 11 (((S_20.1 10 3)).toNatClampNeg) (fun e => absurd e (by decide)))
    have h21 : (S_38.1 11 (((S_30.1 10 3)).toNatClampNeg)).toInt = (S_30.1 11 (((S_30.1 10 3)).toNatClampNeg)).toInt := ti_eq (f_S_38 11 (((S_30.1 10 3)).toNatClampNeg) (fun e => absurd e (by decide)))
    have h22 : (S_38.1 12 (((S_20.1 10 3)).toNatClampNeg)).toInt = (S_30.1 12 (((S_20.1 10 3)).toNatClampNeg)).toInt := ti_eq (f_S_38 12 (((S_20.1 10 3)).toNatClampNeg) (fun e => absurd e (by decide)))
    have h23 : (S_38.1 12 (((S_30.1 10 3)).toNatClampNeg)).toInt = (S_30.1 12 (((S_30.1 10 3)).toNatClampNeg)).toInt := ti_eq (f_S_38 12 (((S_30.1 10 3)).toNatClampNeg) (fun e => absurd e (by decide)))
    exact Sf.so ⟨I_S_38, F_S_38, trivial⟩
  · have h24 := nlt_iv rfl li_12 c_h2
    exact Sf.so ⟨I_S, F_S, trivial⟩
theorem s_fX11_zone (fu : Nat) (hfu : 1000000000000000000 ≤ fu) (x1 : Int32) (x2 : Int32) (S : St) (I_S : Inv S) : Sf (fX11_zone fu x1 x2 S) (fun U r => Inv U ∧ Fr [(10, 4), (11, 0), (12, 0)] S U ∧ (((r.1 = 0 ∨ r.1 = 3 ∨ r.1 = 1 ∨ r.1 = 2)))) := by
  unfold fX11_zone
  have F_S : Fr [(10, 4), (11, 0), (12, 0)] S S := Fr.refl _ _
  have h1 := i32 x1
  have h2 := b_3_3 I_S
  refine Sf.xp (s_fX11_needName fu hfu x1 S I_S) (fun r_2_ p_r_2_ => ?_) (fun k r p_e => ?_)
  rotate_left
  · have p_e : (((k + 1) = 0 ∧ 0 ≤ (x1).toInt ∧ (x1).toInt < (S.1 3 3).toInt ∨ (k + 1) = 3)) := p_e
    exact ⟨I_S, F_S, (show (((k + 1) = 0 ∨ (k + 1) = 3 ∨ (k + 1) = 1 ∨ (k + 1) = 2)) by omega)⟩
  have p_r_2_ : (((0 : Nat) = 0 ∧ 0 ≤ (x1).toInt ∧ (x1).toInt < (S.1 3 3).toInt ∨ (0 : Nat) = 3)) := p_r_2_
  have h3 := i32 x2
  refine Sf.bp (s_fX11_isLife fu hfu x2 S I_S) (fun r_6 p_r_6 => ?_)
  have h4 := i32 r_6
  refine Sf.i (fun c_h5 => ?_) (fun c_h5 => ?_)
  · have h6 := eq_iv rfl li_0 c_h5
    unfold fX11_zone_24
    exact Sf.so ⟨I_S, F_S, (show (((1 : Nat) = 0 ∨ (1 : Nat) = 3 ∨ (1 : Nat) = 1 ∨ (1 : Nat) = 2)) by omega)⟩
  · have h7 := neq_iv rfl li_0 c_h5
    have h8 := b_10_3 I_S
    refine Sf.bp (s_fX10_ofApex fu hfu x1 S I_S) (fun r_17 p_r_17 => ?_)
    have h9 := i32 r_17
    refine Sf.i (fun c_h10 => ?_) (fun c_h10 => ?_)
    · have h11 := eq_iv rfl li_m1 c_h10
      refine Sf.bp (s_fX10_size fu hfu S I_S) (fun r_38 p_r_38 => ?_)
      have h12 := i32 r_38
      refine Sf.i (fun c_h13 => ?_) (fun c_h13 => ?_)
      · have h14 := lt_iv rfl li_12 c_h13
        refine Sf.b (s_fX10_open fu hfu x1 x2 S I_S) (fun S_62 r_62 p_r_62 => ?_)
        obtain ⟨I_S_62, G_S_62, p_r_62⟩ := p_r_62
        have F_S_62 := Fr.tr F_S G_S_62 rfl
        have h15 := ti_eq (G_S_62 3 3 rfl)
        exact Sf.so ⟨I_S_62, F_S_62, (show (((0 : Nat) = 0 ∨ (0 : Nat) = 3 ∨ (0 : Nat) = 1 ∨ (0 : Nat) = 2)) by omega)⟩
      · have h16 := nlt_iv rfl li_12 c_h13
        exact Sf.so ⟨I_S, F_S, (show (((2 : Nat) = 0 ∨ (2 : Nat) = 3 ∨ (2 : Nat) = 1 ∨ (2 : Nat) = 2)) by omega)⟩
    · have h17 := neq_iv rfl li_m1 c_h10
      unfold fX11_zone_24
      exact Sf.so ⟨I_S, F_S, (show (((1 : Nat) = 0 ∨ (1 : Nat) = 3 ∨ (1 : Nat) = 1 ∨ (1 : Nat) = 2)) by omega)⟩
theorem s_fX10_has (fu : Nat) (hfu : 1000000000000000000 ≤ fu) (x1 : Int32) (S : St) (I_S : Inv S) : Sp (fX10_has fu x1 S) S (fun r => ((r.toInt = 0 ∨ r.toInt = 1 ∧ 0 ≤ (x1).toInt ∧ (x1).toInt < (S.1 10 3).toInt))) := by
  unfold fX10_has
  have h1 := i32 x1
  refine Sp.i (fun c_h2 => ?_) (fun c_h2 => ?_)
  · have h3 := lt_iv rfl li_0 c_h2
    have h4 := b_10_3 I_S
    have h5 : ((0 : Int32)).toInt = 0 := li_0
    exact Sp.so (by omega)
  · have h6 := nlt_iv rfl li_0 c_h2
    have h7 := b_10_3 I_S
    refine Sp.i (fun c_h8 => ?_) (fun c_h8 => ?_)
    · have h9 := le_iv rfl rfl c_h8
      have h10 := b_10_3 I_S
      have h11 : ((0 : Int32)).toInt = 0 := li_0
      exact Sp.so (by omega)
    · have h12 := nle_iv rfl rfl c_h8
      have h13 := b_10_3 I_S
      have h14 : ((1 : Int32)).toInt = 1 := li_1
      exact Sp.so (by omega)
theorem s_fX11_needZone (fu : Nat) (hfu : 1000000000000000000 ≤ fu) (x1 : Int32) (S : St) (I_S : Inv S) : Sp (fX11_needZone fu x1 S) S (fun r => ((r.1 = 0 ∧ 0 ≤ (x1).toInt ∧ (x1).toInt < (S.1 10 3).toInt ∨ r.1 = 3))) := by
  unfold fX11_needZone
  have h1 := i32 x1
  have h2 := b_10_3 I_S
  refine Sp.b (s_fX10_has fu hfu x1 S I_S) (fun r_5 p_r_5 => ?_)
  have h3 := i32 r_5
  refine Sp.i (fun c_h4 => ?_) (fun c_h4 => ?_)
  · have h5 := eq_iv rfl li_0 c_h4
    have h6 := b_10_3 I_S
    exact Sp.so (show (((3 : Nat) = 0 ∧ 0 ≤ (x1).toInt ∧ (x1).toInt < (S.1 10 3).toInt ∨ (3 : Nat) = 3)) by omega)
  · have h7 := neq_iv rfl li_0 c_h4
    have h8 := b_10_3 I_S
    exact Sp.so (show (((0 : Nat) = 0 ∧ 0 ≤ (x1).toInt ∧ (x1).toInt < (S.1 10 3).toInt ∨ (0 : Nat) = 3)) by omega)
theorem s_fX10_apexOf (fu : Nat) (hfu : 1000000000000000000 ≤ fu) (x1 : Int32) (S : St) (I_S : Inv S) : Sp (fX10_apexOf fu x1 S) S (fun r => True) := by
  unfold fX10_apexOf
  have h1 := i32 x1
  have h2 := b_10_3 I_S
  refine Sp.b (s_fX10_has fu hfu x1 S I_S) (fun r_2 p_r_2 => ?_)
  have h3 := i32 r_2
  refine Sp.i (fun c_h4 => ?_) (fun c_h4 => ?_)
  · have h5 := eq_iv rfl li_0 c_h4
    exact Sp.so trivial
  · have h6 := neq_iv rfl li_0 c_h4
    refine Sp.g (ck_iv (by omega) (by omega)) ?_
    exact Sp.so trivial
theorem s_fX3_isIn_5 (fu : Nat) (hfu : 1000000000000000000 ≤ fu) : ∀ (n : Nat) (x2 : Int32) (x3 : Int32) (x4 : Int32) (S : St), Inv S → (0 ≤ (x4).toInt) → (6 - (x4).toInt).toNat < n → Sp (fX3_isIn_5 fu n x2 x3 x4 S) S (fun r => (0 ≤ r.toInt) ∧ (r.toInt ≤ 1)) := by
  intro n
  induction n with
  | zero => intro x2 x3 x4 S I_S g0 hm; exact absurd hm (Nat.not_lt_zero _)
  | succ n ih =>
    intro x2 x3 x4 S I_S g0 hm
    rw [fX3_isIn_5_s]
    have h1 := i32 x4
    refine Sp.i (fun c_h2 => ?_) (fun c_h2 => ?_)
    · have h3 := le_iv li_6 rfl c_h2
      unfold fX3_isIn_29
      have h4 := i32 x3
      have h5 := i32 x2
      refine Sp.i (fun c_h6 => ?_) (fun c_h6 => ?_)
      · have h7 := eq_iv rfl rfl c_h6
        have h8 : ((1 : Int32)).toInt = 1 := li_1
        exact Sp.so (by omega)
      · have h9 := neq_iv rfl rfl c_h6
        have h10 : ((0 : Int32)).toInt = 0 := li_0
        exact Sp.so (by omega)
    · have h11 := nle_iv li_6 rfl c_h2
      have h12 := i32 x3
      have h13 := i32 x2
      refine Sp.i (fun c_h14 => ?_) (fun c_h14 => ?_)
      · have h15 := eq_iv rfl rfl c_h14
        unfold fX3_isIn_29
        refine Sp.i (fun c_h16 => ?_) (fun c_h16 => ?_)
        · have h17 := eq_iv rfl rfl c_h16
          have h18 : ((1 : Int32)).toInt = 1 := li_1
          exact Sp.so (by omega)
        · have h19 := neq_iv rfl rfl c_h16
          have h20 : ((0 : Int32)).toInt = 0 := li_0
          exact Sp.so (by omega)
      · have h21 := neq_iv rfl rfl c_h14
        refine Sp.b (s_fX3_above fu hfu x3 S I_S) (fun r_19 p_r_19 => ?_)
        have h22 := i32 r_19
        try have h23 : ((x4 + (1 : Int32))).toInt = (x4).toInt + (1) := add_iv rfl li_1 (by omega) (by omega)
        refine Sp.mono (ih x2 r_19 (x4 + (1 : Int32)) S I_S (by omega) (by omega)) (fun r p_h24 => ?_)
        exact by omega
theorem s_fX3_isIn (fu : Nat) (hfu : 1000000000000000000 ≤ fu) (x1 : Int32) (x2 : Int32) (S : St) (I_S : Inv S) : Sp (fX3_isIn fu x1 x2 S) S (fun r => (0 ≤ r.toInt) ∧ (r.toInt ≤ 1)) := by
  unfold fX3_isIn
  have h1 := i32 x2
  have h2 := i32 x1
  have h3 : ((0 : Int32)).toInt = 0 := li_0
  refine Sp.mono (s_fX3_isIn_5 fu hfu fu x2 x1 (0 : Int32) S I_S (by omega) (by omega)) (fun r p_h4 => ?_)
  exact by omega
theorem s_fX10_records (fu : Nat) (hfu : 1000000000000000000 ≤ fu) (S : St) (I_S : Inv S) : Sp (fX10_records fu S) S (fun r => (r.toInt = (S.1 10 9).toInt)) := by
  unfold fX10_records
  have h1 := b_10_9 I_S
  have h2 := b_10_9 I_S
  exact Sp.so (by omega)
theorem s_fX10_add (fu : Nat) (hfu : 1000000000000000000 ≤ fu) (x1 : Int32) (x2 : Int32) (x3 : Int32) (x4 : Int32) (x5 : Int32) (S : St) (I_S : Inv S) : Sf (fX10_add fu x1 x2 x3 x4 x5 S) (fun U r => Inv U ∧ Fr [(10, 10), (13, 0), (14, 0), (15, 0), (16, 0), (17, 0)] S U ∧ (True)) := by
  unfold fX10_add
  have F_S : Fr [(10, 10), (13, 0), (14, 0), (15, 0), (16, 0), (17, 0)] S S := Fr.refl _ _
  have h1 := b_10_9 I_S
  refine Sf.i (fun c_h2 => ?_) (fun c_h2 => ?_)
  · have h3 := lt_iv rfl li_150 c_h2
    refine Sf.g (ck_iv (by omega) (by omega)) ?_
    have h4 := i32 x1
    refine Sf.w I_S F_S rfl (i32 _).1 (i32 _).2 (fun S_20 I_S_20 F_S_20 v_S_20 f_S_20 l_S_20 => ?_)
    have h5 := ti_eq (f_S_20 10 9 (fun e => absurd e (by decide)))
    have h6 : (S_20.1 13 (((S.1 10 9)).toNatClampNeg)).toInt = (x1).toInt := eq_iv rfl rfl v_S_20
    have h7 : (S_20.1 13 (((S_20.1 10 9)).toNatClampNeg)).toInt = (x1).toInt := by rw [f_S_20 10 9 (fun e => absurd e (by decide))]; exact eq_iv rfl rfl v_S_20
    have h8 := b_10_9 I_S_20
    refine Sf.g (ck_iv (by omega) (by omega)) ?_
    have h9 := i32 x2
    refine Sf.w I_S_20 F_S_20 rfl (i32 _).1 (i32 _).2 (fun S_30 I_S_30 F_S_30 v_S_30 f_S_30 l_S_30 => ?_)
    have h10 := ti_eq (f_S_30 10 9 (fun e => absurd e (by decide)))
    have h11 : (S_30.1 14 (((S_20.1 10 9)).toNatClampNeg)).toInt = (x2).toInt := eq_iv rfl rfl v_S_30
    have h12 : (S_30.1 14 (((S_30.1 10 9)).toNatClampNeg)).toInt = (x2).toInt := by rw [f_S_30 10 9 (fun e => absurd e (by decide))]; exact eq_iv rfl rfl v_S_30
    have h13 : (S_30.1 13 (((S.1 10 9)).toNatClampNeg)).toInt = (S_20.1 13 (((S.1 10 9)).toNatClampNeg)).toInt := ti_eq (f_S_30 13 (((S.1 10 9)).toNatClampNeg) (fun e => absurd e (by decide)))
    have h14 : (S_30.1 13 (((S_20.1 10 9)).toNatClampNeg)).toInt = (S_20.1 13 (((S_20.1 10 9)).toNatClampNeg)).toInt := ti_eq (f_S_30 13 (((S_20.1 10 9)).toNatClampNeg) (fun e => absurd e (by decide)))
    have h15 : (S_30.1 13 (((S_30.1 10 9)).toNatClampNeg)).toInt = (S_20.1 13 (((S_20.1 10 9)).toNatClampNeg)).toInt := by rw [f_S_30 10 9 (fun e => absurd e (by decide))]; exact ti_eq (f_S_30 13 (((S_20.1 10 9)).toNatClampNeg) (fun e => absurd e (by decide)))
    have h16 := b_10_9 I_S_30
    refine Sf.g (ck_iv (by omega) (by omega)) ?_
    have h17 := i32 x3
    refine Sf.w I_S_30 F_S_30 rfl (i32 _).1 (i32 _).2 (fun S_40 I_S_40 F_S_40 v_S_40 f_S_40 l_S_40 => ?_)
    have h18 := ti_eq (f_S_40 10 9 (fun e => absurd e (by decide)))
    have h19 : (S_40.1 15 (((S_30.1 10 9)).toNatClampNeg)).toInt = (x3).toInt := eq_iv rfl rfl v_S_40
    have h20 : (S_40.1 15 (((S_40.1 10 9)).toNatClampNeg)).toInt = (x3).toInt := by rw [f_S_40 10 9 (fun e => absurd e (by decide))]; exact eq_iv rfl rfl v_S_40
    have h21 : (S_40.1 13 (((S.1 10 9)).toNatClampNeg)).toInt = (S_30.1 13 (((S.1 10 9)).toNatClampNeg)).toInt := ti_eq (f_S_40 13 (((S.1 10 9)).toNatClampNeg) (fun e => absurd e (by decide)))
    have h22 : (S_40.1 13 (((S_20.1 10 9)).toNatClampNeg)).toInt = (S_30.1 13 (((S_20.1 10 9)).toNatClampNeg)).toInt := ti_eq (f_S_40 13 (((S_20.1 10 9)).toNatClampNeg) (fun e => absurd e (by decide)))
    have h23 : (S_40.1 13 (((S_30.1 10 9)).toNatClampNeg)).toInt = (S_30.1 13 (((S_30.1 10 9)).toNatClampNeg)).toInt := ti_eq (f_S_40 13 (((S_30.1 10 9)).toNatClampNeg) (fun e => absurd e (by decide)))
    have h24 : (S_40.1 13 (((S_40.1 10 9)).toNatClampNeg)).toInt = (S_30.1 13 (((S_30.1 10 9)).toNatClampNeg)).toInt := by rw [f_S_40 10 9 (fun e => absurd e (by decide))]; exact ti_eq (f_S_40 13 (((S_30.1 10 9)).toNatClampNeg) (fun e => absurd e (by decide)))
    have h25 : (S_40.1 14 (((S_20.1 10 9)).toNatClampNeg)).toInt = (S_30.1 14 (((S_20.1 10 9)).toNatClampNeg)).toInt := ti_eq (f_S_40 14 (((S_20.1 10 9)).toNatClampNeg) (fun e => absurd e (by decide)))
    have h26 : (S_40.1 14 (((S_30.1 10 9)).toNatClampNeg)).toInt = (S_30.1 14 (((S_30.1 10 9)).toNatClampNeg)).toInt := ti_eq (f_S_40 14 (((S_30.1 10 9)).toNatClampNeg) (fun e => absurd e (by decide)))
    have h27 : (S_40.1 14 (((S_40.1 10 9)).toNatClampNeg)).toInt = (S_30.1 14 (((S_30.1 10 9)).toNatClampNeg)).toInt := by rw [f_S_40 10 9 (fun e => absurd e (by decide))]; exact ti_eq (f_S_40 14 (((S_30.1 10 9)).toNatClampNeg) (fun e => absurd e (by decide)))
    have h28 := b_10_9 I_S_40
    refine Sf.g (ck_iv (by omega) (by omega)) ?_
    have h29 := i32 x4
    refine Sf.w I_S_40 F_S_40 rfl (i32 _).1 (i32 _).2 (fun S_51 I_S_51 F_S_51 v_S_51 f_S_51 l_S_51 => ?_)
    have h30 := ti_eq (f_S_51 10 9 (fun e => absurd e (by decide)))
    have h31 : (S_51.1 16 (((S_40.1 10 9)).toNatClampNeg)).toInt = (x4).toInt := eq_iv rfl rfl v_S_51
    have h32 : (S_51.1 16 (((S_51.1 10 9)).toNatClampNeg)).toInt = (x4).toInt := by rw [f_S_51 10 9 (fun e => absurd e (by decide))]; exact eq_iv rfl rfl v_S_51
    have h33 : (S_51.1 13 (((S.1 10 9)).toNatClampNeg)).toInt = (S_40.1 13 (((S.1 10 9)).toNatClampNeg)).toInt := ti_eq (f_S_51 13 (((S.1 10 9)).toNatClampNeg) (fun e => absurd e (by decide)))
    have h34 : (S_51.1 13 (((S_20.1 10 9)).toNatClampNeg)).toInt = (S_40.1 13 (((S_20.1 10 9)).toNatClampNeg)).toInt := ti_eq (f_S_51 13 (((S_20.1 10 9)).toNatClampNeg) (fun e => absurd e (by decide)))
    have h35 : (S_51.1 13 (((S_30.1 10 9)).toNatClampNeg)).toInt = (S_40.1 13 (((S_30.1 10 9)).toNatClampNeg)).toInt := ti_eq (f_S_51 13 (((S_30.1 10 9)).toNatClampNeg) (fun e => absurd e (by decide)))
    have h36 : (S_51.1 13 (((S_40.1 10 9)).toNatClampNeg)).toInt = (S_40.1 13 (((S_40.1 10 9)).toNatClampNeg)).toInt := ti_eq (f_S_51 13 (((S_40.1 10 9)).toNatClampNeg) (fun e => absurd e (by decide)))
    have h37 : (S_51.1 13 (((S_51.1 10 9)).toNatClampNeg)).toInt = (S_40.1 13 (((S_40.1 10 9)).toNatClampNeg)).toInt := by rw [f_S_51 10 9 (fun e => absurd e (by decide))]; exact ti_eq (f_S_51 13 (((S_40.1 10 9)).toNatClampNeg) (fun e => absurd e (by decide)))
    have h38 : (S_51.1 14 (((S_20.1 10 9)).toNatClampNeg)).toInt = (S_40.1 14 (((S_20.1 10 9)).toNatClampNeg)).toInt := ti_eq (f_S_51 14 (((S_20.1 10 9)).toNatClampNeg) (fun e => absurd e (by decide)))
    have h39 : (S_51.1 14 (((S_30.1 10 9)).toNatClampNeg)).toInt = (S_40.1 14 (((S_30.1 10 9)).toNatClampNeg)).toInt := ti_eq (f_S_51 14 (((S_30.1 10 9)).toNatClampNeg) (fun e => absurd e (by decide)))
    have h40 : (S_51.1 14 (((S_40.1 10 9)).toNatClampNeg)).toInt = (S_40.1 14 (((S_40.1 10 9)).toNatClampNeg)).toInt := ti_eq (f_S_51 14 (((S_40.1 10 9)).toNatClampNeg) (fun e => absurd e (by decide)))
    have h41 : (S_51.1 14 (((S_51.1 10 9)).toNatClampNeg)).toInt = (S_40.1 14 (((S_40.1 10 9)).toNatClampNeg)).toInt := by rw [f_S_51 10 9 (fun e => absurd e (by decide))]; exact ti_eq (f_S_51 14 (((S_40.1 10 9)).toNatClampNeg) (fun e => absurd e (by decide)))
    have h42 : (S_51.1 15 (((S_30.1 10 9)).toNatClampNeg)).toInt = (S_40.1 15 (((S_30.1 10 9)).toNatClampNeg)).toInt := ti_eq (f_S_51 15 (((S_30.1 10 9)).toNatClampNeg) (fun e => absurd e (by decide)))
    have h43 : (S_51.1 15 (((S_40.1 10 9)).toNatClampNeg)).toInt = (S_40.1 15 (((S_40.1 10 9)).toNatClampNeg)).toInt := ti_eq (f_S_51 15 (((S_40.1 10 9)).toNatClampNeg) (fun e => absurd e (by decide)))
    have h44 : (S_51.1 15 (((S_51.1 10 9)).toNatClampNeg)).toInt = (S_40.1 15 (((S_40.1 10 9)).toNatClampNeg)).toInt := by rw [f_S_51 10 9 (fun e => absurd e (by decide))]; exact ti_eq (f_S_51 15 (((S_40.1 10 9)).toNatClampNeg) (fun e => absurd e (by decide)))
    have h45 := b_10_9 I_S_51
    refine Sf.g (ck_iv (by omega) (by omega)) ?_
    have h46 := i32 x5
    refine Sf.w I_S_51 F_S_51 rfl (i32 _).1 (i32 _).2 (fun S_62 I_S_62 F_S_62 v_S_62 f_S_62 l_S_62 => ?_)
    have h47 := ti_eq (f_S_62 10 9 (fun e => absurd e (by decide)))
    have h48 : (S_62.1 17 (((S_51.1 10 9)).toNatClampNeg)).toInt = (x5).toInt := eq_iv rfl rfl v_S_62
    have h49 : (S_62.1 17 (((S_62.1 10 9)).toNatClampNeg)).toInt = (x5).toInt := by rw [f_S_62 10 9 (fun e => absurd e (by decide))]; exact eq_iv rfl rfl v_S_62
    have h50 : (S_62.1 13 (((S.1 10 9)).toNatClampNeg)).toInt = (S_51.1 13 (((S.1 10 9)).toNatClampNeg)).toInt := ti_eq (f_S_62 13 (((S.1 10 9)).toNatClampNeg) (fun e => absurd e (by decide)))
    have h51 : (S_62.1 13 (((S_20.1 10 9)).toNatClampNeg)).toInt = (S_51.1 13 (((S_20.1 10 9)).toNatClampNeg)).toInt := ti_eq (f_S_62 13 (((S_20.1 10 9)).toNatClampNeg) (fun e => absurd e (by decide)))
    have h52 : (S_62.1 13 (((S_30.1 10 9)).toNatClampNeg)).toInt = (S_51.1 13 (((S_30.1 10 9)).toNatClampNeg)).toInt := ti_eq (f_S_62 13 (((S_30.1 10 9)).toNatClampNeg) (fun e => absurd e (by decide)))
    have h53 : (S_62.1 13 (((S_40.1 10 9)).toNatClampNeg)).toInt = (S_51.1 13 (((S_40.1 10 9)).toNatClampNeg)).toInt := ti_eq (f_S_62 13 (((S_40.1 10 9)).toNatClampNeg) (fun e => absurd e (by decide)))
    have h54 : (S_62.1 13 (((S_51.1 10 9)).toNatClampNeg)).toInt = (S_51.1 13 (((S_51.1 10 9)).toNatClampNeg)).toInt := ti_eq (f_S_62 13 (((S_51.1 10 9)).toNatClampNeg) (fun e => absurd e (by decide)))
    have h55 : (S_62.1 13 (((S_62.1 10 9)).toNatClampNeg)).toInt = (S_51.1 13 (((S_51.1 10 9)).toNatClampNeg)).toInt := by rw [f_S_62 10 9 (fun e => absurd e (by decide))]; exact ti_eq (f_S_62 13 (((S_51.1 10 9)).toNatClampNeg) (fun e => absurd e (by decide)))
    have h56 : (S_62.1 14 (((S_20.1 10 9)).toNatClampNeg)).toInt = (S_51.1 14 (((S_20.1 10 9)).toNatClampNeg)).toInt := ti_eq (f_S_62 14 (((S_20.1 10 9)).toNatClampNeg) (fun e => absurd e (by decide)))
    have h57 : (S_62.1 14 (((S_30.1 10 9)).toNatClampNeg)).toInt = (S_51.1 14 (((S_30.1 10 9)).toNatClampNeg)).toInt := ti_eq (f_S_62 14 (((S_30.1 10 9)).toNatClampNeg) (fun e => absurd e (by decide)))
    have h58 : (S_62.1 14 (((S_40.1 10 9)).toNatClampNeg)).toInt = (S_51.1 14 (((S_40.1 10 9)).toNatClampNeg)).toInt := ti_eq (f_S_62 14 (((S_40.1 10 9)).toNatClampNeg) (fun e => absurd e (by decide)))
    have h59 : (S_62.1 14 (((S_51.1 10 9)).toNatClampNeg)).toInt = (S_51.1 14 (((S_51.1 10 9)).toNatClampNeg)).toInt := ti_eq (f_S_62 14 (((S_51.1 10 9)).toNatClampNeg) (fun e => absurd e (by decide)))
    have h60 : (S_62.1 14 (((S_62.1 10 9)).toNatClampNeg)).toInt = (S_51.1 14 (((S_51.1 10 9)).toNatClampNeg)).toInt := by rw [f_S_62 10 9 (fun e => absurd e (by decide))]; exact ti_eq (f_S_62 14 (((S_51.1 10 9)).toNatClampNeg) (fun e => absurd e (by decide)))
    have h61 : (S_62.1 15 (((S_30.1 10 9)).toNatClampNeg)).toInt = (S_51.1 15 (((S_30.1 10 9)).toNatClampNeg)).toInt := ti_eq (f_S_62 15 (((S_30.1 10 9)).toNatClampNeg) (fun e => absurd e (by decide)))
    have h62 : (S_62.1 15 (((S_40.1 10 9)).toNatClampNeg)).toInt = (S_51.1 15 (((S_40.1 10 9)).toNatClampNeg)).toInt := ti_eq (f_S_62 15 (((S_40.1 10 9)).toNatClampNeg) (fun e => absurd e (by decide)))
    have h63 : (S_62.1 15 (((S_51.1 10 9)).toNatClampNeg)).toInt = (S_51.1 15 (((S_51.1 10 9)).toNatClampNeg)).toInt := ti_eq (f_S_62 15 (((S_51.1 10 9)).toNatClampNeg) (fun e => absurd e (by decide)))
    have h64 : (S_62.1 15 (((S_62.1 10 9)).toNatClampNeg)).toInt = (S_51.1 15 (((S_51.1 10 9)).toNatClampNeg)).toInt := by rw [f_S_62 10 9 (fun e => absurd e (by decide))]; exact ti_eq (f_S_62 15 (((S_51.1 10 9)).toNatClampNeg) (fun e => absurd e (by decide)))
    have h65 : (S_62.1 16 (((S_40.1 10 9)).toNatClampNeg)).toInt = (S_51.1 16 (((S_40.1 10 9)).toNatClampNeg)).toInt := ti_eq (f_S_62 16 (((S_40.1 10 9)).toNatClampNeg) (fun e => absurd e (by decide)))
    have h66 : (S_62.1 16 (((S_51.1 10 9)).toNatClampNeg)).toInt = (S_51.1 16 (((S_51.1 10 9)).toNatClampNeg)).toInt := ti_eq (f_S_62 16 (((S_51.1 10 9)).toNatClampNeg) (fun e => absurd e (by decide)))
    have h67 : (S_62.1 16 (((S_62.1 10 9)).toNatClampNeg)).toInt = (S_51.1 16 (((S_51.1 10 9)).toNatClampNeg)).toInt := by rw [f_S_62 10 9 (fun e => absurd e (by decide))]; exact ti_eq (f_S_62 16 (((S_51.1 10 9)).toNatClampNeg) (fun e => absurd e (by decide)))
    have h68 := b_10_9 I_S_62
    try have h69 : (((S_62.1 10 9) + (1 : Int32))).toInt = ((S_62.1 10 9)).toInt + (1) := add_iv rfl li_1 (by omega) (by omega)
    refine Sf.w I_S_62 F_S_62 rfl (show ((0) : Int) ≤ (((S_62.1 10 9) + (1 : Int32))).toInt by omega) (show (((S_62.1 10 9) + (1 : Int32))).toInt ≤ (150 : Int) by omega) (fun S_70 I_S_70 F_S_70 v_S_70 f_S_70 l_S_70 => ?_)
    have h70 := eq_iv rfl rfl v_S_70
    have h71 : (S_70.1 13 (((S.1 10 9)).toNatClampNeg)).toInt = (S_62.1 13 (((S.1 10 9)).toNatClampNeg)).toInt := ti_eq (f_S_70 13 (((S.1 10 9)).toNatClampNeg) (fun e => absurd e (by decide)))
    have h72 : (S_70.1 13 (((S_20.1 10 9)).toNatClampNeg)).toInt = (S_62.1 13 (((S_20.1 10 9)).toNatClampNeg)).toInt := ti_eq (f_S_70 13 (((S_20.1 10 9)).toNatClampNeg) (fun e => absurd e (by decide)))
    have h73 : (S_70.1 13 (((S_30.1 10 9)).toNatClampNeg)).toInt = (S_62.1 13 (((S_30.1 10 9)).toNatClampNeg)).toInt := ti_eq (f_S_70 13 (((S_30.1 10 9)).toNatClampNeg) (fun e => absurd e (by decide)))
    have h74 : (S_70.1 13 (((S_40.1 10 9)).toNatClampNeg)).toInt = (S_62.1 13 (((S_40.1 10 9)).toNatClampNeg)).toInt := ti_eq (f_S_70 13 (((S_40.1 10 9)).toNatClampNeg) (fun e => absurd e (by decide)))
    have h75 : (S_70.1 13 (((S_51.1 10 9)).toNatClampNeg)).toInt = (S_62.1 13 (((S_51.1 10 9)).toNatClampNeg)).toInt := ti_eq (f_S_70 13 (((S_51.1 10 9)).toNatClampNeg) (fun e => absurd e (by decide)))
    have h76 : (S_70.1 13 (((S_62.1 10 9)).toNatClampNeg)).toInt = (S_62.1 13 (((S_62.1 10 9)).toNatClampNeg)).toInt := ti_eq (f_S_70 13 (((S_62.1 10 9)).toNatClampNeg) (fun e => absurd e (by decide)))
    have h77 : (S_70.1 14 (((S_20.1 10 9)).toNatClampNeg)).toInt = (S_62.1 14 (((S_20.1 10 9)).toNatClampNeg)).toInt := ti_eq (f_S_70 14 (((S_20.1 10 9)).toNatClampNeg) (fun e => absurd e (by decide)))
    have h78 : (S_70.1 14 (((S_30.1 10 9)).toNatClampNeg)).toInt = (S_62.1 14 (((S_30.1 10 9)).toNatClampNeg)).toInt := ti_eq (f_S_70 14 (((S_30.1 10 9)).toNatClampNeg) (fun e => absurd e (by decide)))
    have h79 : (S_70.1 14 (((S_40.1 10 9)).toNatClampNeg)).toInt = (S_62.1 14 (((S_40.1 10 9)).toNatClampNeg)).toInt := ti_eq (f_S_70 14 (((S_40.1 10 9)).toNatClampNeg) (fun e => absurd e (by decide)))
    have h80 : (S_70.1 14 (((S_51.1 10 9)).toNatClampNeg)).toInt = (S_62.1 14 (((S_51.1 10 9)).toNatClampNeg)).toInt := ti_eq (f_S_70 14 (((S_51.1 10 9)).toNatClampNeg) (fun e => absurd e (by decide)))
    have h81 : (S_70.1 14 (((S_62.1 10 9)).toNatClampNeg)).toInt = (S_62.1 14 (((S_62.1 10 9)).toNatClampNeg)).toInt := ti_eq (f_S_70 14 (((S_62.1 10 9)).toNatClampNeg) (fun e => absurd e (by decide)))
    have h82 : (S_70.1 15 (((S_30.1 10 9)).toNatClampNeg)).toInt = (S_62.1 15 (((S_30.1 10 9)).toNatClampNeg)).toInt := ti_eq (f_S_70 15 (((S_30.1 10 9)).toNatClampNeg) (fun e => absurd e (by decide)))
    have h83 : (S_70.1 15 (((S_40.1 10 9)).toNatClampNeg)).toInt = (S_62.1 15 (((S_40.1 10 9)).toNatClampNeg)).toInt := ti_eq (f_S_70 15 (((S_40.1 10 9)).toNatClampNeg) (fun e => absurd e (by decide)))
    have h84 : (S_70.1 15 (((S_51.1 10 9)).toNatClampNeg)).toInt = (S_62.1 15 (((S_51.1 10 9)).toNatClampNeg)).toInt := ti_eq (f_S_70 15 (((S_51.1 10 9)).toNatClampNeg) (fun e => absurd e (by decide)))
    have h85 : (S_70.1 15 (((S_62.1 10 9)).toNatClampNeg)).toInt = (S_62.1 15 (((S_62.1 10 9)).toNatClampNeg)).toInt := ti_eq (f_S_70 15 (((S_62.1 10 9)).toNatClampNeg) (fun e => absurd e (by decide)))
    have h86 : (S_70.1 16 (((S_40.1 10 9)).toNatClampNeg)).toInt = (S_62.1 16 (((S_40.1 10 9)).toNatClampNeg)).toInt := ti_eq (f_S_70 16 (((S_40.1 10 9)).toNatClampNeg) (fun e => absurd e (by decide)))
    have h87 : (S_70.1 16 (((S_51.1 10 9)).toNatClampNeg)).toInt = (S_62.1 16 (((S_51.1 10 9)).toNatClampNeg)).toInt := ti_eq (f_S_70 16 (((S_51.1 10 9)).toNatClampNeg) (fun e => absurd e (by decide)))
    have h88 : (S_70.1 16 (((S_62.1 10 9)).toNatClampNeg)).toInt = (S_62.1 16 (((S_62.1 10 9)).toNatClampNeg)).toInt := ti_eq (f_S_70 16 (((S_62.1 10 9)).toNatClampNeg) (fun e => absurd e (by decide)))
    have h89 : (S_70.1 17 (((S_51.1 10 9)).toNatClampNeg)).toInt = (S_62.1 17 (((S_51.1 10 9)).toNatClampNeg)).toInt := ti_eq (f_S_70 17 (((S_51.1 10 9)).toNatClampNeg) (fun e => absurd e (by decide)))
    have h90 : (S_70.1 17 (((S_62.1 10 9)).toNatClampNeg)).toInt = (S_62.1 17 (((S_62.1 10 9)).toNatClampNeg)).toInt := ti_eq (f_S_70 17 (((S_62.1 10 9)).toNatClampNeg) (fun e => absurd e (by decide)))
    exact Sf.so ⟨I_S_70, F_S_70, trivial⟩
  · have h91 := nlt_iv rfl li_150 c_h2
    exact Sf.so ⟨I_S, F_S, trivial⟩
theorem s_fX10_recordsOf_4 (fu : Nat) (hfu : 1000000000000000000 ≤ fu) : ∀ (n : Nat) (x1 : Int32) (x2 : Int32) (x3 : Int32) (S : St), Inv S → (0 ≤ (x3).toInt) → (150 - (x3).toInt).toNat < n → Sp (fX10_recordsOf_4 fu n x1 x2 x3 S) S (fun r => True) := by
  intro n
  induction n with
  | zero => intro x1 x2 x3 S I_S g0 hm; exact absurd hm (Nat.not_lt_zero _)
  | succ n ih =>
    intro x1 x2 x3 S I_S g0 hm
    rw [fX10_recordsOf_4_s]
    have h1 := b_10_9 I_S
    have h2 := i32 x3
    refine Sp.i (fun c_h3 => ?_) (fun c_h3 => ?_)
    · have h4 := le_iv rfl rfl c_h3
      exact Sp.so trivial
    · have h5 := nle_iv rfl rfl c_h3
      refine Sp.g (ck_iv (by omega) (by omega)) ?_
      have h6 := i32 x1
      refine Sp.i (fun c_h7 => ?_) (fun c_h7 => ?_)
      · have h8 := eq_iv rfl rfl c_h7
        unfold fX10_recordsOf_25
        have h9 := i32 x2
        try have h10 : ((x2 + (1 : Int32))).toInt = (x2).toInt + (1) := add_iv rfl li_1 (by omega) (by omega)
        try have h11 : ((x3 + (1 : Int32))).toInt = (x3).toInt + (1) := add_iv rfl li_1 (by omega) (by omega)
        refine Sp.mono (ih x1 (x2 + (1 : Int32)) (x3 + (1 : Int32)) S I_S (by omega) (by omega)) (fun r p_h12 => ?_)
        exact trivial
      · have h13 := neq_iv rfl rfl c_h7
        unfold fX10_recordsOf_25
        have h14 := i32 x2
        try have h15 : ((x3 + (1 : Int32))).toInt = (x3).toInt + (1) := add_iv rfl li_1 (by omega) (by omega)
        refine Sp.mono (ih x1 x2 (x3 + (1 : Int32)) S I_S (by omega) (by omega)) (fun r p_h16 => ?_)
        exact trivial
theorem s_fX10_recordsOf (fu : Nat) (hfu : 1000000000000000000 ≤ fu) (x1 : Int32) (S : St) (I_S : Inv S) : Sp (fX10_recordsOf fu x1 S) S (fun r => True) := by
  unfold fX10_recordsOf
  have h1 := i32 x1
  have h2 : ((0 : Int32)).toInt = 0 := li_0
  refine Sp.mono (s_fX10_recordsOf_4 fu hfu fu x1 (0 : Int32) (0 : Int32) S I_S (by omega) (by omega)) (fun r p_h3 => ?_)
  exact trivial
theorem s_fX11_record (fu : Nat) (hfu : 1000000000000000000 ≤ fu) (x1 : Int32) (x2 : Int32) (x3 : Int32) (x4 : Int32) (x5 : Int32) (S : St) (I_S : Inv S) : Sf (fX11_record fu x1 x2 x3 x4 x5 S) (fun U r => Inv U ∧ Fr [(10, 10), (13, 0), (14, 0), (15, 0), (16, 0), (17, 0)] S U ∧ (((r.1 = 0 ∨ r.1 = 3 ∨ r.1 = 1 ∨ r.1 = 2)))) := by
  unfold fX11_record
  have F_S : Fr [(10, 10), (13, 0), (14, 0), (15, 0), (16, 0), (17, 0)] S S := Fr.refl _ _
  have h1 := i32 x1
  have h2 := b_10_3 I_S
  refine Sf.xp (s_fX11_needZone fu hfu x1 S I_S) (fun r_2_ p_r_2_ => ?_) (fun k r p_e => ?_)
  rotate_left
  · have p_e : (((k + 1) = 0 ∧ 0 ≤ (x1).toInt ∧ (x1).toInt < (S.1 10 3).toInt ∨ (k + 1) = 3)) := p_e
    exact ⟨I_S, F_S, (show (((k + 1) = 0 ∨ (k + 1) = 3 ∨ (k + 1) = 1 ∨ (k + 1) = 2)) by omega)⟩
  have p_r_2_ : (((0 : Nat) = 0 ∧ 0 ≤ (x1).toInt ∧ (x1).toInt < (S.1 10 3).toInt ∨ (0 : Nat) = 3)) := p_r_2_
  have h3 := i32 x2
  have h4 := b_3_3 I_S
  refine Sf.xp (s_fX11_needName fu hfu x2 S I_S) (fun r_7_ p_r_7_ => ?_) (fun k r p_e => ?_)
  rotate_left
  · have p_e : (((k + 1) = 0 ∧ 0 ≤ (x2).toInt ∧ (x2).toInt < (S.1 3 3).toInt ∨ (k + 1) = 3)) := p_e
    exact ⟨I_S, F_S, (show (((k + 1) = 0 ∨ (k + 1) = 3 ∨ (k + 1) = 1 ∨ (k + 1) = 2)) by omega)⟩
  have p_r_7_ : (((0 : Nat) = 0 ∧ 0 ≤ (x2).toInt ∧ (x2).toInt < (S.1 3 3).toInt ∨ (0 : Nat) = 3)) := p_r_7_
  refine Sf.bp (s_fX10_apexOf fu hfu x1 S I_S) (fun r_20 p_r_20 => ?_)
  have h5 := i32 r_20
  refine Sf.bp (s_fX3_isIn fu hfu x2 r_20 S I_S) (fun r_23 p_r_23 => ?_)
  have h6 := i32 r_23
  refine Sf.i (fun c_h7 => ?_) (fun c_h7 => ?_)
  · have h8 := eq_iv rfl li_0 c_h7
    unfold fX11_record_44
    exact Sf.so ⟨I_S, F_S, (show (((1 : Nat) = 0 ∨ (1 : Nat) = 3 ∨ (1 : Nat) = 1 ∨ (1 : Nat) = 2)) by omega)⟩
  · have h9 := neq_iv rfl li_0 c_h7
    have h10 := i32 x3
    refine Sf.bp (s_fX11_isKept fu hfu x3 S I_S) (fun r_30 p_r_30 => ?_)
    have h11 := i32 r_30
    refine Sf.i (fun c_h12 => ?_) (fun c_h12 => ?_)
    · have h13 := eq_iv rfl li_0 c_h12
      unfold fX11_record_44
      exact Sf.so ⟨I_S, F_S, (show (((1 : Nat) = 0 ∨ (1 : Nat) = 3 ∨ (1 : Nat) = 1 ∨ (1 : Nat) = 2)) by omega)⟩
    · have h14 := neq_iv rfl li_0 c_h12
      have h15 := i32 x5
      refine Sf.bp (s_fX11_isLife fu hfu x5 S I_S) (fun r_38 p_r_38 => ?_)
      have h16 := i32 r_38
      refine Sf.i (fun c_h17 => ?_) (fun c_h17 => ?_)
      · have h18 := eq_iv rfl li_0 c_h17
        unfold fX11_record_44
        exact Sf.so ⟨I_S, F_S, (show (((1 : Nat) = 0 ∨ (1 : Nat) = 3 ∨ (1 : Nat) = 1 ∨ (1 : Nat) = 2)) by omega)⟩
      · have h19 := neq_iv rfl li_0 c_h17
        refine Sf.bp (s_fX11_isNamed fu hfu x3 S I_S) (fun r_55 p_r_55 => ?_)
        have h20 := i32 r_55
        refine Sf.i (fun c_h21 => ?_) (fun c_h21 => ?_)
        · have h22 := eq_iv rfl li_0 c_h21
          unfold fX11_record_83
          have h23 := b_10_9 I_S
          refine Sf.bp (s_fX10_records fu hfu S I_S) (fun r_87 p_r_87 => ?_)
          have h24 := i32 r_87
          refine Sf.i (fun c_h25 => ?_) (fun c_h25 => ?_)
          · have h26 := lt_iv rfl li_150 c_h25
            have h27 := i32 x4
            refine Sf.b (s_fX10_add fu hfu x1 x2 x3 x4 x5 S I_S) (fun S_117 r_117_ p_r_117_ => ?_)
            obtain ⟨I_S_117, G_S_117, p_r_117_⟩ := p_r_117_
            have F_S_117 := Fr.tr F_S G_S_117 rfl
            have h28 := ti_eq (G_S_117 3 3 rfl)
            have h29 := ti_eq (G_S_117 10 3 rfl)
            refine Sf.bp (s_fX10_recordsOf fu hfu x1 S_117 I_S_117) (fun r_125 p_r_125 => ?_)
            exact Sf.so ⟨I_S_117, F_S_117, (show (((0 : Nat) = 0 ∨ (0 : Nat) = 3 ∨ (0 : Nat) = 1 ∨ (0 : Nat) = 2)) by omega)⟩
          · have h30 := nlt_iv rfl li_150 c_h25
            exact Sf.so ⟨I_S, F_S, (show (((2 : Nat) = 0 ∨ (2 : Nat) = 3 ∨ (2 : Nat) = 1 ∨ (2 : Nat) = 2)) by omega)⟩
        · have h31 := neq_iv rfl li_0 c_h21
          have h32 := i32 x4
          refine Sf.bp (s_fX3_has fu hfu x4 S I_S) (fun r_67 p_r_67 => ?_)
          have h33 := i32 r_67
          refine Sf.i (fun c_h34 => ?_) (fun c_h34 => ?_)
          · have h35 := eq_iv rfl li_0 c_h34
            exact Sf.so ⟨I_S, F_S, (show (((1 : Nat) = 0 ∨ (1 : Nat) = 3 ∨ (1 : Nat) = 1 ∨ (1 : Nat) = 2)) by omega)⟩
          · have h36 := neq_iv rfl li_0 c_h34
            unfold fX11_record_83
            have h37 := b_10_9 I_S
            refine Sf.bp (s_fX10_records fu hfu S I_S) (fun r_87 p_r_87 => ?_)
            have h38 := i32 r_87
            refine Sf.i (fun c_h39 => ?_) (fun c_h39 => ?_)
            · have h40 := lt_iv rfl li_150 c_h39
              refine Sf.b (s_fX10_add fu hfu x1 x2 x3 x4 x5 S I_S) (fun S_117 r_117_ p_r_117_ => ?_)
              obtain ⟨I_S_117, G_S_117, p_r_117_⟩ := p_r_117_
              have F_S_117 := Fr.tr F_S G_S_117 rfl
              have h41 := ti_eq (G_S_117 3 3 rfl)
              have h42 := ti_eq (G_S_117 10 3 rfl)
              refine Sf.bp (s_fX10_recordsOf fu hfu x1 S_117 I_S_117) (fun r_125 p_r_125 => ?_)
              exact Sf.so ⟨I_S_117, F_S_117, (show (((0 : Nat) = 0 ∨ (0 : Nat) = 3 ∨ (0 : Nat) = 1 ∨ (0 : Nat) = 2)) by omega)⟩
            · have h43 := nlt_iv rfl li_150 c_h39
              exact Sf.so ⟨I_S, F_S, (show (((2 : Nat) = 0 ∨ (2 : Nat) = 3 ∨ (2 : Nat) = 1 ∨ (2 : Nat) = 2)) by omega)⟩
theorem s_fX10_isOf (fu : Nat) (hfu : 1000000000000000000 ≤ fu) (x1 : Int32) (x2 : Int32) (x3 : Int32) (x4 : Int32) (S : St) (I_S : Inv S) (g0 : 0 ≤ (x1).toInt) (g1 : (x1).toInt < 150) : Sp (fX10_isOf fu x1 x2 x3 x4 S) S (fun r => (0 ≤ r.toInt) ∧ (r.toInt ≤ 1)) := by
  unfold fX10_isOf
  have h1 := i32 x1
  refine Sp.g (ck_iv (by omega) (by omega)) ?_
  have h2 := i32 x2
  refine Sp.i (fun c_h3 => ?_) (fun c_h3 => ?_)
  · have h4 := eq_iv rfl rfl c_h3
    refine Sp.g (ck_iv (by omega) (by omega)) ?_
    have h5 := i32 x3
    refine Sp.i (fun c_h6 => ?_) (fun c_h6 => ?_)
    · have h7 := eq_iv rfl rfl c_h6
      refine Sp.g (ck_iv (by omega) (by omega)) ?_
      have h8 := i32 x4
      refine Sp.i (fun c_h9 => ?_) (fun c_h9 => ?_)
      · have h10 := eq_iv rfl rfl c_h9
        have h11 : ((1 : Int32)).toInt = 1 := li_1
        exact Sp.so (by omega)
      · have h12 := neq_iv rfl rfl c_h9
        have h13 : ((0 : Int32)).toInt = 0 := li_0
        exact Sp.so (by omega)
    · have h14 := neq_iv rfl rfl c_h6
      have h15 : ((0 : Int32)).toInt = 0 := li_0
      exact Sp.so (by omega)
  · have h16 := neq_iv rfl rfl c_h3
    have h17 : ((0 : Int32)).toInt = 0 := li_0
    exact Sp.so (by omega)
theorem s_fX10_remove_12 (fu : Nat) (hfu : 1000000000000000000 ≤ fu) : ∀ (n : Nat) (x1 : Int32) (x2 : Int32) (x3 : Int32) (x4 : Int32) (x5 : Int32) (x6 : Int32) (S : St), Inv S → (0 ≤ (x5).toInt) → ((x5).toInt ≤ (x6).toInt) → ((x6).toInt ≤ (x4).toInt) → ((x4).toInt ≤ 150) → (150 - (x6).toInt).toNat < n → Sf (fX10_remove_12 fu n x1 x2 x3 x4 x5 x6 S) (fun U r => Inv U ∧ Fr [(10, 10), (13, 0), (14, 0), (15, 0), (16, 0), (17, 0)] S U ∧ (True)) := by
  intro n
  induction n with
  | zero => intro x1 x2 x3 x4 x5 x6 S I_S g0 g1 g2 g3 hm; exact absurd hm (Nat.not_lt_zero _)
  | succ n ih =>
    intro x1 x2 x3 x4 x5 x6 S I_S g0 g1 g2 g3 hm
    rw [fX10_remove_12_s]
    have F_S : Fr [(10, 10), (13, 0), (14, 0), (15, 0), (16, 0), (17, 0)] S S := Fr.refl _ _
    have h1 := i32 x4
    have h2 := i32 x6
    refine Sf.i (fun c_h3 => ?_) (fun c_h3 => ?_)
    · have h4 := le_iv rfl rfl c_h3
      have h5 := i32 x5
      refine Sf.w I_S F_S rfl (show ((0) : Int) ≤ (x5).toInt by omega) (show (x5).toInt ≤ (150 : Int) by omega) (fun S_113 I_S_113 F_S_113 v_S_113 f_S_113 l_S_113 => ?_)
      exact Sf.so ⟨I_S_113, F_S_113, trivial⟩
    · have h6 := nle_iv rfl rfl c_h3
      have h7 := i32 x1
      have h8 := i32 x2
      have h9 := i32 x3
      refine Sf.bp (s_fX10_isOf fu hfu x6 x1 x2 x3 S I_S (by omega) (by omega)) (fun r_25 p_r_25 => ?_)
      have h10 := i32 r_25
      refine Sf.i (fun c_h11 => ?_) (fun c_h11 => ?_)
      · have h12 := eq_iv rfl li_0 c_h11
        refine Sf.g (ck_iv (by omega) (by omega)) ?_
        have h13 := i32 x5
        refine Sf.g (ck_iv (by omega) (by omega)) ?_
        refine Sf.w I_S F_S rfl (i32 _).1 (i32 _).2 (fun S_44 I_S_44 F_S_44 v_S_44 f_S_44 l_S_44 => ?_)
        have h14 : (S_44.1 13 ((x5).toNatClampNeg)).toInt = ((S.1 13 ((x6).toNatClampNeg))).toInt := eq_iv rfl rfl v_S_44
        refine Sf.g (ck_iv (by omega) (by omega)) ?_
        refine Sf.g (ck_iv (by omega) (by omega)) ?_
        refine Sf.w I_S_44 F_S_44 rfl (i32 _).1 (i32 _).2 (fun S_58 I_S_58 F_S_58 v_S_58 f_S_58 l_S_58 => ?_)
        have h15 : (S_58.1 14 ((x5).toNatClampNeg)).toInt = ((S_44.1 14 ((x6).toNatClampNeg))).toInt := eq_iv rfl rfl v_S_58
        have h16 : (S_58.1 13 ((x5).toNatClampNeg)).toInt = (S_44.1 13 ((x5).toNatClampNeg)).toInt := ti_eq (f_S_58 13 ((x5).toNatClampNeg) (fun e => absurd e (by decide)))
        refine Sf.g (ck_iv (by omega) (by omega)) ?_
        refine Sf.g (ck_iv (by omega) (by omega)) ?_
        refine Sf.w I_S_58 F_S_58 rfl (i32 _).1 (i32 _).2 (fun S_72 I_S_72 F_S_72 v_S_72 f_S_72 l_S_72 => ?_)
        have h17 : (S_72.1 15 ((x5).toNatClampNeg)).toInt = ((S_58.1 15 ((x6).toNatClampNeg))).toInt := eq_iv rfl rfl v_S_72
        have h18 : (S_72.1 13 ((x5).toNatClampNeg)).toInt = (S_58.1 13 ((x5).toNatClampNeg)).toInt := ti_eq (f_S_72 13 ((x5).toNatClampNeg) (fun e => absurd e (by decide)))
        have h19 : (S_72.1 14 ((x5).toNatClampNeg)).toInt = (S_58.1 14 ((x5).toNatClampNeg)).toInt := ti_eq (f_S_72 14 ((x5).toNatClampNeg) (fun e => absurd e (by decide)))
        refine Sf.g (ck_iv (by omega) (by omega)) ?_
        refine Sf.g (ck_iv (by omega) (by omega)) ?_
        refine Sf.w I_S_72 F_S_72 rfl (i32 _).1 (i32 _).2 (fun S_86 I_S_86 F_S_86 v_S_86 f_S_86 l_S_86 => ?_)
        have h20 : (S_86.1 16 ((x5).toNatClampNeg)).toInt = ((S_72.1 16 ((x6).toNatClampNeg))).toInt := eq_iv rfl rfl v_S_86
        have h21 : (S_86.1 13 ((x5).toNatClampNeg)).toInt = (S_72.1 13 ((x5).toNatClampNeg)).toInt := ti_eq (f_S_86 13 ((x5).toNatClampNeg) (fun e => absurd e (by decide)))
        have h22 : (S_86.1 14 ((x5).toNatClampNeg)).toInt = (S_72.1 14 ((x5).toNatClampNeg)).toInt := ti_eq (f_S_86 14 ((x5).toNatClampNeg) (fun e => absurd e (by decide)))
        have h23 : (S_86.1 15 ((x5).toNatClampNeg)).toInt = (S_72.1 15 ((x5).toNatClampNeg)).toInt := ti_eq (f_S_86 15 ((x5).toNatClampNeg) (fun e => absurd e (by decide)))
        refine Sf.g (ck_iv (by omega) (by omega)) ?_
        refine Sf.g (ck_iv (by omega) (by omega)) ?_
        refine Sf.w I_S_86 F_S_86 rfl (i32 _).1 (i32 _).2 (fun S_100 I_S_100 F_S_100 v_S_100 f_S_100 l_S_100 => ?_)
        have h24 : (S_100.1 17 ((x5).toNatClampNeg)).toInt = ((S_86.1 17 ((x6).toNatClampNeg))).toInt := eq_iv rfl rfl v_S_100
        have h25 : (S_100.1 13 ((x5).toNatClampNeg)).toInt = (S_86.1 13 ((x5).toNatClampNeg)).toInt := ti_eq (f_S_100 13 ((x5).toNatClampNeg) (fun e => absurd e (by decide)))
        have h26 : (S_100.1 14 ((x5).toNatClampNeg)).toInt = (S_86.1 14 ((x5).toNatClampNeg)).toInt := ti_eq (f_S_100 14 ((x5).toNatClampNeg) (fun e => absurd e (by decide)))
        have h27 : (S_100.1 15 ((x5).toNatClampNeg)).toInt = (S_86.1 15 ((x5).toNatClampNeg)).toInt := ti_eq (f_S_100 15 ((x5).toNatClampNeg) (fun e => absurd e (by decide)))
        have h28 : (S_100.1 16 ((x5).toNatClampNeg)).toInt = (S_86.1 16 ((x5).toNatClampNeg)).toInt := ti_eq (f_S_100 16 ((x5).toNatClampNeg) (fun e => absurd e (by decide)))
        unfold fX10_remove_104
        try have h29 : ((x5 + (1 : Int32))).toInt = (x5).toInt + (1) := add_iv rfl li_1 (by omega) (by omega)
        try have h30 : ((x6 + (1 : Int32))).toInt = (x6).toInt + (1) := add_iv rfl li_1 (by omega) (by omega)
        refine Sf.mono (ih x1 x2 x3 x4 (x5 + (1 : Int32)) (x6 + (1 : Int32)) S_100 I_S_100 (by omega) (by omega) (by omega) (by omega) (by omega)) (fun U r p_h31 => ?_)
        obtain ⟨I_U, G_U, p_h31⟩ := p_h31
        exact ⟨I_U, Fr.tr F_S_100 G_U rfl, trivial⟩
      · have h32 := neq_iv rfl li_0 c_h11
        unfold fX10_remove_104
        have h33 := i32 x5
        try have h34 : ((x6 + (1 : Int32))).toInt = (x6).toInt + (1) := add_iv rfl li_1 (by omega) (by omega)
        refine Sf.mono (ih x1 x2 x3 x4 x5 (x6 + (1 : Int32)) S I_S (by omega) (by omega) (by omega) (by omega) (by omega)) (fun U r p_h35 => ?_)
        obtain ⟨I_U, G_U, p_h35⟩ := p_h35
        exact ⟨I_U, Fr.tr F_S G_U rfl, trivial⟩
