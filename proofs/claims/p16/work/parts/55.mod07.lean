theorem s_fX12_putName (fu : Nat) (hfu : 1000000000000000000 ≤ fu) (x1 : Int32) (S : St) (I_S : Inv S) (g0 : 0 ≤ (x1).toInt) (g1 : (x1).toInt ≤ 299) (g2 : (S.1 63 27).toInt + 3400 ≤ 2000000000) : Sf (fX12_putName fu x1 S) (fun U r => Inv U ∧ Fr [(63, 28), (82, 0), (83, 0)] S U ∧ (((U.1 63 27).toInt ≤ (S.1 63 27).toInt + 3300))) := by
  unfold fX12_putName
  have F_S : Fr [(63, 28), (82, 0), (83, 0)] S S := Fr.refl _ _
  have h1 := b_63_27 I_S
  have h2 := i32 x1
  have h3 := b_63_27 I_S
  refine Sf.mono (s_fX12_putName_2 fu hfu fu x1 S I_S (by omega) (by omega) (by omega) (by omega)) (fun U r p_h4 => ?_)
  obtain ⟨I_U, G_U, p_h4⟩ := p_h4
  have h5 := b_63_27 I_U
  have h6 := b_63_27 I_S
  exact ⟨I_U, Fr.tr F_S G_U rfl, by omega⟩
theorem s_fX12_putTop_8 (fu : Nat) (hfu : 1000000000000000000 ≤ fu) : ∀ (n : Nat) (x1 : Int32) (x2 : Int32) (x3 : Int32) (x4 : Int32) (x5 : Int32) (x6 : Int32) (x7 : Int32) (x8 : Int32) (S : St), Inv S → (0 ≤ (x6).toInt) → ((x6).toInt ≤ 299) → (0 ≤ (x8).toInt) → ((S.1 63 27).toInt = 0) → (300 - (x8).toInt).toNat < n → Sf (fX12_putTop_8 fu n x1 x2 x3 x4 x5 x6 x7 x8 S) (fun U r => Inv U ∧ Fr [(63, 28), (82, 0), (83, 0)] S U ∧ (((U.1 63 27).toInt ≤ 4000))) := by
  intro n
  induction n with
  | zero => intro x1 x2 x3 x4 x5 x6 x7 x8 S I_S g0 g1 g2 g3 hm; exact absurd hm (Nat.not_lt_zero _)
  | succ n ih =>
    intro x1 x2 x3 x4 x5 x6 x7 x8 S I_S g0 g1 g2 g3 hm
    rw [fX12_putTop_8_s]
    have F_S : Fr [(63, 28), (82, 0), (83, 0)] S S := Fr.refl _ _
    have h1 := b_63_27 I_S
    have h2 := b_63_5 I_S
    have h3 := i32 x8
    refine Sf.i (fun c_h4 => ?_) (fun c_h4 => ?_)
    · have h5 := le_iv rfl rfl c_h4
      have h6 := i32 x1
      have h7 := b_63_27 I_S
      refine Sf.b (s_fX12_put2 fu hfu x1 S I_S (by omega)) (fun S_33 r_33_ p_r_33_ => ?_)
      obtain ⟨I_S_33, G_S_33, p_r_33_⟩ := p_r_33_
      have F_S_33 := Fr.tr F_S G_S_33 rfl
      have h8 := b_63_27 I_S_33
      have h9 := ti_eq (G_S_33 63 5 rfl)
      have h10 := i32 x2
      refine Sf.b (s_fX12_put2 fu hfu ((32768 : Int32) ||| x2) S_33 I_S_33 (by omega)) (fun S_41 r_41_ p_r_41_ => ?_)
      obtain ⟨I_S_41, G_S_41, p_r_41_⟩ := p_r_41_
      have F_S_41 := Fr.tr F_S_33 G_S_41 rfl
      have h11 := b_63_27 I_S_41
      have h12 := ti_eq (G_S_41 63 5 rfl)
      have h13 : ((1 : Int32)).toInt = 1 := li_1
      refine Sf.b (s_fX12_put2 fu hfu (1 : Int32) S_41 I_S_41 (by omega)) (fun S_46 r_46_ p_r_46_ => ?_)
      obtain ⟨I_S_46, G_S_46, p_r_46_⟩ := p_r_46_
      have F_S_46 := Fr.tr F_S_41 G_S_46 rfl
      have h14 := b_63_27 I_S_46
      have h15 := ti_eq (G_S_46 63 5 rfl)
      have h16 := i32 x3
      refine Sf.b (s_fX12_put2 fu hfu x3 S_46 I_S_46 (by omega)) (fun S_51 r_51_ p_r_51_ => ?_)
      obtain ⟨I_S_51, G_S_51, p_r_51_⟩ := p_r_51_
      have F_S_51 := Fr.tr F_S_46 G_S_51 rfl
      have h17 := b_63_27 I_S_51
      have h18 := ti_eq (G_S_51 63 5 rfl)
      have h19 := i32 x4
      refine Sf.b (s_fX12_put2 fu hfu x4 S_51 I_S_51 (by omega)) (fun S_57 r_57_ p_r_57_ => ?_)
      obtain ⟨I_S_57, G_S_57, p_r_57_⟩ := p_r_57_
      have F_S_57 := Fr.tr F_S_51 G_S_57 rfl
      have h20 := b_63_27 I_S_57
      have h21 := ti_eq (G_S_57 63 5 rfl)
      have h22 := i32 x5
      refine Sf.b (s_fX12_put2 fu hfu x5 S_57 I_S_57 (by omega)) (fun S_63 r_63_ p_r_63_ => ?_)
      obtain ⟨I_S_63, G_S_63, p_r_63_⟩ := p_r_63_
      have F_S_63 := Fr.tr F_S_57 G_S_63 rfl
      have h23 := b_63_27 I_S_63
      have h24 := ti_eq (G_S_63 63 5 rfl)
      have h25 := i32 x6
      refine Sf.b (s_fX12_putName fu hfu x6 S_63 I_S_63 (by omega) (by omega) (by omega)) (fun S_69 r_69_ p_r_69_ => ?_)
      obtain ⟨I_S_69, G_S_69, p_r_69_⟩ := p_r_69_
      have F_S_69 := Fr.tr F_S_63 G_S_69 rfl
      have h26 := b_63_27 I_S_69
      have h27 := ti_eq (G_S_69 63 5 rfl)
      have h28 := i32 x7
      refine Sf.b (s_fX12_put2 fu hfu x7 S_69 I_S_69 (by omega)) (fun S_75 r_75_ p_r_75_ => ?_)
      obtain ⟨I_S_75, G_S_75, p_r_75_⟩ := p_r_75_
      have F_S_75 := Fr.tr F_S_69 G_S_75 rfl
      have h29 := b_63_27 I_S_75
      have h30 := ti_eq (G_S_75 63 5 rfl)
      refine Sf.b (s_fX12_put2 fu hfu (1 : Int32) S_75 I_S_75 (by omega)) (fun S_80 r_80_ p_r_80_ => ?_)
      obtain ⟨I_S_80, G_S_80, p_r_80_⟩ := p_r_80_
      have F_S_80 := Fr.tr F_S_75 G_S_80 rfl
      have h31 := b_63_27 I_S_80
      have h32 := ti_eq (G_S_80 63 5 rfl)
      have h33 := b_63_27 I_S_80
      have h34 : ((0 : Int32)).toInt = 0 := li_0
      exact Sf.so ⟨I_S_80, F_S_80, by omega⟩
    · have h35 := nle_iv rfl rfl c_h4
      refine Sf.g (ck_iv (by omega) (by omega)) ?_
      refine Sf.w I_S F_S rfl (i32 _).1 (i32 _).2 (fun S_24 I_S_24 F_S_24 v_S_24 f_S_24 l_S_24 => ?_)
      have h36 := ti_eq (f_S_24 63 5 (fun e => absurd e (by decide)))
      have h37 := ti_eq (f_S_24 63 27 (fun e => absurd e (by decide)))
      have h38 : (S_24.1 83 ((x8).toNatClampNeg)).toInt = (-1) := eq_iv rfl li_m1 v_S_24
      have h39 := i32 x1
      have h40 := i32 x2
      have h41 := i32 x3
      have h42 := i32 x4
      have h43 := i32 x5
      have h44 := i32 x6
      have h45 := i32 x7
      try have h46 : ((x8 + (1 : Int32))).toInt = (x8).toInt + (1) := add_iv rfl li_1 (by omega) (by omega)
      have h47 := b_63_27 I_S_24
      refine Sf.mono (ih x1 x2 x3 x4 x5 x6 x7 (x8 + (1 : Int32)) S_24 I_S_24 (by omega) (by omega) (by omega) (by omega) (by omega)) (fun U r p_h48 => ?_)
      obtain ⟨I_U, G_U, p_h48⟩ := p_h48
      have h49 := b_63_27 I_U
      have h50 := ti_eq (G_U 63 5 rfl)
      exact ⟨I_U, Fr.tr F_S_24 G_U rfl, by omega⟩
theorem s_fX12_putTop (fu : Nat) (hfu : 1000000000000000000 ≤ fu) (x1 : Int32) (x2 : Int32) (x3 : Int32) (x4 : Int32) (x5 : Int32) (x6 : Int32) (x7 : Int32) (S : St) (I_S : Inv S) (g0 : 0 ≤ (x6).toInt) (g1 : (x6).toInt ≤ 299) : Sf (fX12_putTop fu x1 x2 x3 x4 x5 x6 x7 S) (fun U r => Inv U ∧ Fr [(63, 28), (82, 0), (83, 0)] S U ∧ (((U.1 63 27).toInt ≤ 4000))) := by
  unfold fX12_putTop
  have F_S : Fr [(63, 28), (82, 0), (83, 0)] S S := Fr.refl _ _
  refine Sf.w I_S F_S rfl (show ((0) : Int) ≤ ((0 : Int32)).toInt by rw [li_0]; omega) (show ((0 : Int32)).toInt ≤ (2000000000 : Int) by rw [li_0]; omega) (fun S_2 I_S_2 F_S_2 v_S_2 f_S_2 l_S_2 => ?_)
  have h1 := ti_eq (f_S_2 63 5 (fun _ e => absurd e (by decide)))
  have h2 := eq_iv rfl li_0 v_S_2
  have h3 := i32 x1
  have h4 := i32 x2
  have h5 := i32 x3
  have h6 := i32 x4
  have h7 := i32 x5
  have h8 := i32 x6
  have h9 := i32 x7
  have h10 : ((0 : Int32)).toInt = 0 := li_0
  have h11 := b_63_27 I_S_2
  refine Sf.mono (s_fX12_putTop_8 fu hfu fu x1 x2 x3 x4 x5 x6 x7 (0 : Int32) S_2 I_S_2 (by omega) (by omega) (by omega) (by omega) (by omega)) (fun U r p_h12 => ?_)
  obtain ⟨I_U, G_U, p_h12⟩ := p_h12
  have h13 := b_63_27 I_U
  have h14 := ti_eq (G_U 63 5 rfl)
  exact ⟨I_U, Fr.tr F_S_2 G_U rfl, by omega⟩
theorem s_fX12_put4 (fu : Nat) (hfu : 1000000000000000000 ≤ fu) (x1 : Int32) (S : St) (I_S : Inv S) (g0 : (S.1 63 27).toInt + 4 ≤ 2000000000) : Sf (fX12_put4 fu x1 S) (fun U r => Inv U ∧ Fr [(63, 28), (82, 0)] S U ∧ (((U.1 63 27).toInt = (S.1 63 27).toInt + 4))) := by
  unfold fX12_put4
  have F_S : Fr [(63, 28), (82, 0)] S S := Fr.refl _ _
  have h1 := b_63_27 I_S
  have h2 := i32 x1
  have h3 := and_31 ((16 : Int32))
  have h4 := b_63_27 I_S
  refine Sf.b (s_fX12_put2 fu hfu (x1 >>> ((16 : Int32) &&& 31)) S I_S (by omega)) (fun S_5 r_5_ p_r_5_ => ?_)
  obtain ⟨I_S_5, G_S_5, p_r_5_⟩ := p_r_5_
  have F_S_5 := Fr.tr F_S G_S_5 rfl
  have h5 := b_63_27 I_S_5
  refine Sf.b (s_fX12_put2 fu hfu x1 S_5 I_S_5 (by omega)) (fun S_10 r_10_ p_r_10_ => ?_)
  obtain ⟨I_S_10, G_S_10, p_r_10_⟩ := p_r_10_
  have F_S_10 := Fr.tr F_S_5 G_S_10 rfl
  have h6 := b_63_27 I_S_10
  have h7 := b_63_27 I_S_10
  have h8 := b_63_27 I_S
  have h9 : ((0 : Int32)).toInt = 0 := li_0
  exact Sf.so ⟨I_S_10, F_S_10, by omega⟩
theorem s_fX12_putHead (fu : Nat) (hfu : 1000000000000000000 ≤ fu) (x1 : Int32) (x2 : Int32) (x3 : Int32) (S : St) (I_S : Inv S) (g0 : 0 ≤ (x1).toInt) (g1 : (x1).toInt ≤ 299) (g2 : (S.1 63 27).toInt + 4000 ≤ 2000000000) : Sf (fX12_putHead fu x1 x2 x3 S) (fun U r => Inv U ∧ Fr [(63, 28), (82, 0), (83, 0)] S U ∧ (((U.1 63 27).toInt ≤ (S.1 63 27).toInt + 3400))) := by
  unfold fX12_putHead
  have F_S : Fr [(63, 28), (82, 0), (83, 0)] S S := Fr.refl _ _
  have h1 := b_63_27 I_S
  have h2 := i32 x1
  have h3 := b_63_27 I_S
  refine Sf.b (s_fX12_putName fu hfu x1 S I_S (by omega) (by omega) (by omega)) (fun S_2 r_2_ p_r_2_ => ?_)
  obtain ⟨I_S_2, G_S_2, p_r_2_⟩ := p_r_2_
  have F_S_2 := Fr.tr F_S G_S_2 rfl
  have h4 := b_63_27 I_S_2
  have h5 := i32 x2
  refine Sf.b (s_fX12_put2 fu hfu x2 S_2 I_S_2 (by omega)) (fun S_7 r_7_ p_r_7_ => ?_)
  obtain ⟨I_S_7, G_S_7, p_r_7_⟩ := p_r_7_
  have F_S_7 := Fr.tr F_S_2 G_S_7 rfl
  have h6 := b_63_27 I_S_7
  have h7 : ((1 : Int32)).toInt = 1 := li_1
  refine Sf.b (s_fX12_put2 fu hfu (1 : Int32) S_7 I_S_7 (by omega)) (fun S_12 r_12_ p_r_12_ => ?_)
  obtain ⟨I_S_12, G_S_12, p_r_12_⟩ := p_r_12_
  have F_S_12 := Fr.tr F_S_7 G_S_12 rfl
  have h8 := b_63_27 I_S_12
  have h9 := i32 x3
  refine Sf.b (s_fX12_put4 fu hfu x3 S_12 I_S_12 (by omega)) (fun S_17 r_17_ p_r_17_ => ?_)
  obtain ⟨I_S_17, G_S_17, p_r_17_⟩ := p_r_17_
  have F_S_17 := Fr.tr F_S_12 G_S_17 rfl
  have h10 := b_63_27 I_S_17
  have h11 := b_63_27 I_S_17
  have h12 := b_63_27 I_S
  have h13 : ((0 : Int32)).toInt = 0 := li_0
  exact Sf.so ⟨I_S_17, F_S_17, by omega⟩
theorem s_fX12_putSoa (fu : Nat) (hfu : 1000000000000000000 ≤ fu) (x1 : Int32) (S : St) (I_S : Inv S) (g0 : 0 ≤ (x1).toInt) (g1 : (x1).toInt < 12) (g2 : (S.1 63 27).toInt + 8000 ≤ 2000000000) : Sf (fX12_putSoa fu x1 S) (fun U r => Inv U ∧ Fr [(63, 28), (82, 0), (83, 0)] S U ∧ (True)) := by
  unfold fX12_putSoa
  have F_S : Fr [(63, 28), (82, 0), (83, 0)] S S := Fr.refl _ _
  have h1 := b_63_27 I_S
  have h2 := i32 x1
  refine Sf.g (ck_iv (by omega) (by omega)) ?_
  refine Sf.g (ck_iv (by omega) (by omega)) ?_
  have h3 := a_72 I_S ((x1).toNatClampNeg)
  have h4 : ((6 : Int32)).toInt = 6 := li_6
  have h5 := b_63_27 I_S
  refine Sf.b (s_fX12_putHead fu hfu (S.1 72 ((x1).toNatClampNeg)) (6 : Int32) (S.1 73 ((x1).toNatClampNeg)) S I_S (by omega) (by omega) (by omega)) (fun S_15 r_15_ p_r_15_ => ?_)
  obtain ⟨I_S_15, G_S_15, p_r_15_⟩ := p_r_15_
  have F_S_15 := Fr.tr F_S G_S_15 rfl
  have h6 := b_63_27 I_S_15
  have h7 : (S_15.1 72 ((x1).toNatClampNeg)).toInt = (S.1 72 ((x1).toNatClampNeg)).toInt := ti_eq (G_S_15 72 ((x1).toNatClampNeg) rfl)
  have h8 : (S_15.1 73 ((x1).toNatClampNeg)).toInt = (S.1 73 ((x1).toNatClampNeg)).toInt := ti_eq (G_S_15 73 ((x1).toNatClampNeg) rfl)
  have h9 : ((22 : Int32)).toInt = 22 := li_22
  refine Sf.b (s_fX12_put2 fu hfu (22 : Int32) S_15 I_S_15 (by omega)) (fun S_21 r_21_ p_r_21_ => ?_)
  obtain ⟨I_S_21, G_S_21, p_r_21_⟩ := p_r_21_
  have F_S_21 := Fr.tr F_S_15 G_S_21 rfl
  have h10 := b_63_27 I_S_21
  have h11 : (S_21.1 72 ((x1).toNatClampNeg)).toInt = (S_15.1 72 ((x1).toNatClampNeg)).toInt := ti_eq (G_S_21 72 ((x1).toNatClampNeg) rfl)
  have h12 : (S_21.1 73 ((x1).toNatClampNeg)).toInt = (S_15.1 73 ((x1).toNatClampNeg)).toInt := ti_eq (G_S_21 73 ((x1).toNatClampNeg) rfl)
  have h13 : ((0 : Int32)).toInt = 0 := li_0
  refine Sf.b (s_fX12_put2 fu hfu (0 : Int32) S_21 I_S_21 (by omega)) (fun S_26 r_26_ p_r_26_ => ?_)
  obtain ⟨I_S_26, G_S_26, p_r_26_⟩ := p_r_26_
  have F_S_26 := Fr.tr F_S_21 G_S_26 rfl
  have h14 := b_63_27 I_S_26
  have h15 : (S_26.1 72 ((x1).toNatClampNeg)).toInt = (S_21.1 72 ((x1).toNatClampNeg)).toInt := ti_eq (G_S_26 72 ((x1).toNatClampNeg) rfl)
  have h16 : (S_26.1 73 ((x1).toNatClampNeg)).toInt = (S_21.1 73 ((x1).toNatClampNeg)).toInt := ti_eq (G_S_26 73 ((x1).toNatClampNeg) rfl)
  have h17 : ((1 : Int32)).toInt = 1 := li_1
  refine Sf.b (s_fX12_put4 fu hfu (1 : Int32) S_26 I_S_26 (by omega)) (fun S_31 r_31_ p_r_31_ => ?_)
  obtain ⟨I_S_31, G_S_31, p_r_31_⟩ := p_r_31_
  have F_S_31 := Fr.tr F_S_26 G_S_31 rfl
  have h18 := b_63_27 I_S_31
  have h19 : (S_31.1 72 ((x1).toNatClampNeg)).toInt = (S_26.1 72 ((x1).toNatClampNeg)).toInt := ti_eq (G_S_31 72 ((x1).toNatClampNeg) rfl)
  have h20 : (S_31.1 73 ((x1).toNatClampNeg)).toInt = (S_26.1 73 ((x1).toNatClampNeg)).toInt := ti_eq (G_S_31 73 ((x1).toNatClampNeg) rfl)
  refine Sf.b (s_fX12_put4 fu hfu (0 : Int32) S_31 I_S_31 (by omega)) (fun S_36 r_36_ p_r_36_ => ?_)
  obtain ⟨I_S_36, G_S_36, p_r_36_⟩ := p_r_36_
  have F_S_36 := Fr.tr F_S_31 G_S_36 rfl
  have h21 := b_63_27 I_S_36
  have h22 : (S_36.1 72 ((x1).toNatClampNeg)).toInt = (S_31.1 72 ((x1).toNatClampNeg)).toInt := ti_eq (G_S_36 72 ((x1).toNatClampNeg) rfl)
  have h23 : (S_36.1 73 ((x1).toNatClampNeg)).toInt = (S_31.1 73 ((x1).toNatClampNeg)).toInt := ti_eq (G_S_36 73 ((x1).toNatClampNeg) rfl)
  refine Sf.b (s_fX12_put4 fu hfu (0 : Int32) S_36 I_S_36 (by omega)) (fun S_41 r_41_ p_r_41_ => ?_)
  obtain ⟨I_S_41, G_S_41, p_r_41_⟩ := p_r_41_
  have F_S_41 := Fr.tr F_S_36 G_S_41 rfl
  have h24 := b_63_27 I_S_41
  have h25 : (S_41.1 72 ((x1).toNatClampNeg)).toInt = (S_36.1 72 ((x1).toNatClampNeg)).toInt := ti_eq (G_S_41 72 ((x1).toNatClampNeg) rfl)
  have h26 : (S_41.1 73 ((x1).toNatClampNeg)).toInt = (S_36.1 73 ((x1).toNatClampNeg)).toInt := ti_eq (G_S_41 73 ((x1).toNatClampNeg) rfl)
  refine Sf.b (s_fX12_put4 fu hfu (0 : Int32) S_41 I_S_41 (by omega)) (fun S_46 r_46_ p_r_46_ => ?_)
  obtain ⟨I_S_46, G_S_46, p_r_46_⟩ := p_r_46_
  have F_S_46 := Fr.tr F_S_41 G_S_46 rfl
  have h27 := b_63_27 I_S_46
  have h28 : (S_46.1 72 ((x1).toNatClampNeg)).toInt = (S_41.1 72 ((x1).toNatClampNeg)).toInt := ti_eq (G_S_46 72 ((x1).toNatClampNeg) rfl)
  have h29 : (S_46.1 73 ((x1).toNatClampNeg)).toInt = (S_41.1 73 ((x1).toNatClampNeg)).toInt := ti_eq (G_S_46 73 ((x1).toNatClampNeg) rfl)
  refine Sf.g (ck_iv (by omega) (by omega)) ?_
  refine Sf.b (s_fX12_put4 fu hfu (S_46.1 73 ((x1).toNatClampNeg)) S_46 I_S_46 (by omega)) (fun S_56 r_56_ p_r_56_ => ?_)
  obtain ⟨I_S_56, G_S_56, p_r_56_⟩ := p_r_56_
  have F_S_56 := Fr.tr F_S_46 G_S_56 rfl
  have h30 := b_63_27 I_S_56
  have h31 : (S_56.1 72 ((x1).toNatClampNeg)).toInt = (S_46.1 72 ((x1).toNatClampNeg)).toInt := ti_eq (G_S_56 72 ((x1).toNatClampNeg) rfl)
  have h32 : (S_56.1 73 ((x1).toNatClampNeg)).toInt = (S_46.1 73 ((x1).toNatClampNeg)).toInt := ti_eq (G_S_56 73 ((x1).toNatClampNeg) rfl)
  exact Sf.so ⟨I_S_56, F_S_56, trivial⟩
theorem s_fX12_putRecord (fu : Nat) (hfu : 1000000000000000000 ≤ fu) (x1 : Int32) (S : St) (I_S : Inv S) (RD_S : RD S) (g0 : 0 ≤ (x1).toInt) (g1 : (x1).toInt < (S.1 63 20).toInt) (g2 : (S.1 63 27).toInt + 8000 ≤ 2000000000) : Sf (fX12_putRecord fu x1 S) (fun U r => Inv U ∧ Fr [(63, 28), (82, 0), (83, 0)] S U ∧ (((U.1 63 27).toInt ≤ (S.1 63 27).toInt + 7000))) := by
  unfold fX12_putRecord
  have F_S : Fr [(63, 28), (82, 0), (83, 0)] S S := Fr.refl _ _
  have h1 := b_63_20 I_S
  have h2 := b_63_27 I_S
  have h3 := i32 x1
  refine Sf.g (ck_iv (by omega) (by omega)) ?_
  refine Sf.g (ck_iv (by omega) (by omega)) ?_
  refine Sf.g (ck_iv (by omega) (by omega)) ?_
  have h4 := a_75 I_S ((x1).toNatClampNeg)
  have h5 := b_63_27 I_S
  refine Sf.b (s_fX12_putHead fu hfu (S.1 75 ((x1).toNatClampNeg)) (S.1 76 ((x1).toNatClampNeg)) (S.1 78 ((x1).toNatClampNeg)) S I_S (by omega) (by omega) (by omega)) (fun S_19 r_19_ p_r_19_ => ?_)
  obtain ⟨I_S_19, G_S_19, p_r_19_⟩ := p_r_19_
  have F_S_19 := Fr.tr F_S G_S_19 rfl
  have RD_S_19 := RD_fr (U := S_19) RD_S (G_S_19 63 20 rfl) (fun b => G_S_19 76 b rfl) (fun b => G_S_19 77 b rfl)
  have h6 := b_63_27 I_S_19
  have h7 := ti_eq (G_S_19 63 20 rfl)
  have h8 : (S_19.1 75 ((x1).toNatClampNeg)).toInt = (S.1 75 ((x1).toNatClampNeg)).toInt := ti_eq (G_S_19 75 ((x1).toNatClampNeg) rfl)
  have h9 : (S_19.1 76 ((x1).toNatClampNeg)).toInt = (S.1 76 ((x1).toNatClampNeg)).toInt := ti_eq (G_S_19 76 ((x1).toNatClampNeg) rfl)
  have h10 : (S_19.1 78 ((x1).toNatClampNeg)).toInt = (S.1 78 ((x1).toNatClampNeg)).toInt := ti_eq (G_S_19 78 ((x1).toNatClampNeg) rfl)
  have h11 : ((0 : Int32)).toInt = 0 := li_0
  refine Sf.b (s_fX12_put2 fu hfu (0 : Int32) S_19 I_S_19 (by omega)) (fun S_29 r_29_ p_r_29_ => ?_)
  obtain ⟨I_S_29, G_S_29, p_r_29_⟩ := p_r_29_
  have F_S_29 := Fr.tr F_S_19 G_S_29 rfl
  have RD_S_29 := RD_fr (U := S_29) RD_S_19 (G_S_29 63 20 rfl) (fun b => G_S_29 76 b rfl) (fun b => G_S_29 77 b rfl)
  have h12 := b_63_27 I_S_29
  have h13 := ti_eq (G_S_29 63 20 rfl)
  have h14 : (S_29.1 75 ((x1).toNatClampNeg)).toInt = (S_19.1 75 ((x1).toNatClampNeg)).toInt := ti_eq (G_S_29 75 ((x1).toNatClampNeg) rfl)
  have h15 : (S_29.1 76 ((x1).toNatClampNeg)).toInt = (S_19.1 76 ((x1).toNatClampNeg)).toInt := ti_eq (G_S_29 76 ((x1).toNatClampNeg) rfl)
  have h16 : (S_29.1 78 ((x1).toNatClampNeg)).toInt = (S_19.1 78 ((x1).toNatClampNeg)).toInt := ti_eq (G_S_29 78 ((x1).toNatClampNeg) rfl)
  have hp := RD_at RD_S_29 (x := x1) (by omega) (by omega)
  refine Sf.g (ck_iv (by omega) (by omega)) ?_
  refine Sf.i (fun c_h17 => ?_) (fun c_h17 => ?_)
  · have h18 := eq_iv rfl li_2 c_h17
    unfold fX12_putRecord_52
    refine Sf.g (ck_iv (by omega) (by omega)) ?_
    refine Sf.b (s_fX12_putName fu hfu (S_29.1 77 ((x1).toNatClampNeg)) S_29 I_S_29 (by omega) (by omega) (by omega)) (fun S_59 r_59_ p_r_59_ => ?_)
    obtain ⟨I_S_59, G_S_59, p_r_59_⟩ := p_r_59_
    have F_S_59 := Fr.tr F_S_29 G_S_59 rfl
    have RD_S_59 := RD_fr (U := S_59) RD_S_29 (G_S_59 63 20 rfl) (fun b => G_S_59 76 b rfl) (fun b => G_S_59 77 b rfl)
    have h19 := b_63_27 I_S_59
    have h20 := ti_eq (G_S_59 63 20 rfl)
    have h21 : (S_59.1 75 ((x1).toNatClampNeg)).toInt = (S_29.1 75 ((x1).toNatClampNeg)).toInt := ti_eq (G_S_59 75 ((x1).toNatClampNeg) rfl)
    have h22 : (S_59.1 76 ((x1).toNatClampNeg)).toInt = (S_29.1 76 ((x1).toNatClampNeg)).toInt := ti_eq (G_S_59 76 ((x1).toNatClampNeg) rfl)
    have h23 : (S_59.1 77 ((x1).toNatClampNeg)).toInt = (S_29.1 77 ((x1).toNatClampNeg)).toInt := ti_eq (G_S_59 77 ((x1).toNatClampNeg) rfl)
    have h24 : (S_59.1 78 ((x1).toNatClampNeg)).toInt = (S_29.1 78 ((x1).toNatClampNeg)).toInt := ti_eq (G_S_59 78 ((x1).toNatClampNeg) rfl)
    unfold fX12_putRecord_91
    try have h25 : (((S_19.1 63 27) + (1 : Int32))).toInt = ((S_19.1 63 27)).toInt + (1) := add_iv rfl li_1 (by omega) (by omega)
    refine Sf.i (fun c_h26 => ?_) (fun c_h26 => ?_)
    · have h27 := le_iv li_1000 rfl c_h26
      have h28 := b_63_27 I_S_59
      have h29 := b_63_27 I_S
      have h30 : ((0 : Int32)).toInt = 0 := li_0
      exact Sf.so ⟨I_S_59, F_S_59, by omega⟩
    · have h31 := nle_iv li_1000 rfl c_h26
      refine Sf.g (ck_iv (by omega) (by omega)) ?_
      try have h32 : (((S_59.1 63 27) - (S_19.1 63 27))).toInt = ((S_59.1 63 27)).toInt - ((S_19.1 63 27)).toInt := sub_iv rfl rfl (by omega) (by omega)
      try have h33 : ((((S_59.1 63 27) - (S_19.1 63 27)) - (2 : Int32))).toInt = (((S_59.1 63 27) - (S_19.1 63 27))).toInt - (2) := sub_iv rfl li_2 (by omega) (by omega)
      have h34 := vpy (((((S_59.1 63 27) - (S_19.1 63 27)) - (2 : Int32))).toInt8.toInt32)
      refine Sf.w I_S_59 F_S_59 rfl (i32 _).1 (i32 _).2 (fun S_118 I_S_118 F_S_118 v_S_118 f_S_118 l_S_118 => ?_)
      have h35 := ti_eq (f_S_118 63 20 (fun e => absurd e (by decide)))
      have h36 := ti_eq (f_S_118 63 27 (fun e => absurd e (by decide)))
      have h37 : (S_118.1 82 ((((S_19.1 63 27) + (1 : Int32))).toNatClampNeg)).toInt = ((vp_nar .byte (((((S_59.1 63 27) - (S_19.1 63 27)) - (2 : Int32))).toInt8.toInt32))).toInt := eq_iv rfl rfl v_S_118
      have RD_S_118 := RD_fr (U := S_118) RD_S_59 (f_S_118 63 20 (fun e => absurd e (by decide))) (fun b => f_S_118 76 b (fun e => absurd e (by decide))) (fun b => f_S_118 77 b (fun e => absurd e (by decide)))
      have h38 : (S_118.1 75 ((x1).toNatClampNeg)).toInt = (S_59.1 75 ((x1).toNatClampNeg)).toInt := ti_eq (f_S_118 75 ((x1).toNatClampNeg) (fun e => absurd e (by decide)))
      have h39 : (S_118.1 76 ((x1).toNatClampNeg)).toInt = (S_59.1 76 ((x1).toNatClampNeg)).toInt := ti_eq (f_S_118 76 ((x1).toNatClampNeg) (fun e => absurd e (by decide)))
      have h40 : (S_118.1 77 ((x1).toNatClampNeg)).toInt = (S_59.1 77 ((x1).toNatClampNeg)).toInt := ti_eq (f_S_118 77 ((x1).toNatClampNeg) (fun e => absurd e (by decide)))
      have h41 : (S_118.1 78 ((x1).toNatClampNeg)).toInt = (S_59.1 78 ((x1).toNatClampNeg)).toInt := ti_eq (f_S_118 78 ((x1).toNatClampNeg) (fun e => absurd e (by decide)))
      have h42 := b_63_27 I_S_118
      have h43 := b_63_27 I_S
      have h44 : ((0 : Int32)).toInt = 0 := li_0
      exact Sf.so ⟨I_S_118, F_S_118, by omega⟩
  · have h45 := neq_iv rfl li_2 c_h17
    refine Sf.g (ck_iv (by omega) (by omega)) ?_
    refine Sf.i (fun c_h46 => ?_) (fun c_h46 => ?_)
    · have h47 := eq_iv rfl li_5 c_h46
      unfold fX12_putRecord_52
      refine Sf.g (ck_iv (by omega) (by omega)) ?_
      refine Sf.b (s_fX12_putName fu hfu (S_29.1 77 ((x1).toNatClampNeg)) S_29 I_S_29 (by omega) (by omega) (by omega)) (fun S_59 r_59_ p_r_59_ => ?_)
      obtain ⟨I_S_59, G_S_59, p_r_59_⟩ := p_r_59_
      have F_S_59 := Fr.tr F_S_29 G_S_59 rfl
      have RD_S_59 := RD_fr (U := S_59) RD_S_29 (G_S_59 63 20 rfl) (fun b => G_S_59 76 b rfl) (fun b => G_S_59 77 b rfl)
      have h48 := b_63_27 I_S_59
      have h49 := ti_eq (G_S_59 63 20 rfl)
      have h50 : (S_59.1 75 ((x1).toNatClampNeg)).toInt = (S_29.1 75 ((x1).toNatClampNeg)).toInt := ti_eq (G_S_59 75 ((x1).toNatClampNeg) rfl)
      have h51 : (S_59.1 76 ((x1).toNatClampNeg)).toInt = (S_29.1 76 ((x1).toNatClampNeg)).toInt := ti_eq (G_S_59 76 ((x1).toNatClampNeg) rfl)
      have h52 : (S_59.1 77 ((x1).toNatClampNeg)).toInt = (S_29.1 77 ((x1).toNatClampNeg)).toInt := ti_eq (G_S_59 77 ((x1).toNatClampNeg) rfl)
      have h53 : (S_59.1 78 ((x1).toNatClampNeg)).toInt = (S_29.1 78 ((x1).toNatClampNeg)).toInt := ti_eq (G_S_59 78 ((x1).toNatClampNeg) rfl)
      unfold fX12_putRecord_91
      try have h54 : (((S_19.1 63 27) + (1 : Int32))).toInt = ((S_19.1 63 27)).toInt + (1) := add_iv rfl li_1 (by omega) (by omega)
      refine Sf.i (fun c_h55 => ?_) (fun c_h55 => ?_)
      · have h56 := le_iv li_1000 rfl c_h55
        have h57 := b_63_27 I_S_59
        have h58 := b_63_27 I_S
        have h59 : ((0 : Int32)).toInt = 0 := li_0
        exact Sf.so ⟨I_S_59, F_S_59, by omega⟩
      · have h60 := nle_iv li_1000 rfl c_h55
        refine Sf.g (ck_iv (by omega) (by omega)) ?_
        try have h61 : (((S_59.1 63 27) - (S_19.1 63 27))).toInt = ((S_59.1 63 27)).toInt - ((S_19.1 63 27)).toInt := sub_iv rfl rfl (by omega) (by omega)
        try have h62 : ((((S_59.1 63 27) - (S_19.1 63 27)) - (2 : Int32))).toInt = (((S_59.1 63 27) - (S_19.1 63 27))).toInt - (2) := sub_iv rfl li_2 (by omega) (by omega)
        have h63 := vpy (((((S_59.1 63 27) - (S_19.1 63 27)) - (2 : Int32))).toInt8.toInt32)
        refine Sf.w I_S_59 F_S_59 rfl (i32 _).1 (i32 _).2 (fun S_118 I_S_118 F_S_118 v_S_118 f_S_118 l_S_118 => ?_)
        have h64 := ti_eq (f_S_118 63 20 (fun e => absurd e (by decide)))
        have h65 := ti_eq (f_S_118 63 27 (fun e => absurd e (by decide)))
        have h66 : (S_118.1 82 ((((S_19.1 63 27) + (1 : Int32))).toNatClampNeg)).toInt = ((vp_nar .byte (((((S_59.1 63 27) - (S_19.1 63 27)) - (2 : Int32))).toInt8.toInt32))).toInt := eq_iv rfl rfl v_S_118
        have RD_S_118 := RD_fr (U := S_118) RD_S_59 (f_S_118 63 20 (fun e => absurd e (by decide))) (fun b => f_S_118 76 b (fun e => absurd e (by decide))) (fun b => f_S_118 77 b (fun e => absurd e (by decide)))
        have h67 : (S_118.1 75 ((x1).toNatClampNeg)).toInt = (S_59.1 75 ((x1).toNatClampNeg)).toInt := ti_eq (f_S_118 75 ((x1).toNatClampNeg) (fun e => absurd e (by decide)))
        have h68 : (S_118.1 76 ((x1).toNatClampNeg)).toInt = (S_59.1 76 ((x1).toNatClampNeg)).toInt := ti_eq (f_S_118 76 ((x1).toNatClampNeg) (fun e => absurd e (by decide)))
        have h69 : (S_118.1 77 ((x1).toNatClampNeg)).toInt = (S_59.1 77 ((x1).toNatClampNeg)).toInt := ti_eq (f_S_118 77 ((x1).toNatClampNeg) (fun e => absurd e (by decide)))
        have h70 : (S_118.1 78 ((x1).toNatClampNeg)).toInt = (S_59.1 78 ((x1).toNatClampNeg)).toInt := ti_eq (f_S_118 78 ((x1).toNatClampNeg) (fun e => absurd e (by decide)))
        have h71 := b_63_27 I_S_118
        have h72 := b_63_27 I_S
        have h73 : ((0 : Int32)).toInt = 0 := li_0
        exact Sf.so ⟨I_S_118, F_S_118, by omega⟩
    · have h74 := neq_iv rfl li_5 c_h46
      refine Sf.g (ck_iv (by omega) (by omega)) ?_
      refine Sf.i (fun c_h75 => ?_) (fun c_h75 => ?_)
      · have h76 := eq_iv rfl li_16 c_h75
        have h77 : ((4 : Int32)).toInt = 4 := li_4
        refine Sf.b (s_fX12_put fu hfu (4 : Int32) S_29 I_S_29 (by omega)) (fun S_78 r_78_ p_r_78_ => ?_)
        obtain ⟨I_S_78, G_S_78, p_r_78_⟩ := p_r_78_
        have F_S_78 := Fr.tr F_S_29 G_S_78 rfl
        have RD_S_78 := RD_fr (U := S_78) RD_S_29 (G_S_78 63 20 rfl) (fun b => G_S_78 76 b rfl) (fun b => G_S_78 77 b rfl)
        have h78 := b_63_27 I_S_78
        have h79 := ti_eq (G_S_78 63 20 rfl)
        have h80 : (S_78.1 75 ((x1).toNatClampNeg)).toInt = (S_29.1 75 ((x1).toNatClampNeg)).toInt := ti_eq (G_S_78 75 ((x1).toNatClampNeg) rfl)
        have h81 : (S_78.1 76 ((x1).toNatClampNeg)).toInt = (S_29.1 76 ((x1).toNatClampNeg)).toInt := ti_eq (G_S_78 76 ((x1).toNatClampNeg) rfl)
        have h82 : (S_78.1 78 ((x1).toNatClampNeg)).toInt = (S_29.1 78 ((x1).toNatClampNeg)).toInt := ti_eq (G_S_78 78 ((x1).toNatClampNeg) rfl)
        unfold fX12_putRecord_81
        refine Sf.g (ck_iv (by omega) (by omega)) ?_
        refine Sf.b (s_fX12_put4 fu hfu (S_78.1 77 ((x1).toNatClampNeg)) S_78 I_S_78 (by omega)) (fun S_88 r_88_ p_r_88_ => ?_)
        obtain ⟨I_S_88, G_S_88, p_r_88_⟩ := p_r_88_
        have F_S_88 := Fr.tr F_S_78 G_S_88 rfl
        have RD_S_88 := RD_fr (U := S_88) RD_S_78 (G_S_88 63 20 rfl) (fun b => G_S_88 76 b rfl) (fun b => G_S_88 77 b rfl)
        have h83 := b_63_27 I_S_88
        have h84 := ti_eq (G_S_88 63 20 rfl)
        have h85 : (S_88.1 75 ((x1).toNatClampNeg)).toInt = (S_78.1 75 ((x1).toNatClampNeg)).toInt := ti_eq (G_S_88 75 ((x1).toNatClampNeg) rfl)
        have h86 : (S_88.1 76 ((x1).toNatClampNeg)).toInt = (S_78.1 76 ((x1).toNatClampNeg)).toInt := ti_eq (G_S_88 76 ((x1).toNatClampNeg) rfl)
        have h87 : (S_88.1 77 ((x1).toNatClampNeg)).toInt = (S_78.1 77 ((x1).toNatClampNeg)).toInt := ti_eq (G_S_88 77 ((x1).toNatClampNeg) rfl)
        have h88 : (S_88.1 78 ((x1).toNatClampNeg)).toInt = (S_78.1 78 ((x1).toNatClampNeg)).toInt := ti_eq (G_S_88 78 ((x1).toNatClampNeg) rfl)
        unfold fX12_putRecord_91
        try have h89 : (((S_19.1 63 27) + (1 : Int32))).toInt = ((S_19.1 63 27)).toInt + (1) := add_iv rfl li_1 (by omega) (by omega)
        refine Sf.i (fun c_h90 => ?_) (fun c_h90 => ?_)
        · have h91 := le_iv li_1000 rfl c_h90
          have h92 := b_63_27 I_S_88
          have h93 := b_63_27 I_S
          have h94 : ((0 : Int32)).toInt = 0 := li_0
          exact Sf.so ⟨I_S_88, F_S_88, by omega⟩
        · have h95 := nle_iv li_1000 rfl c_h90
          refine Sf.g (ck_iv (by omega) (by omega)) ?_
          try have h96 : (((S_88.1 63 27) - (S_19.1 63 27))).toInt = ((S_88.1 63 27)).toInt - ((S_19.1 63 27)).toInt := sub_iv rfl rfl (by omega) (by omega)
          try have h97 : ((((S_88.1 63 27) - (S_19.1 63 27)) - (2 : Int32))).toInt = (((S_88.1 63 27) - (S_19.1 63 27))).toInt - (2) := sub_iv rfl li_2 (by omega) (by omega)
          have h98 := vpy (((((S_88.1 63 27) - (S_19.1 63 27)) - (2 : Int32))).toInt8.toInt32)
          refine Sf.w I_S_88 F_S_88 rfl (i32 _).1 (i32 _).2 (fun S_118 I_S_118 F_S_118 v_S_118 f_S_118 l_S_118 => ?_)
          have h99 := ti_eq (f_S_118 63 20 (fun e => absurd e (by decide)))
          have h100 := ti_eq (f_S_118 63 27 (fun e => absurd e (by decide)))
          have h101 : (S_118.1 82 ((((S_19.1 63 27) + (1 : Int32))).toNatClampNeg)).toInt = ((vp_nar .byte (((((S_88.1 63 27) - (S_19.1 63 27)) - (2 : Int32))).toInt8.toInt32))).toInt := eq_iv rfl rfl v_S_118
          have RD_S_118 := RD_fr (U := S_118) RD_S_88 (f_S_118 63 20 (fun e => absurd e (by decide))) (fun b => f_S_118 76 b (fun e => absurd e (by decide))) (fun b => f_S_118 77 b (fun e => absurd e (by decide)))
          have h102 : (S_118.1 75 ((x1).toNatClampNeg)).toInt = (S_88.1 75 ((x1).toNatClampNeg)).toInt := ti_eq (f_S_118 75 ((x1).toNatClampNeg) (fun e => absurd e (by decide)))
          have h103 : (S_118.1 76 ((x1).toNatClampNeg)).toInt = (S_88.1 76 ((x1).toNatClampNeg)).toInt := ti_eq (f_S_118 76 ((x1).toNatClampNeg) (fun e => absurd e (by decide)))
          have h104 : (S_118.1 77 ((x1).toNatClampNeg)).toInt = (S_88.1 77 ((x1).toNatClampNeg)).toInt := ti_eq (f_S_118 77 ((x1).toNatClampNeg) (fun e => absurd e (by decide)))
          have h105 : (S_118.1 78 ((x1).toNatClampNeg)).toInt = (S_88.1 78 ((x1).toNatClampNeg)).toInt := ti_eq (f_S_118 78 ((x1).toNatClampNeg) (fun e => absurd e (by decide)))
          have h106 := b_63_27 I_S_118
          have h107 := b_63_27 I_S
          have h108 : ((0 : Int32)).toInt = 0 := li_0
          exact Sf.so ⟨I_S_118, F_S_118, by omega⟩
      · have h109 := neq_iv rfl li_16 c_h75
        unfold fX12_putRecord_81
        refine Sf.g (ck_iv (by omega) (by omega)) ?_
        refine Sf.b (s_fX12_put4 fu hfu (S_29.1 77 ((x1).toNatClampNeg)) S_29 I_S_29 (by omega)) (fun S_88 r_88_ p_r_88_ => ?_)
        obtain ⟨I_S_88, G_S_88, p_r_88_⟩ := p_r_88_
        have F_S_88 := Fr.tr F_S_29 G_S_88 rfl
        have RD_S_88 := RD_fr (U := S_88) RD_S_29 (G_S_88 63 20 rfl) (fun b => G_S_88 76 b rfl) (fun b => G_S_88 77 b rfl)
        have h110 := b_63_27 I_S_88
        have h111 := ti_eq (G_S_88 63 20 rfl)
        have h112 : (S_88.1 75 ((x1).toNatClampNeg)).toInt = (S_29.1 75 ((x1).toNatClampNeg)).toInt := ti_eq (G_S_88 75 ((x1).toNatClampNeg) rfl)
        have h113 : (S_88.1 76 ((x1).toNatClampNeg)).toInt = (S_29.1 76 ((x1).toNatClampNeg)).toInt := ti_eq (G_S_88 76 ((x1).toNatClampNeg) rfl)
        have h114 : (S_88.1 77 ((x1).toNatClampNeg)).toInt = (S_29.1 77 ((x1).toNatClampNeg)).toInt := ti_eq (G_S_88 77 ((x1).toNatClampNeg) rfl)
        have h115 : (S_88.1 78 ((x1).toNatClampNeg)).toInt = (S_29.1 78 ((x1).toNatClampNeg)).toInt := ti_eq (G_S_88 78 ((x1).toNatClampNeg) rfl)
        unfold fX12_putRecord_91
        try have h116 : (((S_19.1 63 27) + (1 : Int32))).toInt = ((S_19.1 63 27)).toInt + (1) := add_iv rfl li_1 (by omega) (by omega)
        refine Sf.i (fun c_h117 => ?_) (fun c_h117 => ?_)
        · have h118 := le_iv li_1000 rfl c_h117
          have h119 := b_63_27 I_S_88
          have h120 := b_63_27 I_S
          have h121 : ((0 : Int32)).toInt = 0 := li_0
          exact Sf.so ⟨I_S_88, F_S_88, by omega⟩
        · have h122 := nle_iv li_1000 rfl c_h117
          refine Sf.g (ck_iv (by omega) (by omega)) ?_
          try have h123 : (((S_88.1 63 27) - (S_19.1 63 27))).toInt = ((S_88.1 63 27)).toInt - ((S_19.1 63 27)).toInt := sub_iv rfl rfl (by omega) (by omega)
          try have h124 : ((((S_88.1 63 27) - (S_19.1 63 27)) - (2 : Int32))).toInt = (((S_88.1 63 27) - (S_19.1 63 27))).toInt - (2) := sub_iv rfl li_2 (by omega) (by omega)
          have h125 := vpy (((((S_88.1 63 27) - (S_19.1 63 27)) - (2 : Int32))).toInt8.toInt32)
          refine Sf.w I_S_88 F_S_88 rfl (i32 _).1 (i32 _).2 (fun S_118 I_S_118 F_S_118 v_S_118 f_S_118 l_S_118 => ?_)
          have h126 := ti_eq (f_S_118 63 20 (fun e => absurd e (by decide)))
          have h127 := ti_eq (f_S_118 63 27 (fun e => absurd e (by decide)))
          have h128 : (S_118.1 82 ((((S_19.1 63 27) + (1 : Int32))).toNatClampNeg)).toInt = ((vp_nar .byte (((((S_88.1 63 27) - (S_19.1 63 27)) - (2 : Int32))).toInt8.toInt32))).toInt := eq_iv rfl rfl v_S_118
          have RD_S_118 := RD_fr (U := S_118) RD_S_88 (f_S_118 63 20 (fun e => absurd e (by decide))) (fun b => f_S_118 76 b (fun e => absurd e (by decide))) (fun b => f_S_118 77 b (fun e => absurd e (by decide)))
          have h129 : (S_118.1 75 ((x1).toNatClampNeg)).toInt = (S_88.1 75 ((x1).toNatClampNeg)).toInt := ti_eq (f_S_118 75 ((x1).toNatClampNeg) (fun e => absurd e (by decide)))
          have h130 : (S_118.1 76 ((x1).toNatClampNeg)).toInt = (S_88.1 76 ((x1).toNatClampNeg)).toInt := ti_eq (f_S_118 76 ((x1).toNatClampNeg) (fun e => absurd e (by decide)))
          have h131 : (S_118.1 77 ((x1).toNatClampNeg)).toInt = (S_88.1 77 ((x1).toNatClampNeg)).toInt := ti_eq (f_S_118 77 ((x1).toNatClampNeg) (fun e => absurd e (by decide)))
          have h132 : (S_118.1 78 ((x1).toNatClampNeg)).toInt = (S_88.1 78 ((x1).toNatClampNeg)).toInt := ti_eq (f_S_118 78 ((x1).toNatClampNeg) (fun e => absurd e (by decide)))
          have h133 := b_63_27 I_S_118
          have h134 := b_63_27 I_S
          have h135 : ((0 : Int32)).toInt = 0 := li_0
          exact Sf.so ⟨I_S_118, F_S_118, by omega⟩
theorem s_fX12_putTold_2 (fu : Nat) (hfu : 1000000000000000000 ≤ fu) : ∀ (n : Nat) (x1 : Int32) (S : St), Inv S → RD S → (0 ≤ (x1).toInt) → ((x1).toInt ≤ 150) → ((S.1 63 27).toInt + 7000 * (150 - (x1).toInt) + 8000 ≤ 2000000000) → (150 - (x1).toInt).toNat < n → Sf (fX12_putTold_2 fu n x1 S) (fun U r => Inv U ∧ Fr [(63, 28), (82, 0), (83, 0)] S U ∧ (((U.1 63 27).toInt ≤ (S.1 63 27).toInt + 7000 * (150 - (x1).toInt)))) := by
  intro n
  induction n with
  | zero => intro x1 S I_S RD_S g0 g1 g2 hm; exact absurd hm (Nat.not_lt_zero _)
  | succ n ih =>
    intro x1 S I_S RD_S g0 g1 g2 hm
    rw [fX12_putTold_2_s]
    have F_S : Fr [(63, 28), (82, 0), (83, 0)] S S := Fr.refl _ _
    have h1 := b_63_27 I_S
    have h2 := b_63_20 I_S
    have h3 := i32 x1
    refine Sf.i (fun c_h4 => ?_) (fun c_h4 => ?_)
    · have h5 := le_iv rfl rfl c_h4
      have h6 := b_63_27 I_S
      have h7 := b_63_27 I_S
      have h8 : ((0 : Int32)).toInt = 0 := li_0
      exact Sf.so ⟨I_S, F_S, by omega⟩
    · have h9 := nle_iv rfl rfl c_h4
      refine Sf.g (ck_iv (by omega) (by omega)) ?_
      have h10 := a_84 I_S ((x1).toNatClampNeg)
      refine Sf.i (fun c_h11 => ?_) (fun c_h11 => ?_)
      · have h12 := eq_iv rfl li_0 c_h11
        unfold fX12_putTold_24
        try have h13 : ((x1 + (1 : Int32))).toInt = (x1).toInt + (1) := add_iv rfl li_1 (by omega) (by omega)
        have h14 := b_63_27 I_S
        refine Sf.mono (ih (x1 + (1 : Int32)) S I_S RD_S (by omega) (by omega) (by omega) (by omega)) (fun U r p_h15 => ?_)
        obtain ⟨I_U, G_U, p_h15⟩ := p_h15
        have h16 := b_63_27 I_U
        have h17 := b_63_27 I_S
        have h18 := ti_eq (G_U 63 20 rfl)
        have RD_U := RD_fr (U := U) RD_S (G_U 63 20 rfl) (fun b => G_U 76 b rfl) (fun b => G_U 77 b rfl)
        exact ⟨I_U, Fr.tr F_S G_U rfl, by omega⟩
      · have h19 := neq_iv rfl li_0 c_h11
        have h20 := b_63_27 I_S
        refine Sf.b (s_fX12_putRecord fu hfu x1 S I_S RD_S (by omega) (by omega) (by omega)) (fun S_21 r_21_ p_r_21_ => ?_)
        obtain ⟨I_S_21, G_S_21, p_r_21_⟩ := p_r_21_
        have F_S_21 := Fr.tr F_S G_S_21 rfl
        have RD_S_21 := RD_fr (U := S_21) RD_S (G_S_21 63 20 rfl) (fun b => G_S_21 76 b rfl) (fun b => G_S_21 77 b rfl)
        have h21 := b_63_27 I_S_21
        have h22 := ti_eq (G_S_21 63 20 rfl)
        have h23 : (S_21.1 84 ((x1).toNatClampNeg)).toInt = (S.1 84 ((x1).toNatClampNeg)).toInt := ti_eq (G_S_21 84 ((x1).toNatClampNeg) rfl)
        unfold fX12_putTold_24
        try have h24 : ((x1 + (1 : Int32))).toInt = (x1).toInt + (1) := add_iv rfl li_1 (by omega) (by omega)
        refine Sf.mono (ih (x1 + (1 : Int32)) S_21 I_S_21 RD_S_21 (by omega) (by omega) (by omega) (by omega)) (fun U r p_h25 => ?_)
        obtain ⟨I_U, G_U, p_h25⟩ := p_h25
        have h26 := b_63_27 I_U
        have h27 := b_63_27 I_S
        have h28 := ti_eq (G_U 63 20 rfl)
        have RD_U := RD_fr (U := U) RD_S_21 (G_U 63 20 rfl) (fun b => G_U 76 b rfl) (fun b => G_U 77 b rfl)
        exact ⟨I_U, Fr.tr F_S_21 G_U rfl, by omega⟩
