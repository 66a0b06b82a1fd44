theorem s_fX12_puts (fu : Nat) (hfu : 1000000000000000000 ≤ fu) (x1 : Int32) (x2 : Int32) (S : St) (I_S : Inv S) (RK_S : RK S) (SM_S : SM (x2).toInt S) : Sf (fX12_puts fu x1 x2 S) (fun U r => Inv U ∧ Fr [(63, 51), (91, 0), (92, 0), (93, 0), (94, 0)] S U ∧ (True) ∧ RK U) := by
  unfold fX12_puts
  have F_S : Fr [(63, 51), (91, 0), (92, 0), (93, 0), (94, 0)] S S := Fr.refl _ _
  have h1 := i32 x1
  have h2 := i32 x2
  have h3 : ((-1 : Int32)).toInt = -1 := li_m1
  have h4 : ((0 : Int32)).toInt = 0 := li_0
  have h5 := b_63_50 I_S
  refine Sf.mono (s_fX12_puts_8 fu hfu fu x1 x2 (-1 : Int32) (0 : Int32) (0 : Int32) S I_S RK_S SM_S (by omega) (by omega) (by omega) (by omega) (by omega) (by omega) (by omega) (by omega)) (fun U r p_h6 => ?_)
  obtain ⟨I_U, G_U, p_h6, RK_U⟩ := p_h6
  have SM_U := SM_fr (U := U) SM_S (G_U 63 53 rfl) (fun b => G_U 96 b rfl)
  exact ⟨I_U, Fr.tr F_S G_U rfl, trivial, RK_U⟩
theorem s_fX12_nothing (fu : Nat) (hfu : 1000000000000000000 ≤ fu) (x1 : Int32) (x2 : Int32) (x3 : Int32) (S : St) (I_S : Inv S) (RK_S : RK S) (g0 : 0 ≤ (x3).toInt) (g1 : (x3).toInt < 100) : Sf (fX12_nothing fu x1 x2 x3 S) (fun U r => Inv U ∧ Fr [(63, 51), (63, 54), (91, 0), (92, 0), (93, 0), (94, 0)] S U ∧ (True) ∧ RK U) := by
  unfold fX12_nothing
  have F_S : Fr [(63, 51), (63, 54), (91, 0), (92, 0), (93, 0), (94, 0)] S S := Fr.refl _ _
  have h1 := i32 x3
  refine Sf.g (ck_iv (by omega) (by omega)) ?_
  refine Sf.g (ck_iv (by omega) (by omega)) ?_
  refine Sf.w I_S F_S rfl (show ((0) : Int) ≤ ((0 : Int32)).toInt by rw [li_0]; omega) (show ((0 : Int32)).toInt ≤ (10 : Int) by rw [li_0]; omega) (fun S_28 I_S_28 F_S_28 v_S_28 f_S_28 l_S_28 => ?_)
  have h2 := eq_iv rfl li_0 v_S_28
  have RK_S_28 := RK_fr (U := S_28) RK_S (f_S_28 63 50 (fun _ e => absurd e (by decide))) (fun b => f_S_28 92 b (fun e => absurd e (by decide))) (fun b => f_S_28 93 b (fun e => absurd e (by decide))) (fun b => f_S_28 94 b (fun e => absurd e (by decide)))
  have SM_S_28 : SM (x2).toInt S_28 := SM_zero (by omega)
  refine Sf.i (fun c_h3 => ?_) (fun c_h3 => ?_)
  · have h4 := le_iv li_0 rfl c_h3
    unfold fX12_nothing_47
    refine Sf.j I_S_28 F_S_28 (fun S_47 I_S_47 F_S_47 l_S_47 => ?_)
    have h5 : (S_47.1 63 53).toInt = (S_28.1 63 53).toInt := by rw [l_S_47]
    have RK_S_47 := RK_fr (U := S_47) RK_S_28 (by rw [l_S_47]) (fun b => by rw [l_S_47]) (fun b => by rw [l_S_47]) (fun b => by rw [l_S_47])
    have SM_S_47 := SM_fr (U := S_47) SM_S_28 (by rw [l_S_47]) (fun b => by rw [l_S_47])
    have h6 := i32 x1
    have h7 := i32 x2
    refine Sf.b (s_fX12_puts fu hfu x1 x2 S_47 I_S_47 RK_S_47 SM_S_47) (fun S_53 r_53_ p_r_53_ => ?_)
    obtain ⟨I_S_53, G_S_53, p_r_53_, RK_S_53⟩ := p_r_53_
    have F_S_53 := Fr.tr F_S_47 G_S_53 rfl
    have SM_S_53 := SM_fr (U := S_53) SM_S_47 (G_S_53 63 53 rfl) (fun b => G_S_53 96 b rfl)
    have h8 := ti_eq (G_S_53 63 53 rfl)
    exact Sf.so ⟨I_S_53, F_S_53, trivial, RK_S_53⟩
  · have h9 := nle_iv li_0 rfl c_h3
    unfold fX12_nothing_47
    refine Sf.j I_S_28 F_S_28 (fun S_47 I_S_47 F_S_47 l_S_47 => ?_)
    have h10 : (S_47.1 63 53).toInt = (S_28.1 63 53).toInt := by rw [l_S_47]
    have RK_S_47 := RK_fr (U := S_47) RK_S_28 (by rw [l_S_47]) (fun b => by rw [l_S_47]) (fun b => by rw [l_S_47]) (fun b => by rw [l_S_47])
    have SM_S_47 := SM_fr (U := S_47) SM_S_28 (by rw [l_S_47]) (fun b => by rw [l_S_47])
    have h11 := i32 x1
    have h12 := i32 x2
    refine Sf.b (s_fX12_puts fu hfu x1 x2 S_47 I_S_47 RK_S_47 SM_S_47) (fun S_53 r_53_ p_r_53_ => ?_)
    obtain ⟨I_S_53, G_S_53, p_r_53_, RK_S_53⟩ := p_r_53_
    have F_S_53 := Fr.tr F_S_47 G_S_53 rfl
    have SM_S_53 := SM_fr (U := S_53) SM_S_47 (G_S_53 63 53 rfl) (fun b => G_S_53 96 b rfl)
    have h13 := ti_eq (G_S_53 63 53 rfl)
    exact Sf.so ⟨I_S_53, F_S_53, trivial, RK_S_53⟩
theorem s_fX12_refersTo_119 (fu : Nat) (hfu : 1000000000000000000 ≤ fu) : ∀ (n : Nat) (x4 : Int32) (x5 : Int32) (S : St), Inv S → RK S → RR S → ((x4).toInt ≤ 10) → (0 ≤ (x5).toInt) → (10 - (x5).toInt).toNat < n → Sf (fX12_refersTo_119 fu n x4 x5 S) (fun U r => Inv U ∧ Fr [(63, 51), (63, 54), (91, 0), (92, 0), (93, 0), (94, 0), (96, 0)] S U ∧ (True) ∧ RK U) := by
  intro n
  induction n with
  | zero => intro x4 x5 S I_S RK_S RR_S g0 g1 hm; exact absurd hm (Nat.not_lt_zero _)
  | succ n ih =>
    intro x4 x5 S I_S RK_S RR_S g0 g1 hm
    rw [fX12_refersTo_119_s]
    have F_S : Fr [(63, 51), (63, 54), (91, 0), (92, 0), (93, 0), (94, 0), (96, 0)] S S := Fr.refl _ _
    have h1 := i32 x4
    have h2 := i32 x5
    refine Sf.i (fun c_h3 => ?_) (fun c_h3 => ?_)
    · have h4 := le_iv rfl rfl c_h3
      exact Sf.so ⟨I_S, F_S, trivial, RK_S⟩
    · have h5 := nle_iv rfl rfl c_h3
      refine Sf.g (ck_iv (by omega) (by omega)) ?_
      have h6 : ((2 : Int32)).toInt = 2 := li_2
      have h7 : ((1 : Int32)).toInt = 1 := li_1
      refine Sf.b (s_fX12_gathers fu hfu (2 : Int32) (S.1 105 ((x5).toNatClampNeg)) (1 : Int32) S I_S RR_S) (fun S_136 r_136 p_r_136 => ?_)
      obtain ⟨I_S_136, G_S_136, p_r_136, SM_S_136⟩ := p_r_136
      have F_S_136 := Fr.tr F_S G_S_136 rfl
      have RK_S_136 := RK_fr (U := S_136) RK_S (G_S_136 63 50 rfl) (fun b => G_S_136 92 b rfl) (fun b => G_S_136 93 b rfl) (fun b => G_S_136 94 b rfl)
      have RR_S_136 := RR_fr (U := S_136) RR_S (G_S_136 63 42 rfl) (fun b => G_S_136 87 b rfl) (fun b => G_S_136 88 b rfl)
      have h8 := b_63_53 I_S_136
      have h9 : (S_136.1 105 ((x5).toNatClampNeg)).toInt = (S.1 105 ((x5).toNatClampNeg)).toInt := ti_eq (G_S_136 105 ((x5).toNatClampNeg) rfl)
      have h10 := i32 r_136
      refine Sf.i (fun c_h11 => ?_) (fun c_h11 => ?_)
      · have h12 := le_iv rfl li_0 c_h11
        unfold fX12_refersTo_154
        try have h13 : ((x5 + (1 : Int32))).toInt = (x5).toInt + (1) := add_iv rfl li_1 (by omega) (by omega)
        refine Sf.mono (ih x4 (x5 + (1 : Int32)) S_136 I_S_136 RK_S_136 RR_S_136 (by omega) (by omega) (by omega)) (fun U r p_h14 => ?_)
        obtain ⟨I_U, G_U, p_h14, RK_U⟩ := p_h14
        have RR_U := RR_fr (U := U) RR_S_136 (G_U 63 42 rfl) (fun b => G_U 87 b rfl) (fun b => G_U 88 b rfl)
        exact ⟨I_U, Fr.tr F_S_136 G_U rfl, trivial, RK_U⟩
      · have h15 := nle_iv rfl li_0 c_h11
        refine Sf.g (ck_iv (by omega) (by omega)) ?_
        refine Sf.b (s_fX12_puts fu hfu (S_136.1 105 ((x5).toNatClampNeg)) (1 : Int32) S_136 I_S_136 RK_S_136 SM_S_136) (fun S_151 r_151_ p_r_151_ => ?_)
        obtain ⟨I_S_151, G_S_151, p_r_151_, RK_S_151⟩ := p_r_151_
        have F_S_151 := Fr.tr F_S_136 G_S_151 rfl
        have RR_S_151 := RR_fr (U := S_151) RR_S_136 (G_S_151 63 42 rfl) (fun b => G_S_151 87 b rfl) (fun b => G_S_151 88 b rfl)
        have SM_S_151 := SM_fr (U := S_151) SM_S_136 (G_S_151 63 53 rfl) (fun b => G_S_151 96 b rfl)
        have h16 := ti_eq (G_S_151 63 53 rfl)
        have h17 : (S_151.1 105 ((x5).toNatClampNeg)).toInt = (S_136.1 105 ((x5).toNatClampNeg)).toInt := ti_eq (G_S_151 105 ((x5).toNatClampNeg) rfl)
        unfold fX12_refersTo_154
        try have h18 : ((x5 + (1 : Int32))).toInt = (x5).toInt + (1) := add_iv rfl li_1 (by omega) (by omega)
        refine Sf.mono (ih x4 (x5 + (1 : Int32)) S_151 I_S_151 RK_S_151 RR_S_151 (by omega) (by omega) (by omega)) (fun U r p_h19 => ?_)
        obtain ⟨I_U, G_U, p_h19, RK_U⟩ := p_h19
        have RR_U := RR_fr (U := U) RR_S_151 (G_U 63 42 rfl) (fun b => G_U 87 b rfl) (fun b => G_U 88 b rfl)
        exact ⟨I_U, Fr.tr F_S_151 G_U rfl, trivial, RK_U⟩
theorem s_fX12_refersTo_78 (fu : Nat) (hfu : 1000000000000000000 ≤ fu) : ∀ (n : Nat) (x3 : Int32) (x4 : Int32) (x5 : Int32) (S : St), Inv S → RK S → RR S → SM 2 S → (0 ≤ (x3).toInt) → ((x3).toInt < 100) → ((x4).toInt ≤ 10) → (0 ≤ (x5).toInt) → (10 - (x5).toInt).toNat < n → Sf (fX12_refersTo_78 fu n x3 x4 x5 S) (fun U r => Inv U ∧ Fr [(63, 51), (63, 54), (91, 0), (92, 0), (93, 0), (94, 0), (96, 0), (105, 0)] S U ∧ (True) ∧ RK U) := by
  intro n
  induction n with
  | zero => intro x3 x4 x5 S I_S RK_S RR_S SM_S g0 g1 g2 g3 hm; exact absurd hm (Nat.not_lt_zero _)
  | succ n ih =>
    intro x3 x4 x5 S I_S RK_S RR_S SM_S g0 g1 g2 g3 hm
    rw [fX12_refersTo_78_s]
    have F_S : Fr [(63, 51), (63, 54), (91, 0), (92, 0), (93, 0), (94, 0), (96, 0), (105, 0)] S S := Fr.refl _ _
    have h1 := i32 x4
    have h2 := i32 x5
    refine Sf.i (fun c_h3 => ?_) (fun c_h3 => ?_)
    · have h4 := le_iv rfl rfl c_h3
      have h5 := i32 x3
      refine Sf.g (ck_iv (by omega) (by omega)) ?_
      have h6 := a_86 I_S ((x3).toNatClampNeg)
      have h7 : ((2 : Int32)).toInt = 2 := li_2
      refine Sf.b (s_fX12_puts fu hfu (S.1 86 ((x3).toNatClampNeg)) (2 : Int32) S I_S RK_S SM_S) (fun S_113 r_113_ p_r_113_ => ?_)
      obtain ⟨I_S_113, G_S_113, p_r_113_, RK_S_113⟩ := p_r_113_
      have F_S_113 := Fr.tr F_S G_S_113 rfl
      have RR_S_113 := RR_fr (U := S_113) RR_S (G_S_113 63 42 rfl) (fun b => G_S_113 87 b rfl) (fun b => G_S_113 88 b rfl)
      have SM_S_113 := SM_fr (U := S_113) SM_S (G_S_113 63 53 rfl) (fun b => G_S_113 96 b rfl)
      have h8 := ti_eq (G_S_113 63 53 rfl)
      have h9 : (S_113.1 86 ((x3).toNatClampNeg)).toInt = (S.1 86 ((x3).toNatClampNeg)).toInt := ti_eq (G_S_113 86 ((x3).toNatClampNeg) rfl)
      have h10 : ((0 : Int32)).toInt = 0 := li_0
      refine Sf.mono (s_fX12_refersTo_119 fu hfu fu x4 (0 : Int32) S_113 I_S_113 RK_S_113 RR_S_113 (by omega) (by omega) (by omega)) (fun U r p_h11 => ?_)
      obtain ⟨I_U, G_U, p_h11, RK_U⟩ := p_h11
      have RR_U := RR_fr (U := U) RR_S_113 (G_U 63 42 rfl) (fun b => G_U 87 b rfl) (fun b => G_U 88 b rfl)
      exact ⟨I_U, Fr.tr F_S_113 G_U rfl, trivial, RK_U⟩
    · have h12 := nle_iv rfl rfl c_h3
      refine Sf.g (ck_iv (by omega) (by omega)) ?_
      refine Sf.g (ck_iv (by omega) (by omega)) ?_
      refine Sf.w I_S F_S rfl (i32 _).1 (i32 _).2 (fun S_98 I_S_98 F_S_98 v_S_98 f_S_98 l_S_98 => ?_)
      have h13 := ti_eq (f_S_98 63 53 (fun e => absurd e (by decide)))
      have h14 : (S_98.1 105 ((x5).toNatClampNeg)).toInt = ((S.1 96 ((x5).toNatClampNeg))).toInt := eq_iv rfl rfl v_S_98
      have RK_S_98 := RK_fr (U := S_98) RK_S (f_S_98 63 50 (fun e => absurd e (by decide))) (fun b => f_S_98 92 b (fun e => absurd e (by decide))) (fun b => f_S_98 93 b (fun e => absurd e (by decide))) (fun b => f_S_98 94 b (fun e => absurd e (by decide)))
      have RR_S_98 := RR_fr (U := S_98) RR_S (f_S_98 63 42 (fun e => absurd e (by decide))) (fun b => f_S_98 87 b (fun e => absurd e (by decide))) (fun b => f_S_98 88 b (fun e => absurd e (by decide)))
      have SM_S_98 := SM_fr (U := S_98) SM_S (f_S_98 63 53 (fun e => absurd e (by decide))) (fun b => f_S_98 96 b (fun e => absurd e (by decide)))
      have h15 : (S_98.1 96 ((x5).toNatClampNeg)).toInt = (S.1 96 ((x5).toNatClampNeg)).toInt := ti_eq (f_S_98 96 ((x5).toNatClampNeg) (fun e => absurd e (by decide)))
      have h16 := i32 x3
      try have h17 : ((x5 + (1 : Int32))).toInt = (x5).toInt + (1) := add_iv rfl li_1 (by omega) (by omega)
      refine Sf.mono (ih x3 x4 (x5 + (1 : Int32)) S_98 I_S_98 RK_S_98 RR_S_98 SM_S_98 (by omega) (by omega) (by omega) (by omega) (by omega)) (fun U r p_h18 => ?_)
      obtain ⟨I_U, G_U, p_h18, RK_U⟩ := p_h18
      have RR_U := RR_fr (U := U) RR_S_98 (G_U 63 42 rfl) (fun b => G_U 87 b rfl) (fun b => G_U 88 b rfl)
      exact ⟨I_U, Fr.tr F_S_98 G_U rfl, trivial, RK_U⟩
theorem s_fX12_refersTo (fu : Nat) (hfu : 1000000000000000000 ≤ fu) (x1 : Int32) (x2 : Int32) (S : St) (I_S : Inv S) (RK_S : RK S) (RR_S : RR S) (g0 : 0 ≤ (x1).toInt) (g1 : (x1).toInt < 4) (g2 : 0 ≤ (x2).toInt) (g3 : (x2).toInt ≤ 299) (g4 : 0 ≤ (S.1 100 ((x1).toNatClampNeg)).toInt) : Sf (fX12_refersTo fu x1 x2 S) (fun U r => Inv U ∧ Fr [(63, 51), (63, 54), (91, 0), (92, 0), (93, 0), (94, 0), (96, 0), (105, 0)] S U ∧ (True) ∧ RK U) := by
  unfold fX12_refersTo
  have F_S : Fr [(63, 51), (63, 54), (91, 0), (92, 0), (93, 0), (94, 0), (96, 0), (105, 0)] S S := Fr.refl _ _
  have h1 : ((1 : Int32)).toInt = 1 := li_1
  have h2 : ((2 : Int32)).toInt = 2 := li_2
  have h3 : ((-1 : Int32)).toInt = -1 := li_m1
  have h4 := b_63_42 I_S
  refine Sf.bp (s_fX12_first fu hfu (1 : Int32) (2 : Int32) (-1 : Int32) S I_S) (fun r_4 p_r_4 => ?_)
  have h5 := i32 r_4
  refine Sf.i (fun c_h6 => ?_) (fun c_h6 => ?_)
  · have h7 := lt_iv rfl li_0 c_h6
    exact Sf.so ⟨I_S, F_S, trivial, RK_S⟩
  · have h8 := nlt_iv rfl li_0 c_h6
    refine Sf.g (ck_iv (by omega) (by omega)) ?_
    have h9 := i32 x1
    refine Sf.g (ck_iv (by omega) (by omega)) ?_
    have h10 := a_100 I_S ((x1).toNatClampNeg)
    have h11 := a_86 I_S ((r_4).toNatClampNeg)
    refine Sf.i (fun c_h12 => ?_) (fun c_h12 => ?_)
    · have h13 := eq_iv rfl rfl c_h12
      exact Sf.so ⟨I_S, F_S, trivial, RK_S⟩
    · have h14 := neq_iv rfl rfl c_h12
      refine Sf.g (ck_iv (by omega) (by omega)) ?_
      refine Sf.g (ck_iv (by omega) (by omega)) ?_
      refine Sf.bp (s_fX12_isIn fu hfu (S.1 86 ((r_4).toNatClampNeg)) (S.1 100 ((x1).toNatClampNeg)) S I_S (by omega) (by omega) (by omega) (by omega)) (fun r_40 p_r_40 => ?_)
      have h15 := i32 r_40
      refine Sf.i (fun c_h16 => ?_) (fun c_h16 => ?_)
      · have h17 := eq_iv rfl li_0 c_h16
        exact Sf.so ⟨I_S, F_S, trivial, RK_S⟩
      · have h18 := neq_iv rfl li_0 c_h16
        refine Sf.g (ck_iv (by omega) (by omega)) ?_
        have h19 := i32 x2
        refine Sf.bp (s_fX12_isIn fu hfu x2 (S.1 86 ((r_4).toNatClampNeg)) S I_S (by omega) (by omega) (by omega) (by omega)) (fun r_54 p_r_54 => ?_)
        have h20 := i32 r_54
        refine Sf.i (fun c_h21 => ?_) (fun c_h21 => ?_)
        · have h22 := eq_iv rfl li_0 c_h21
          exact Sf.so ⟨I_S, F_S, trivial, RK_S⟩
        · have h23 := neq_iv rfl li_0 c_h21
          refine Sf.g (ck_iv (by omega) (by omega)) ?_
          refine Sf.b (s_fX12_gathers fu hfu (1 : Int32) (S.1 86 ((r_4).toNatClampNeg)) (2 : Int32) S I_S RR_S) (fun S_70 r_70 p_r_70 => ?_)
          obtain ⟨I_S_70, G_S_70, p_r_70, SM_S_70⟩ := p_r_70
          have F_S_70 := Fr.tr F_S G_S_70 rfl
          have RK_S_70 := RK_fr (U := S_70) RK_S (G_S_70 63 50 rfl) (fun b => G_S_70 92 b rfl) (fun b => G_S_70 93 b rfl) (fun b => G_S_70 94 b rfl)
          have RR_S_70 := RR_fr (U := S_70) RR_S (G_S_70 63 42 rfl) (fun b => G_S_70 87 b rfl) (fun b => G_S_70 88 b rfl)
          have h24 := b_63_53 I_S_70
          have h25 := ti_eq (G_S_70 63 42 rfl)
          have h26 : (S_70.1 86 ((r_4).toNatClampNeg)).toInt = (S.1 86 ((r_4).toNatClampNeg)).toInt := ti_eq (G_S_70 86 ((r_4).toNatClampNeg) rfl)
          have h27 : (S_70.1 100 ((x1).toNatClampNeg)).toInt = (S.1 100 ((x1).toNatClampNeg)).toInt := ti_eq (G_S_70 100 ((x1).toNatClampNeg) rfl)
          have h28 := i32 r_70
          have h29 : ((0 : Int32)).toInt = 0 := li_0
          refine Sf.mono (s_fX12_refersTo_78 fu hfu fu r_4 r_70 (0 : Int32) S_70 I_S_70 RK_S_70 RR_S_70 SM_S_70 (by omega) (by omega) (by omega) (by omega) (by omega)) (fun U r p_h30 => ?_)
          obtain ⟨I_U, G_U, p_h30, RK_U⟩ := p_h30
          have h31 := ti_eq (G_U 63 42 rfl)
          have RR_U := RR_fr (U := U) RR_S_70 (G_U 63 42 rfl) (fun b => G_U 87 b rfl) (fun b => G_U 88 b rfl)
          exact ⟨I_U, Fr.tr F_S_70 G_U rfl, trivial, RK_U⟩
set_option maxHeartbeats 4000000 in
theorem s_fX12_takes (fu : Nat) (hfu : 1000000000000000000 ≤ fu) (S : St) (I_S : Inv S) (RK_S : RK S) (RR_S : RR S) (g0 : 1 ≤ (S.1 63 62).toInt) (g1 : 0 ≤ (S.1 100 (((S.1 63 62) - (1 : Int32))).toNatClampNeg).toInt) : Sf (fX12_takes fu S) (fun U r => Inv U ∧ Fr [(63, 51), (63, 54), (91, 0), (92, 0), (93, 0), (94, 0), (96, 0), (105, 0)] S U ∧ (True) ∧ RK U) := by
  unfold fX12_takes
  have F_S : Fr [(63, 51), (63, 54), (91, 0), (92, 0), (93, 0), (94, 0), (96, 0), (105, 0)] S S := Fr.refl _ _
  have h1 := b_63_62 I_S
  have h2 := b_63_62 I_S
  try have h3 : (((S.1 63 62) - (1 : Int32))).toInt = ((S.1 63 62)).toInt - (1) := sub_iv rfl li_1 (by omega) (by omega)
  refine Sf.g (ck_iv (by omega) (by omega)) ?_
  refine Sf.g (ck_iv (by omega) (by omega)) ?_
  have h4 : ((0 : Int32)).toInt = 0 := li_0
  have h5 := a_97 I_S ((((S.1 63 62) - (1 : Int32))).toNatClampNeg)
  refine Sf.b (s_fX12_gathers fu hfu (0 : Int32) (S.1 97 ((((S.1 63 62) - (1 : Int32))).toNatClampNeg)) (S.1 98 ((((S.1 63 62) - (1 : Int32))).toNatClampNeg)) S I_S RR_S) (fun S_25 r_25 p_r_25 => ?_)
  obtain ⟨I_S_25, G_S_25, p_r_25, SM_S_25⟩ := p_r_25
  have F_S_25 := Fr.tr F_S G_S_25 rfl
  have RK_S_25 := RK_fr (U := S_25) RK_S (G_S_25 63 50 rfl) (fun b => G_S_25 92 b rfl) (fun b => G_S_25 93 b rfl) (fun b => G_S_25 94 b rfl)
  have RR_S_25 := RR_fr (U := S_25) RR_S (G_S_25 63 42 rfl) (fun b => G_S_25 87 b rfl) (fun b => G_S_25 88 b rfl)
  have h6 := b_63_53 I_S_25
  have h7 := ti_eq (G_S_25 63 35 rfl)
  have h8 := ti_eq (G_S_25 63 42 rfl)
  have h9 := ti_eq (G_S_25 63 62 rfl)
  have h10 : (S_25.1 97 ((((S.1 63 62) - (1 : Int32))).toNatClampNeg)).toInt = (S.1 97 ((((S.1 63 62) - (1 : Int32))).toNatClampNeg)).toInt := ti_eq (G_S_25 97 ((((S.1 63 62) - (1 : Int32))).toNatClampNeg) rfl)
  have h11 : (S_25.1 97 ((((S_25.1 63 62) - (1 : Int32))).toNatClampNeg)).toInt = (S.1 97 ((((S.1 63 62) - (1 : Int32))).toNatClampNeg)).toInt := by rw [G_S_25 63 62 rfl]; exact ti_eq (G_S_25 97 ((((S.1 63 62) - (1 : Int32))).toNatClampNeg) rfl)
  have h12 : (S_25.1 98 ((((S.1 63 62) - (1 : Int32))).toNatClampNeg)).toInt = (S.1 98 ((((S.1 63 62) - (1 : Int32))).toNatClampNeg)).toInt := ti_eq (G_S_25 98 ((((S.1 63 62) - (1 : Int32))).toNatClampNeg) rfl)
  have h13 : (S_25.1 98 ((((S_25.1 63 62) - (1 : Int32))).toNatClampNeg)).toInt = (S.1 98 ((((S.1 63 62) - (1 : Int32))).toNatClampNeg)).toInt := by rw [G_S_25 63 62 rfl]; exact ti_eq (G_S_25 98 ((((S.1 63 62) - (1 : Int32))).toNatClampNeg) rfl)
  have h14 := i32 r_25
  refine Sf.i (fun c_h15 => ?_) (fun c_h15 => ?_)
  · have h16 := le_iv rfl li_0 c_h15
    refine Sf.i (fun c_h17 => ?_) (fun c_h17 => ?_)
    · have h18 := eq_iv rfl li_5 c_h17
      unfold fX12_takes_54
      have h19 : ((1 : Int32)).toInt = 1 := li_1
      have h20 : ((6 : Int32)).toInt = 6 := li_6
      have h21 : ((-1 : Int32)).toInt = -1 := li_m1
      have h22 := b_63_42 I_S_25
      refine Sf.bp (s_fX12_first fu hfu (1 : Int32) (6 : Int32) (-1 : Int32) S_25 I_S_25) (fun r_61 p_r_61 => ?_)
      refine Sf.it (by decide) ?_
      have h23 := and_15 ((S_25.1 63 35))
      refine Sf.i (fun c_h24 => ?_) (fun c_h24 => ?_)
      · have h25 := eq_iv rfl li_3 c_h24
        have h26 := i32 r_61
        refine Sf.i (fun c_h27 => ?_) (fun c_h27 => ?_)
        · have h28 := lt_iv rfl li_0 c_h27
          unfold fX12_takes_141
          refine Sf.i (fun c_h29 => ?_) (fun c_h29 => ?_)
          · have h30 := eq_iv rfl li_0 c_h29
            refine Sf.i (fun c_h31 => ?_) (fun c_h31 => ?_)
            · have h32 := eq_iv rfl li_0 c_h31
              unfold fX12_takes_178
              have hpl : 0 ≤ (S_25.1 100 (((S.1 63 62) - (1 : Int32))).toNatClampNeg).toInt := by rw [G_S_25 100 _ rfl]; exact g1
              refine Sf.b (s_fX12_refersTo fu hfu ((S.1 63 62) - (1 : Int32)) (S.1 97 ((((S.1 63 62) - (1 : Int32))).toNatClampNeg)) S_25 I_S_25 RK_S_25 RR_S_25 (by omega) (by omega) (by omega) (by omega) (by omega)) (fun S_181 r_181_ p_r_181_ => ?_)
              obtain ⟨I_S_181, G_S_181, p_r_181_, RK_S_181⟩ := p_r_181_
              have F_S_181 := Fr.tr F_S_25 G_S_181 rfl
              have RR_S_181 := RR_fr (U := S_181) RR_S_25 (G_S_181 63 42 rfl) (fun b => G_S_181 87 b rfl) (fun b => G_S_181 88 b rfl)
              have h33 := ti_eq (G_S_181 63 35 rfl)
              have h34 := ti_eq (G_S_181 63 42 rfl)
              have h35 := ti_eq (G_S_181 63 62 rfl)
              have h36 : (S_181.1 97 ((((S.1 63 62) - (1 : Int32))).toNatClampNeg)).toInt = (S_25.1 97 ((((S.1 63 62) - (1 : Int32))).toNatClampNeg)).toInt := ti_eq (G_S_181 97 ((((S.1 63 62) - (1 : Int32))).toNatClampNeg) rfl)
              have h37 : (S_181.1 97 ((((S_25.1 63 62) - (1 : Int32))).toNatClampNeg)).toInt = (S_25.1 97 ((((S_25.1 63 62) - (1 : Int32))).toNatClampNeg)).toInt := ti_eq (G_S_181 97 ((((S_25.1 63 62) - (1 : Int32))).toNatClampNeg) rfl)
              have h38 : (S_181.1 97 ((((S_181.1 63 62) - (1 : Int32))).toNatClampNeg)).toInt = (S_25.1 97 ((((S_25.1 63 62) - (1 : Int32))).toNatClampNeg)).toInt := by rw [G_S_181 63 62 rfl]; exact ti_eq (G_S_181 97 ((((S_25.1 63 62) - (1 : Int32))).toNatClampNeg) rfl)
              have h39 : (S_181.1 98 ((((S.1 63 62) - (1 : Int32))).toNatClampNeg)).toInt = (S_25.1 98 ((((S.1 63 62) - (1 : Int32))).toNatClampNeg)).toInt := ti_eq (G_S_181 98 ((((S.1 63 62) - (1 : Int32))).toNatClampNeg) rfl)
              have h40 : (S_181.1 98 ((((S_25.1 63 62) - (1 : Int32))).toNatClampNeg)).toInt = (S_25.1 98 ((((S_25.1 63 62) - (1 : Int32))).toNatClampNeg)).toInt := ti_eq (G_S_181 98 ((((S_25.1 63 62) - (1 : Int32))).toNatClampNeg) rfl)
              have h41 : (S_181.1 98 ((((S_181.1 63 62) - (1 : Int32))).toNatClampNeg)).toInt = (S_25.1 98 ((((S_25.1 63 62) - (1 : Int32))).toNatClampNeg)).toInt := by rw [G_S_181 63 62 rfl]; exact ti_eq (G_S_181 98 ((((S_25.1 63 62) - (1 : Int32))).toNatClampNeg) rfl)
              exact Sf.so ⟨I_S_181, F_S_181, trivial, RK_S_181⟩
            · have h42 := neq_iv rfl li_0 c_h31
              refine Sf.i (fun c_h43 => ?_) (fun c_h43 => ?_)
              · have h44 := lt_iv rfl li_0 c_h43
                unfold fX12_takes_178
                have hpl : 0 ≤ (S_25.1 100 (((S.1 63 62) - (1 : Int32))).toNatClampNeg).toInt := by rw [G_S_25 100 _ rfl]; exact g1
                refine Sf.b (s_fX12_refersTo fu hfu ((S.1 63 62) - (1 : Int32)) (S.1 97 ((((S.1 63 62) - (1 : Int32))).toNatClampNeg)) S_25 I_S_25 RK_S_25 RR_S_25 (by omega) (by omega) (by omega) (by omega) (by omega)) (fun S_181 r_181_ p_r_181_ => ?_)
                obtain ⟨I_S_181, G_S_181, p_r_181_, RK_S_181⟩ := p_r_181_
                have F_S_181 := Fr.tr F_S_25 G_S_181 rfl
                have RR_S_181 := RR_fr (U := S_181) RR_S_25 (G_S_181 63 42 rfl) (fun b => G_S_181 87 b rfl) (fun b => G_S_181 88 b rfl)
                have h45 := ti_eq (G_S_181 63 35 rfl)
                have h46 := ti_eq (G_S_181 63 42 rfl)
                have h47 := ti_eq (G_S_181 63 62 rfl)
                have h48 : (S_181.1 97 ((((S.1 63 62) - (1 : Int32))).toNatClampNeg)).toInt = (S_25.1 97 ((((S.1 63 62) - (1 : Int32))).toNatClampNeg)).toInt := ti_eq (G_S_181 97 ((((S.1 63 62) - (1 : Int32))).toNatClampNeg) rfl)
                have h49 : (S_181.1 97 ((((S_25.1 63 62) - (1 : Int32))).toNatClampNeg)).toInt = (S_25.1 97 ((((S_25.1 63 62) - (1 : Int32))).toNatClampNeg)).toInt := ti_eq (G_S_181 97 ((((S_25.1 63 62) - (1 : Int32))).toNatClampNeg) rfl)
                have h50 : (S_181.1 97 ((((S_181.1 63 62) - (1 : Int32))).toNatClampNeg)).toInt = (S_25.1 97 ((((S_25.1 63 62) - (1 : Int32))).toNatClampNeg)).toInt := by rw [G_S_181 63 62 rfl]; exact ti_eq (G_S_181 97 ((((S_25.1 63 62) - (1 : Int32))).toNatClampNeg) rfl)
                have h51 : (S_181.1 98 ((((S.1 63 62) - (1 : Int32))).toNatClampNeg)).toInt = (S_25.1 98 ((((S.1 63 62) - (1 : Int32))).toNatClampNeg)).toInt := ti_eq (G_S_181 98 ((((S.1 63 62) - (1 : Int32))).toNatClampNeg) rfl)
                have h52 : (S_181.1 98 ((((S_25.1 63 62) - (1 : Int32))).toNatClampNeg)).toInt = (S_25.1 98 ((((S_25.1 63 62) - (1 : Int32))).toNatClampNeg)).toInt := ti_eq (G_S_181 98 ((((S_25.1 63 62) - (1 : Int32))).toNatClampNeg) rfl)
                have h53 : (S_181.1 98 ((((S_181.1 63 62) - (1 : Int32))).toNatClampNeg)).toInt = (S_25.1 98 ((((S_25.1 63 62) - (1 : Int32))).toNatClampNeg)).toInt := by rw [G_S_181 63 62 rfl]; exact ti_eq (G_S_181 98 ((((S_25.1 63 62) - (1 : Int32))).toNatClampNeg) rfl)
                exact Sf.so ⟨I_S_181, F_S_181, trivial, RK_S_181⟩
              · have h54 := nlt_iv rfl li_0 c_h43
                refine Sf.b (s_fX12_nothing fu hfu (S.1 97 ((((S.1 63 62) - (1 : Int32))).toNatClampNeg)) (S.1 98 ((((S.1 63 62) - (1 : Int32))).toNatClampNeg)) r_61 S_25 I_S_25 RK_S_25 (by omega) (by omega)) (fun S_172 r_172_ p_r_172_ => ?_)
                obtain ⟨I_S_172, G_S_172, p_r_172_, RK_S_172⟩ := p_r_172_
                have F_S_172 := Fr.tr F_S_25 G_S_172 rfl
                have RR_S_172 := RR_fr (U := S_172) RR_S_25 (G_S_172 63 42 rfl) (fun b => G_S_172 87 b rfl) (fun b => G_S_172 88 b rfl)
                have h55 := ti_eq (G_S_172 63 35 rfl)
                have h56 := ti_eq (G_S_172 63 42 rfl)
                have h57 := ti_eq (G_S_172 63 62 rfl)
                have h58 : (S_172.1 97 ((((S.1 63 62) - (1 : Int32))).toNatClampNeg)).toInt = (S_25.1 97 ((((S.1 63 62) - (1 : Int32))).toNatClampNeg)).toInt := ti_eq (G_S_172 97 ((((S.1 63 62) - (1 : Int32))).toNatClampNeg) rfl)
                have h59 : (S_172.1 97 ((((S_25.1 63 62) - (1 : Int32))).toNatClampNeg)).toInt = (S_25.1 97 ((((S_25.1 63 62) - (1 : Int32))).toNatClampNeg)).toInt := ti_eq (G_S_172 97 ((((S_25.1 63 62) - (1 : Int32))).toNatClampNeg) rfl)
                have h60 : (S_172.1 97 ((((S_172.1 63 62) - (1 : Int32))).toNatClampNeg)).toInt = (S_25.1 97 ((((S_25.1 63 62) - (1 : Int32))).toNatClampNeg)).toInt := by rw [G_S_172 63 62 rfl]; exact ti_eq (G_S_172 97 ((((S_25.1 63 62) - (1 : Int32))).toNatClampNeg) rfl)
                have h61 : (S_172.1 98 ((((S.1 63 62) - (1 : Int32))).toNatClampNeg)).toInt = (S_25.1 98 ((((S.1 63 62) - (1 : Int32))).toNatClampNeg)).toInt := ti_eq (G_S_172 98 ((((S.1 63 62) - (1 : Int32))).toNatClampNeg) rfl)
                have h62 : (S_172.1 98 ((((S_25.1 63 62) - (1 : Int32))).toNatClampNeg)).toInt = (S_25.1 98 ((((S_25.1 63 62) - (1 : Int32))).toNatClampNeg)).toInt := ti_eq (G_S_172 98 ((((S_25.1 63 62) - (1 : Int32))).toNatClampNeg) rfl)
                have h63 : (S_172.1 98 ((((S_172.1 63 62) - (1 : Int32))).toNatClampNeg)).toInt = (S_25.1 98 ((((S_25.1 63 62) - (1 : Int32))).toNatClampNeg)).toInt := by rw [G_S_172 63 62 rfl]; exact ti_eq (G_S_172 98 ((((S_25.1 63 62) - (1 : Int32))).toNatClampNeg) rfl)
                exact Sf.so ⟨I_S_172, F_S_172, trivial, RK_S_172⟩
          · have h64 := neq_iv rfl li_0 c_h29
            unfold fX12_takes_178
            have hpl : 0 ≤ (S_25.1 100 (((S.1 63 62) - (1 : Int32))).toNatClampNeg).toInt := by rw [G_S_25 100 _ rfl]; exact g1
            refine Sf.b (s_fX12_refersTo fu hfu ((S.1 63 62) - (1 : Int32)) (S.1 97 ((((S.1 63 62) - (1 : Int32))).toNatClampNeg)) S_25 I_S_25 RK_S_25 RR_S_25 (by omega) (by omega) (by omega) (by omega) (by omega)) (fun S_181 r_181_ p_r_181_ => ?_)
            obtain ⟨I_S_181, G_S_181, p_r_181_, RK_S_181⟩ := p_r_181_
            have F_S_181 := Fr.tr F_S_25 G_S_181 rfl
            have RR_S_181 := RR_fr (U := S_181) RR_S_25 (G_S_181 63 42 rfl) (fun b => G_S_181 87 b rfl) (fun b => G_S_181 88 b rfl)
            have h65 := ti_eq (G_S_181 63 35 rfl)
            have h66 := ti_eq (G_S_181 63 42 rfl)
            have h67 := ti_eq (G_S_181 63 62 rfl)
            have h68 : (S_181.1 97 ((((S.1 63 62) - (1 : Int32))).toNatClampNeg)).toInt = (S_25.1 97 ((((S.1 63 62) - (1 : Int32))).toNatClampNeg)).toInt := ti_eq (G_S_181 97 ((((S.1 63 62) - (1 : Int32))).toNatClampNeg) rfl)
            have h69 : (S_181.1 97 ((((S_25.1 63 62) - (1 : Int32))).toNatClampNeg)).toInt = (S_25.1 97 ((((S_25.1 63 62) - (1 : Int32))).toNatClampNeg)).toInt := ti_eq (G_S_181 97 ((((S_25.1 63 62) - (1 : Int32))).toNatClampNeg) rfl)
            have h70 : (S_181.1 97 ((((S_181.1 63 62) - (1 : Int32))).toNatClampNeg)).toInt = (S_25.1 97 ((((S_25.1 63 62) - (1 : Int32))).toNatClampNeg)).toInt := by rw [G_S_181 63 62 rfl]; exact ti_eq (G_S_181 97 ((((S_25.1 63 62) - (1 : Int32))).toNatClampNeg) rfl)
            have h71 : (S_181.1 98 ((((S.1 63 62) - (1 : Int32))).toNatClampNeg)).toInt = (S_25.1 98 ((((S.1 63 62) - (1 : Int32))).toNatClampNeg)).toInt := ti_eq (G_S_181 98 ((((S.1 63 62) - (1 : Int32))).toNatClampNeg) rfl)
            have h72 : (S_181.1 98 ((((S_25.1 63 62) - (1 : Int32))).toNatClampNeg)).toInt = (S_25.1 98 ((((S_25.1 63 62) - (1 : Int32))).toNatClampNeg)).toInt := ti_eq (G_S_181 98 ((((S_25.1 63 62) - (1 : Int32))).toNatClampNeg) rfl)
            have h73 : (S_181.1 98 ((((S_181.1 63 62) - (1 : Int32))).toNatClampNeg)).toInt = (S_25.1 98 ((((S_25.1 63 62) - (1 : Int32))).toNatClampNeg)).toInt := by rw [G_S_181 63 62 rfl]; exact ti_eq (G_S_181 98 ((((S_25.1 63 62) - (1 : Int32))).toNatClampNeg) rfl)
            exact Sf.so ⟨I_S_181, F_S_181, trivial, RK_S_181⟩
        · have h74 := nlt_iv rfl li_0 c_h27
          refine Sf.b (s_fX12_nothing fu hfu (S.1 97 ((((S.1 63 62) - (1 : Int32))).toNatClampNeg)) (0 : Int32) r_61 S_25 I_S_25 RK_S_25 (by omega) (by omega)) (fun S_135 r_135_ p_r_135_ => ?_)
          obtain ⟨I_S_135, G_S_135, p_r_135_, RK_S_135⟩ := p_r_135_
          have F_S_135 := Fr.tr F_S_25 G_S_135 rfl
          have RR_S_135 := RR_fr (U := S_135) RR_S_25 (G_S_135 63 42 rfl) (fun b => G_S_135 87 b rfl) (fun b => G_S_135 88 b rfl)
          have h75 := ti_eq (G_S_135 63 35 rfl)
          have h76 := ti_eq (G_S_135 63 42 rfl)
          have h77 := ti_eq (G_S_135 63 62 rfl)
          have h78 : (S_135.1 97 ((((S.1 63 62) - (1 : Int32))).toNatClampNeg)).toInt = (S_25.1 97 ((((S.1 63 62) - (1 : Int32))).toNatClampNeg)).toInt := ti_eq (G_S_135 97 ((((S.1 63 62) - (1 : Int32))).toNatClampNeg) rfl)
          have h79 : (S_135.1 97 ((((S_25.1 63 62) - (1 : Int32))).toNatClampNeg)).toInt = (S_25.1 97 ((((S_25.1 63 62) - (1 : Int32))).toNatClampNeg)).toInt := ti_eq (G_S_135 97 ((((S_25.1 63 62) - (1 : Int32))).toNatClampNeg) rfl)
          have h80 : (S_135.1 97 ((((S_135.1 63 62) - (1 : Int32))).toNatClampNeg)).toInt = (S_25.1 97 ((((S_25.1 63 62) - (1 : Int32))).toNatClampNeg)).toInt := by rw [G_S_135 63 62 rfl]; exact ti_eq (G_S_135 97 ((((S_25.1 63 62) - (1 : Int32))).toNatClampNeg) rfl)
          have h81 : (S_135.1 98 ((((S.1 63 62) - (1 : Int32))).toNatClampNeg)).toInt = (S_25.1 98 ((((S.1 63 62) - (1 : Int32))).toNatClampNeg)).toInt := ti_eq (G_S_135 98 ((((S.1 63 62) - (1 : Int32))).toNatClampNeg) rfl)
          have h82 : (S_135.1 98 ((((S_25.1 63 62) - (1 : Int32))).toNatClampNeg)).toInt = (S_25.1 98 ((((S_25.1 63 62) - (1 : Int32))).toNatClampNeg)).toInt := ti_eq (G_S_135 98 ((((S_25.1 63 62) - (1 : Int32))).toNatClampNeg) rfl)
          have h83 : (S_135.1 98 ((((S_135.1 63 62) - (1 : Int32))).toNatClampNeg)).toInt = (S_25.1 98 ((((S_25.1 63 62) - (1 : Int32))).toNatClampNeg)).toInt := by rw [G_S_135 63 62 rfl]; exact ti_eq (G_S_135 98 ((((S_25.1 63 62) - (1 : Int32))).toNatClampNeg) rfl)
          exact Sf.so ⟨I_S_135, F_S_135, trivial, RK_S_135⟩
      · have h84 := neq_iv rfl li_3 c_h24
        unfold fX12_takes_141
        refine Sf.i (fun c_h85 => ?_) (fun c_h85 => ?_)
        · have h86 := eq_iv rfl li_0 c_h85
          refine Sf.i (fun c_h87 => ?_) (fun c_h87 => ?_)
          · have h88 := eq_iv rfl li_0 c_h87
            unfold fX12_takes_178
            have hpl : 0 ≤ (S_25.1 100 (((S.1 63 62) - (1 : Int32))).toNatClampNeg).toInt := by rw [G_S_25 100 _ rfl]; exact g1
            refine Sf.b (s_fX12_refersTo fu hfu ((S.1 63 62) - (1 : Int32)) (S.1 97 ((((S.1 63 62) - (1 : Int32))).toNatClampNeg)) S_25 I_S_25 RK_S_25 RR_S_25 (by omega) (by omega) (by omega) (by omega) (by omega)) (fun S_181 r_181_ p_r_181_ => ?_)
            obtain ⟨I_S_181, G_S_181, p_r_181_, RK_S_181⟩ := p_r_181_
            have F_S_181 := Fr.tr F_S_25 G_S_181 rfl
            have RR_S_181 := RR_fr (U := S_181) RR_S_25 (G_S_181 63 42 rfl) (fun b => G_S_181 87 b rfl) (fun b => G_S_181 88 b rfl)
            have h89 := ti_eq (G_S_181 63 35 rfl)
            have h90 := ti_eq (G_S_181 63 42 rfl)
            have h91 := ti_eq (G_S_181 63 62 rfl)
            have h92 : (S_181.1 97 ((((S.1 63 62) - (1 : Int32))).toNatClampNeg)).toInt = (S_25.1 97 ((((S.1 63 62) - (1 : Int32))).toNatClampNeg)).toInt := ti_eq (G_S_181 97 ((((S.1 63 62) - (1 : Int32))).toNatClampNeg) rfl)
            have h93 : (S_181.1 97 ((((S_25.1 63 62) - (1 : Int32))).toNatClampNeg)).toInt = (S_25.1 97 ((((S_25.1 63 62) - (1 : Int32))).toNatClampNeg)).toInt := ti_eq (G_S_181 97 ((((S_25.1 63 62) - (1 : Int32))).toNatClampNeg) rfl)
            have h94 : (S_181.1 97 ((((S_181.1 63 62) - (1 : Int32))).toNatClampNeg)).toInt = (S_25.1 97 ((((S_25.1 63 62) - (1 : Int32))).toNatClampNeg)).toInt := by rw [G_S_181 63 62 rfl]; exact ti_eq (G_S_181 97 ((((S_25.1 63 62) - (1 : Int32))).toNatClampNeg) rfl)
            have h95 : (S_181.1 98 ((((S.1 63 62) - (1 : Int32))).toNatClampNeg)).toInt = (S_25.1 98 ((((S.1 63 62) - (1 : Int32))).toNatClampNeg)).toInt := ti_eq (G_S_181 98 ((((S.1 63 62) - (1 : Int32))).toNatClampNeg) rfl)
            have h96 : (S_181.1 98 ((((S_25.1 63 62) - (1 : Int32))).toNatClampNeg)).toInt = (S_25.1 98 ((((S_25.1 63 62) - (1 : Int32))).toNatClampNeg)).toInt := ti_eq (G_S_181 98 ((((S_25.1 63 62) - (1 : Int32))).toNatClampNeg) rfl)
            have h97 : (S_181.1 98 ((((S_181.1 63 62) - (1 : Int32))).toNatClampNeg)).toInt = (S_25.1 98 ((((S_25.1 63 62) - (1 : Int32))).toNatClampNeg)).toInt := by rw [G_S_181 63 62 rfl]; exact ti_eq (G_S_181 98 ((((S_25.1 63 62) - (1 : Int32))).toNatClampNeg) rfl)
            exact Sf.so ⟨I_S_181, F_S_181, trivial, RK_S_181⟩
          · have h98 := neq_iv rfl li_0 c_h87
            have h99 := i32 r_61
            refine Sf.i (fun c_h100 => ?_) (fun c_h100 => ?_)
            · have h101 := lt_iv rfl li_0 c_h100
              unfold fX12_takes_178
              have hpl : 0 ≤ (S_25.1 100 (((S.1 63 62) - (1 : Int32))).toNatClampNeg).toInt := by rw [G_S_25 100 _ rfl]; exact g1
              refine Sf.b (s_fX12_refersTo fu hfu ((S.1 63 62) - (1 : Int32)) (S.1 97 ((((S.1 63 62) - (1 : Int32))).toNatClampNeg)) S_25 I_S_25 RK_S_25 RR_S_25 (by omega) (by omega) (by omega) (by omega) (by omega)) (fun S_181 r_181_ p_r_181_ => ?_)
              obtain ⟨I_S_181, G_S_181, p_r_181_, RK_S_181⟩ := p_r_181_
              have F_S_181 := Fr.tr F_S_25 G_S_181 rfl
              have RR_S_181 := RR_fr (U := S_181) RR_S_25 (G_S_181 63 42 rfl) (fun b => G_S_181 87 b rfl) (fun b => G_S_181 88 b rfl)
              have h102 := ti_eq (G_S_181 63 35 rfl)
              have h103 := ti_eq (G_S_181 63 42 rfl)
              have h104 := ti_eq (G_S_181 63 62 rfl)
              have h105 : (S_181.1 97 ((((S.1 63 62) - (1 : Int32))).toNatClampNeg)).toInt = (S_25.1 97 ((((S.1 63 62) - (1 : Int32))).toNatClampNeg)).toInt := ti_eq (G_S_181 97 ((((S.1 63 62) - (1 : Int32))).toNatClampNeg) rfl)
              have h106 : (S_181.1 97 ((((S_25.1 63 62) - (1 : Int32))).toNatClampNeg)).toInt = (S_25.1 97 ((((S_25.1 63 62) - (1 : Int32))).toNatClampNeg)).toInt := ti_eq (G_S_181 97 ((((S_25.1 63 62) - (1 : Int32))).toNatClampNeg) rfl)
              have h107 : (S_181.1 97 ((((S_181.1 63 62) - (1 : Int32))).toNatClampNeg)).toInt = (S_25.1 97 ((((S_25.1 63 62) - (1 : Int32))).toNatClampNeg)).toInt := by rw [G_S_181 63 62 rfl]; exact ti_eq (G_S_181 97 ((((S_25.1 63 62) - (1 : Int32))).toNatClampNeg) rfl)
              have h108 : (S_181.1 98 ((((S.1 63 62) - (1 : Int32))).toNatClampNeg)).toInt = (S_25.1 98 ((((S.1 63 62) - (1 : Int32))).toNatClampNeg)).toInt := ti_eq (G_S_181 98 ((((S.1 63 62) - (1 : Int32))).toNatClampNeg) rfl)
              have h109 : (S_181.1 98 ((((S_25.1 63 62) - (1 : Int32))).toNatClampNeg)).toInt = (S_25.1 98 ((((S_25.1 63 62) - (1 : Int32))).toNatClampNeg)).toInt := ti_eq (G_S_181 98 ((((S_25.1 63 62) - (1 : Int32))).toNatClampNeg) rfl)
              have h110 : (S_181.1 98 ((((S_181.1 63 62) - (1 : Int32))).toNatClampNeg)).toInt = (S_25.1 98 ((((S_25.1 63 62) - (1 : Int32))).toNatClampNeg)).toInt := by rw [G_S_181 63 62 rfl]; exact ti_eq (G_S_181 98 ((((S_25.1 63 62) - (1 : Int32))).toNatClampNeg) rfl)
              exact Sf.so ⟨I_S_181, F_S_181, trivial, RK_S_181⟩
            · have h111 := nlt_iv rfl li_0 c_h100
              refine Sf.b (s_fX12_nothing fu hfu (S.1 97 ((((S.1 63 62) - (1 : Int32))).toNatClampNeg)) (S.1 98 ((((S.1 63 62) - (1 : Int32))).toNatClampNeg)) r_61 S_25 I_S_25 RK_S_25 (by omega) (by omega)) (fun S_172 r_172_ p_r_172_ => ?_)
              obtain ⟨I_S_172, G_S_172, p_r_172_, RK_S_172⟩ := p_r_172_
              have F_S_172 := Fr.tr F_S_25 G_S_172 rfl
              have RR_S_172 := RR_fr (U := S_172) RR_S_25 (G_S_172 63 42 rfl) (fun b => G_S_172 87 b rfl) (fun b => G_S_172 88 b rfl)
              have h112 := ti_eq (G_S_172 63 35 rfl)
              have h113 := ti_eq (G_S_172 63 42 rfl)
              have h114 := ti_eq (G_S_172 63 62 rfl)
              have h115 : (S_172.1 97 ((((S.1 63 62) - (1 : Int32))).toNatClampNeg)).toInt = (S_25.1 97 ((((S.1 63 62) - (1 : Int32))).toNatClampNeg)).toInt := ti_eq (G_S_172 97 ((((S.1 63 62) - (1 : Int32))).toNatClampNeg) rfl)
              have h116 : (S_172.1 97 ((((S_25.1 63 62) - (1 : Int32))).toNatClampNeg)).toInt = (S_25.1 97 ((((S_25.1 63 62) - (1 : Int32))).toNatClampNeg)).toInt := ti_eq (G_S_172 97 ((((S_25.1 63 62) - (1 : Int32))).toNatClampNeg) rfl)
              have h117 : (S_172.1 97 ((((S_172.1 63 62) - (1 : Int32))).toNatClampNeg)).toInt = (S_25.1 97 ((((S_25.1 63 62) - (1 : Int32))).toNatClampNeg)).toInt := by rw [G_S_172 63 62 rfl]; exact ti_eq (G_S_172 97 ((((S_25.1 63 62) - (1 : Int32))).toNatClampNeg) rfl)
              have h118 : (S_172.1 98 ((((S.1 63 62) - (1 : Int32))).toNatClampNeg)).toInt = (S_25.1 98 ((((S.1 63 62) - (1 : Int32))).toNatClampNeg)).toInt := ti_eq (G_S_172 98 ((((S.1 63 62) - (1 : Int32))).toNatClampNeg) rfl)
              have h119 : (S_172.1 98 ((((S_25.1 63 62) - (1 : Int32))).toNatClampNeg)).toInt = (S_25.1 98 ((((S_25.1 63 62) - (1 : Int32))).toNatClampNeg)).toInt := ti_eq (G_S_172 98 ((((S_25.1 63 62) - (1 : Int32))).toNatClampNeg) rfl)
              have h120 : (S_172.1 98 ((((S_172.1 63 62) - (1 : Int32))).toNatClampNeg)).toInt = (S_25.1 98 ((((S_25.1 63 62) - (1 : Int32))).toNatClampNeg)).toInt := by rw [G_S_172 63 62 rfl]; exact ti_eq (G_S_172 98 ((((S_25.1 63 62) - (1 : Int32))).toNatClampNeg) rfl)
              exact Sf.so ⟨I_S_172, F_S_172, trivial, RK_S_172⟩
        · have h121 := neq_iv rfl li_0 c_h85
          unfold fX12_takes_178
          have hpl : 0 ≤ (S_25.1 100 (((S.1 63 62) - (1 : Int32))).toNatClampNeg).toInt := by rw [G_S_25 100 _ rfl]; exact g1
          refine Sf.b (s_fX12_refersTo fu hfu ((S.1 63 62) - (1 : Int32)) (S.1 97 ((((S.1 63 62) - (1 : Int32))).toNatClampNeg)) S_25 I_S_25 RK_S_25 RR_S_25 (by omega) (by omega) (by omega) (by omega) (by omega)) (fun S_181 r_181_ p_r_181_ => ?_)
          obtain ⟨I_S_181, G_S_181, p_r_181_, RK_S_181⟩ := p_r_181_
          have F_S_181 := Fr.tr F_S_25 G_S_181 rfl
          have RR_S_181 := RR_fr (U := S_181) RR_S_25 (G_S_181 63 42 rfl) (fun b => G_S_181 87 b rfl) (fun b => G_S_181 88 b rfl)
          have h122 := ti_eq (G_S_181 63 35 rfl)
          have h123 := ti_eq (G_S_181 63 42 rfl)
          have h124 := ti_eq (G_S_181 63 62 rfl)
          have h125 : (S_181.1 97 ((((S.1 63 62) - (1 : Int32))).toNatClampNeg)).toInt = (S_25.1 97 ((((S.1 63 62) - (1 : Int32))).toNatClampNeg)).toInt := ti_eq (G_S_181 97 ((((S.1 63 62) - (1 : Int32))).toNatClampNeg) rfl)
          have h126 : (S_181.1 97 ((((S_25.1 63 62) - (1 : Int32))).toNatClampNeg)).toInt = (S_25.1 97 ((((S_25.1 63 62) - (1 : Int32))).toNatClampNeg)).toInt := ti_eq (G_S_181 97 ((((S_25.1 63 62) - (1 : Int32))).toNatClampNeg) rfl)
          have h127 : (S_181.1 97 ((((S_181.1 63 62) - (1 : Int32))).toNatClampNeg)).toInt = (S_25.1 97 ((((S_25.1 63 62) - (1 : Int32))).toNatClampNeg)).toInt := by rw [G_S_181 63 62 rfl]; exact ti_eq (G_S_181 97 ((((S_25.1 63 62) - (1 : Int32))).toNatClampNeg) rfl)
          have h128 : (S_181.1 98 ((((S.1 63 62) - (1 : Int32))).toNatClampNeg)).toInt = (S_25.1 98 ((((S.1 63 62) - (1 : Int32))).toNatClampNeg)).toInt := ti_eq (G_S_181 98 ((((S.1 63 62) - (1 : Int32))).toNatClampNeg) rfl)
          have h129 : (S_181.1 98 ((((S_25.1 63 62) - (1 : Int32))).toNatClampNeg)).toInt = (S_25.1 98 ((((S_25.1 63 62) - (1 : Int32))).toNatClampNeg)).toInt := ti_eq (G_S_181 98 ((((S_25.1 63 62) - (1 : Int32))).toNatClampNeg) rfl)
          have h130 : (S_181.1 98 ((((S_181.1 63 62) - (1 : Int32))).toNatClampNeg)).toInt = (S_25.1 98 ((((S_25.1 63 62) - (1 : Int32))).toNatClampNeg)).toInt := by rw [G_S_181 63 62 rfl]; exact ti_eq (G_S_181 98 ((((S_25.1 63 62) - (1 : Int32))).toNatClampNeg) rfl)
          exact Sf.so ⟨I_S_181, F_S_181, trivial, RK_S_181⟩
    · have h131 := neq_iv rfl li_5 c_h17
      have h132 : ((5 : Int32)).toInt = 5 := li_5
      have h133 := b_63_42 I_S_25
      refine Sf.bp (s_fX12_first fu hfu (0 : Int32) (5 : Int32) (S.1 97 ((((S.1 63 62) - (1 : Int32))).toNatClampNeg)) S_25 I_S_25) (fun r_51 p_r_51 => ?_)
      unfold fX12_takes_54
      have h134 : ((1 : Int32)).toInt = 1 := li_1
      have h135 : ((6 : Int32)).toInt = 6 := li_6
      have h136 : ((-1 : Int32)).toInt = -1 := li_m1
      refine Sf.bp (s_fX12_first fu hfu (1 : Int32) (6 : Int32) (-1 : Int32) S_25 I_S_25) (fun r_61 p_r_61 => ?_)
      have h137 := i32 r_51
      refine Sf.i (fun c_h138 => ?_) (fun c_h138 => ?_)
      · have h139 := lt_iv rfl li_0 c_h138
        have h140 := and_15 ((S_25.1 63 35))
        refine Sf.i (fun c_h141 => ?_) (fun c_h141 => ?_)
        · have h142 := eq_iv rfl li_3 c_h141
          have h143 := i32 r_61
          refine Sf.i (fun c_h144 => ?_) (fun c_h144 => ?_)
          · have h145 := lt_iv rfl li_0 c_h144
            unfold fX12_takes_141
            refine Sf.i (fun c_h146 => ?_) (fun c_h146 => ?_)
            · have h147 := eq_iv rfl li_0 c_h146
              refine Sf.i (fun c_h148 => ?_) (fun c_h148 => ?_)
              · have h149 := eq_iv rfl li_0 c_h148
                unfold fX12_takes_178
                have hpl : 0 ≤ (S_25.1 100 (((S.1 63 62) - (1 : Int32))).toNatClampNeg).toInt := by rw [G_S_25 100 _ rfl]; exact g1
                refine Sf.b (s_fX12_refersTo fu hfu ((S.1 63 62) - (1 : Int32)) (S.1 97 ((((S.1 63 62) - (1 : Int32))).toNatClampNeg)) S_25 I_S_25 RK_S_25 RR_S_25 (by omega) (by omega) (by omega) (by omega) (by omega)) (fun S_181 r_181_ p_r_181_ => ?_)
                obtain ⟨I_S_181, G_S_181, p_r_181_, RK_S_181⟩ := p_r_181_
                have F_S_181 := Fr.tr F_S_25 G_S_181 rfl
                have RR_S_181 := RR_fr (U := S_181) RR_S_25 (G_S_181 63 42 rfl) (fun b => G_S_181 87 b rfl) (fun b => G_S_181 88 b rfl)
                have h150 := ti_eq (G_S_181 63 35 rfl)
                have h151 := ti_eq (G_S_181 63 42 rfl)
                have h152 := ti_eq (G_S_181 63 62 rfl)
                have h153 : (S_181.1 97 ((((S.1 63 62) - (1 : Int32))).toNatClampNeg)).toInt = (S_25.1 97 ((((S.1 63 62) - (1 : Int32))).toNatClampNeg)).toInt := ti_eq (G_S_181 97 ((((S.1 63 62) - (1 : Int32))).toNatClampNeg) rfl)
                have h154 : (S_181.1 97 ((((S_25.1 63 62) - (1 : Int32))).toNatClampNeg)).toInt = (S_25.1 97 ((((S_25.1 63 62) - (1 : Int32))).toNatClampNeg)).toInt := ti_eq (G_S_181 97 ((((S_25.1 63 62) - (1 : Int32))).toNatClampNeg) rfl)
                have h155 : (S_181.1 97 ((((S_181.1 63 62) - (1 : Int32))).toNatClampNeg)).toInt = (S_25.1 97 ((((S_25.1 63 62) - (1 : Int32))).toNatClampNeg)).toInt := by rw [G_S_181 63 62 rfl]; exact ti_eq (G_S_181 97 ((((S_25.1 63 62) - (1 : Int32))).toNatClampNeg) rfl)
                have h156 : (S_181.1 98 ((((S.1 63 62) - (1 : Int32))).toNatClampNeg)).toInt = (S_25.1 98 ((((S.1 63 62) - (1 : Int32))).toNatClampNeg)).toInt := ti_eq (G_S_181 98 ((((S.1 63 62) - (1 : Int32))).toNatClampNeg) rfl)
                have h157 : (S_181.1 98 ((((S_25.1 63 62) - (1 : Int32))).toNatClampNeg)).toInt = (S_25.1 98 ((((S_25.1 63 62) - (1 : Int32))).toNatClampNeg)).toInt := ti_eq (G_S_181 98 ((((S_25.1 63 62) - (1 : Int32))).toNatClampNeg) rfl)
                have h158 : (S_181.1 98 ((((S_181.1 63 62) - (1 : Int32))).toNatClampNeg)).toInt = (S_25.1 98 ((((S_25.1 63 62) - (1 : Int32))).toNatClampNeg)).toInt := by rw [G_S_181 63 62 rfl]; exact ti_eq (G_S_181 98 ((((S_25.1 63 62) - (1 : Int32))).toNatClampNeg) rfl)
                exact Sf.so ⟨I_S_181, F_S_181, trivial, RK_S_181⟩
              · have h159 := neq_iv rfl li_0 c_h148
                refine Sf.i (fun c_h160 => ?_) (fun c_h160 => ?_)
                · have h161 := lt_iv rfl li_0 c_h160
                  unfold fX12_takes_178
                  have hpl : 0 ≤ (S_25.1 100 (((S.1 63 62) - (1 : Int32))).toNatClampNeg).toInt := by rw [G_S_25 100 _ rfl]; exact g1
                  refine Sf.b (s_fX12_refersTo fu hfu ((S.1 63 62) - (1 : Int32)) (S.1 97 ((((S.1 63 62) - (1 : Int32))).toNatClampNeg)) S_25 I_S_25 RK_S_25 RR_S_25 (by omega) (by omega) (by omega) (by omega) (by omega)) (fun S_181 r_181_ p_r_181_ => ?_)
                  obtain ⟨I_S_181, G_S_181, p_r_181_, RK_S_181⟩ := p_r_181_
                  have F_S_181 := Fr.tr F_S_25 G_S_181 rfl
                  have RR_S_181 := RR_fr (U := S_181) RR_S_25 (G_S_181 63 42 rfl) (fun b => G_S_181 87 b rfl) (fun b => G_S_181 88 b rfl)
                  have h162 := ti_eq (G_S_181 63 35 rfl)
                  have h163 := ti_eq (G_S_181 63 42 rfl)
                  have h164 := ti_eq (G_S_181 63 62 rfl)
                  have h165 : (S_181.1 97 ((((S.1 63 62) - (1 : Int32))).toNatClampNeg)).toInt = (S_25.1 97 ((((S.1 63 62) - (1 : Int32))).toNatClampNeg)).toInt := ti_eq (G_S_181 97 ((((S.1 63 62) - (1 : Int32))).toNatClampNeg) rfl)
                  have h166 : (S_181.1 97 ((((S_25.1 63 62) - (1 : Int32))).toNatClampNeg)).toInt = (S_25.1 97 ((((S_25.1 63 62) - (1 : Int32))).toNatClampNeg)).toInt := ti_eq (G_S_181 97 ((((S_25.1 63 62) - (1 : Int32))).toNatClampNeg) rfl)
                  have h167 : (S_181.1 97 ((((S_181.1 63 62) - (1 : Int32))).toNatClampNeg)).toInt = (S_25.1 97 ((((S_25.1 63 62) - (1 : Int32))).toNatClampNeg)).toInt := by rw [G_S_181 63 62 rfl]; exact ti_eq (G_S_181 97 ((((S_25.1 63 62) - (1 : Int32))).toNatClampNeg) rfl)
                  have h168 : (S_181.1 98 ((((S.1 63 62) - (1 : Int32))).toNatClampNeg)).toInt = (S_25.1 98 ((((S.1 63 62) - (1 : Int32))).toNatClampNeg)).toInt := ti_eq (G_S_181 98 ((((S.1 63 62) - (1 : Int32))).toNatClampNeg) rfl)
                  have h169 : (S_181.1 98 ((((S_25.1 63 62) - (1 : Int32))).toNatClampNeg)).toInt = (S_25.1 98 ((((S_25.1 63 62) - (1 : Int32))).toNatClampNeg)).toInt := ti_eq (G_S_181 98 ((((S_25.1 63 62) - (1 : Int32))).toNatClampNeg) rfl)
                  have h170 : (S_181.1 98 ((((S_181.1 63 62) - (1 : Int32))).toNatClampNeg)).toInt = (S_25.1 98 ((((S_25.1 63 62) - (1 : Int32))).toNatClampNeg)).toInt := by rw [G_S_181 63 62 rfl]; exact ti_eq (G_S_181 98 ((((S_25.1 63 62) - (1 : Int32))).toNatClampNeg) rfl)
                  exact Sf.so ⟨I_S_181, F_S_181, trivial, RK_S_181⟩
                · have h171 := nlt_iv rfl li_0 c_h160
                  refine Sf.b (s_fX12_nothing fu hfu (S.1 97 ((((S.1 63 62) - (1 : Int32))).toNatClampNeg)) (S.1 98 ((((S.1 63 62) - (1 : Int32))).toNatClampNeg)) r_61 S_25 I_S_25 RK_S_25 (by omega) (by omega)) (fun S_172 r_172_ p_r_172_ => ?_)
                  obtain ⟨I_S_172, G_S_172, p_r_172_, RK_S_172⟩ := p_r_172_
                  have F_S_172 := Fr.tr F_S_25 G_S_172 rfl
                  have RR_S_172 := RR_fr (U := S_172) RR_S_25 (G_S_172 63 42 rfl) (fun b => G_S_172 87 b rfl) (fun b => G_S_172 88 b rfl)
                  have h172 := ti_eq (G_S_172 63 35 rfl)
                  have h173 := ti_eq (G_S_172 63 42 rfl)
                  have h174 := ti_eq (G_S_172 63 62 rfl)
                  have h175 : (S_172.1 97 ((((S.1 63 62) - (1 : Int32))).toNatClampNeg)).toInt = (S_25.1 97 ((((S.1 63 62) - (1 : Int32))).toNatClampNeg)).toInt := ti_eq (G_S_172 97 ((((S.1 63 62) - (1 : Int32))).toNatClampNeg) rfl)
                  have h176 : (S_172.1 97 ((((S_25.1 63 62) - (1 : Int32))).toNatClampNeg)).toInt = (S_25.1 97 ((((S_25.1 63 62) - (1 : Int32))).toNatClampNeg)).toInt := ti_eq (G_S_172 97 ((((S_25.1 63 62) - (1 : Int32))).toNatClampNeg) rfl)
                  have h177 : (S_172.1 97 ((((S_172.1 63 62) - (1 : Int32))).toNatClampNeg)).toInt = (S_25.1 97 ((((S_25.1 63 62) - (1 : Int32))).toNatClampNeg)).toInt := by rw [G_S_172 63 62 rfl]; exact ti_eq (G_S_172 97 ((((S_25.1 63 62) - (1 : Int32))).toNatClampNeg) rfl)
                  have h178 : (S_172.1 98 ((((S.1 63 62) - (1 : Int32))).toNatClampNeg)).toInt = (S_25.1 98 ((((S.1 63 62) - (1 : Int32))).toNatClampNeg)).toInt := ti_eq (G_S_172 98 ((((S.1 63 62) - (1 : Int32))).toNatClampNeg) rfl)
                  have h179 : (S_172.1 98 ((((S_25.1 63 62) - (1 : Int32))).toNatClampNeg)).toInt = (S_25.1 98 ((((S_25.1 63 62) - (1 : Int32))).toNatClampNeg)).toInt := ti_eq (G_S_172 98 ((((S_25.1 63 62) - (1 : Int32))).toNatClampNeg) rfl)
                  have h180 : (S_172.1 98 ((((S_172.1 63 62) - (1 : Int32))).toNatClampNeg)).toInt = (S_25.1 98 ((((S_25.1 63 62) - (1 : Int32))).toNatClampNeg)).toInt := by rw [G_S_172 63 62 rfl]; exact ti_eq (G_S_172 98 ((((S_25.1 63 62) - (1 : Int32))).toNatClampNeg) rfl)
                  exact Sf.so ⟨I_S_172, F_S_172, trivial, RK_S_172⟩
            · have h181 := neq_iv rfl li_0 c_h146
              unfold fX12_takes_178
              have hpl : 0 ≤ (S_25.1 100 (((S.1 63 62) - (1 : Int32))).toNatClampNeg).toInt := by rw [G_S_25 100 _ rfl]; exact g1
              refine Sf.b (s_fX12_refersTo fu hfu ((S.1 63 62) - (1 : Int32)) (S.1 97 ((((S.1 63 62) - (1 : Int32))).toNatClampNeg)) S_25 I_S_25 RK_S_25 RR_S_25 (by omega) (by omega) (by omega) (by omega) (by omega)) (fun S_181 r_181_ p_r_181_ => ?_)
              obtain ⟨I_S_181, G_S_181, p_r_181_, RK_S_181⟩ := p_r_181_
              have F_S_181 := Fr.tr F_S_25 G_S_181 rfl
              have RR_S_181 := RR_fr (U := S_181) RR_S_25 (G_S_181 63 42 rfl) (fun b => G_S_181 87 b rfl) (fun b => G_S_181 88 b rfl)
              have h182 := ti_eq (G_S_181 63 35 rfl)
              have h183 := ti_eq (G_S_181 63 42 rfl)
              have h184 := ti_eq (G_S_181 63 62 rfl)
              have h185 : (S_181.1 97 ((((S.1 63 62) - (1 : Int32))).toNatClampNeg)).toInt = (S_25.1 97 ((((S.1 63 62) - (1 : Int32))).toNatClampNeg)).toInt := ti_eq (G_S_181 97 ((((S.1 63 62) - (1 : Int32))).toNatClampNeg) rfl)
              have h186 : (S_181.1 97 ((((S_25.1 63 62) - (1 : Int32))).toNatClampNeg)).toInt = (S_25.1 97 ((((S_25.1 63 62) - (1 : Int32))).toNatClampNeg)).toInt := ti_eq (G_S_181 97 ((((S_25.1 63 62) - (1 : Int32))).toNatClampNeg) rfl)
              have h187 : (S_181.1 97 ((((S_181.1 63 62) - (1 : Int32))).toNatClampNeg)).toInt = (S_25.1 97 ((((S_25.1 63 62) - (1 : Int32))).toNatClampNeg)).toInt := by rw [G_S_181 63 62 rfl]; exact ti_eq (G_S_181 97 ((((S_25.1 63 62) - (1 : Int32))).toNatClampNeg) rfl)
              have h188 : (S_181.1 98 ((((S.1 63 62) - (1 : Int32))).toNatClampNeg)).toInt = (S_25.1 98 ((((S.1 63 62) - (1 : Int32))).toNatClampNeg)).toInt := ti_eq (G_S_181 98 ((((S.1 63 62) - (1 : Int32))).toNatClampNeg) rfl)
              have h189 : (S_181.1 98 ((((S_25.1 63 62) - (1 : Int32))).toNatClampNeg)).toInt = (S_25.1 98 ((((S_25.1 63 62) - (1 : Int32))).toNatClampNeg)).toInt := ti_eq (G_S_181 98 ((((S_25.1 63 62) - (1 : Int32))).toNatClampNeg) rfl)
              have h190 : (S_181.1 98 ((((S_181.1 63 62) - (1 : Int32))).toNatClampNeg)).toInt = (S_25.1 98 ((((S_25.1 63 62) - (1 : Int32))).toNatClampNeg)).toInt := by rw [G_S_181 63 62 rfl]; exact ti_eq (G_S_181 98 ((((S_25.1 63 62) - (1 : Int32))).toNatClampNeg) rfl)
              exact Sf.so ⟨I_S_181, F_S_181, trivial, RK_S_181⟩
          · have h191 := nlt_iv rfl li_0 c_h144
            refine Sf.b (s_fX12_nothing fu hfu (S.1 97 ((((S.1 63 62) - (1 : Int32))).toNatClampNeg)) (0 : Int32) r_61 S_25 I_S_25 RK_S_25 (by omega) (by omega)) (fun S_135 r_135_ p_r_135_ => ?_)
            obtain ⟨I_S_135, G_S_135, p_r_135_, RK_S_135⟩ := p_r_135_
            have F_S_135 := Fr.tr F_S_25 G_S_135 rfl
            have RR_S_135 := RR_fr (U := S_135) RR_S_25 (G_S_135 63 42 rfl) (fun b => G_S_135 87 b rfl) (fun b => G_S_135 88 b rfl)
            have h192 := ti_eq (G_S_135 63 35 rfl)
            have h193 := ti_eq (G_S_135 63 42 rfl)
            have h194 := ti_eq (G_S_135 63 62 rfl)
            have h195 : (S_135.1 97 ((((S.1 63 62) - (1 : Int32))).toNatClampNeg)).toInt = (S_25.1 97 ((((S.1 63 62) - (1 : Int32))).toNatClampNeg)).toInt := ti_eq (G_S_135 97 ((((S.1 63 62) - (1 : Int32))).toNatClampNeg) rfl)
            have h196 : (S_135.1 97 ((((S_25.1 63 62) - (1 : Int32))).toNatClampNeg)).toInt = (S_25.1 97 ((((S_25.1 63 62) - (1 : Int32))).toNatClampNeg)).toInt := ti_eq (G_S_135 97 ((((S_25.1 63 62) - (1 : Int32))).toNatClampNeg) rfl)
            have h197 : (S_135.1 97 ((((S_135.1 63 62) - (1 : Int32))).toNatClampNeg)).toInt = (S_25.1 97 ((((S_25.1 63 62) - (1 : Int32))).toNatClampNeg)).toInt := by rw [G_S_135 63 62 rfl]; exact ti_eq (G_S_135 97 ((((S_25.1 63 62) - (1 : Int32))).toNatClampNeg) rfl)
            have h198 : (S_135.1 98 ((((S.1 63 62) - (1 : Int32))).toNatClampNeg)).toInt = (S_25.1 98 ((((S.1 63 62) - (1 : Int32))).toNatClampNeg)).toInt := ti_eq (G_S_135 98 ((((S.1 63 62) - (1 : Int32))).toNatClampNeg) rfl)
            have h199 : (S_135.1 98 ((((S_25.1 63 62) - (1 : Int32))).toNatClampNeg)).toInt = (S_25.1 98 ((((S_25.1 63 62) - (1 : Int32))).toNatClampNeg)).toInt := ti_eq (G_S_135 98 ((((S_25.1 63 62) - (1 : Int32))).toNatClampNeg) rfl)
            have h200 : (S_135.1 98 ((((S_135.1 63 62) - (1 : Int32))).toNatClampNeg)).toInt = (S_25.1 98 ((((S_25.1 63 62) - (1 : Int32))).toNatClampNeg)).toInt := by rw [G_S_135 63 62 rfl]; exact ti_eq (G_S_135 98 ((((S_25.1 63 62) - (1 : Int32))).toNatClampNeg) rfl)
            exact Sf.so ⟨I_S_135, F_S_135, trivial, RK_S_135⟩
        · have h201 := neq_iv rfl li_3 c_h141
          unfold fX12_takes_141
          refine Sf.i (fun c_h202 => ?_) (fun c_h202 => ?_)
          · have h203 := eq_iv rfl li_0 c_h202
            refine Sf.i (fun c_h204 => ?_) (fun c_h204 => ?_)
            · have h205 := eq_iv rfl li_0 c_h204
              unfold fX12_takes_178
              have hpl : 0 ≤ (S_25.1 100 (((S.1 63 62) - (1 : Int32))).toNatClampNeg).toInt := by rw [G_S_25 100 _ rfl]; exact g1
              refine Sf.b (s_fX12_refersTo fu hfu ((S.1 63 62) - (1 : Int32)) (S.1 97 ((((S.1 63 62) - (1 : Int32))).toNatClampNeg)) S_25 I_S_25 RK_S_25 RR_S_25 (by omega) (by omega) (by omega) (by omega) (by omega)) (fun S_181 r_181_ p_r_181_ => ?_)
              obtain ⟨I_S_181, G_S_181, p_r_181_, RK_S_181⟩ := p_r_181_
              have F_S_181 := Fr.tr F_S_25 G_S_181 rfl
              have RR_S_181 := RR_fr (U := S_181) RR_S_25 (G_S_181 63 42 rfl) (fun b => G_S_181 87 b rfl) (fun b => G_S_181 88 b rfl)
              have h206 := ti_eq (G_S_181 63 35 rfl)
              have h207 := ti_eq (G_S_181 63 42 rfl)
              have h208 := ti_eq (G_S_181 63 62 rfl)
              have h209 : (S_181.1 97 ((((S.1 63 62) - (1 : Int32))).toNatClampNeg)).toInt = (S_25.1 97 ((((S.1 63 62) - (1 : Int32))).toNatClampNeg)).toInt := ti_eq (G_S_181 97 ((((S.1 63 62) - (1 : Int32))).toNatClampNeg) rfl)
              have h210 : (S_181.1 97 ((((S_25.1 63 62) - (1 : Int32))).toNatClampNeg)).toInt = (S_25.1 97 ((((S_25.1 63 62) - (1 : Int32))).toNatClampNeg)).toInt := ti_eq (G_S_181 97 ((((S_25.1 63 62) - (1 : Int32))).toNatClampNeg) rfl)
              have h211 : (S_181.1 97 ((((S_181.1 63 62) - (1 : Int32))).toNatClampNeg)).toInt = (S_25.1 97 ((((S_25.1 63 62) - (1 : Int32))).toNatClampNeg)).toInt := by rw [G_S_181 63 62 rfl]; exact ti_eq (G_S_181 97 ((((S_25.1 63 62) - (1 : Int32))).toNatClampNeg) rfl)
              have h212 : (S_181.1 98 ((((S.1 63 62) - (1 : Int32))).toNatClampNeg)).toInt = (S_25.1 98 ((((S.1 63 62) - (1 : Int32))).toNatClampNeg)).toInt := ti_eq (G_S_181 98 ((((S.1 63 62) - (1 : Int32))).toNatClampNeg) rfl)
              have h213 : (S_181.1 98 ((((S_25.1 63 62) - (1 : Int32))).toNatClampNeg)).toInt = (S_25.1 98 ((((S_25.1 63 62) - (1 : Int32))).toNatClampNeg)).toInt := ti_eq (G_S_181 98 ((((S_25.1 63 62) - (1 : Int32))).toNatClampNeg) rfl)
              have h214 : (S_181.1 98 ((((S_181.1 63 62) - (1 : Int32))).toNatClampNeg)).toInt = (S_25.1 98 ((((S_25.1 63 62) - (1 : Int32))).toNatClampNeg)).toInt := by rw [G_S_181 63 62 rfl]; exact ti_eq (G_S_181 98 ((((S_25.1 63 62) - (1 : Int32))).toNatClampNeg) rfl)
              exact Sf.so ⟨I_S_181, F_S_181, trivial, RK_S_181⟩
            · have h215 := neq_iv rfl li_0 c_h204
              have h216 := i32 r_61
              refine Sf.i (fun c_h217 => ?_) (fun c_h217 => ?_)
              · have h218 := lt_iv rfl li_0 c_h217
                unfold fX12_takes_178
                have hpl : 0 ≤ (S_25.1 100 (((S.1 63 62) - (1 : Int32))).toNatClampNeg).toInt := by rw [G_S_25 100 _ rfl]; exact g1
                refine Sf.b (s_fX12_refersTo fu hfu ((S.1 63 62) - (1 : Int32)) (S.1 97 ((((S.1 63 62) - (1 : Int32))).toNatClampNeg)) S_25 I_S_25 RK_S_25 RR_S_25 (by omega) (by omega) (by omega) (by omega) (by omega)) (fun S_181 r_181_ p_r_181_ => ?_)
                obtain ⟨I_S_181, G_S_181, p_r_181_, RK_S_181⟩ := p_r_181_
                have F_S_181 := Fr.tr F_S_25 G_S_181 rfl
                have RR_S_181 := RR_fr (U := S_181) RR_S_25 (G_S_181 63 42 rfl) (fun b => G_S_181 87 b rfl) (fun b => G_S_181 88 b rfl)
                have h219 := ti_eq (G_S_181 63 35 rfl)
                have h220 := ti_eq (G_S_181 63 42 rfl)
                have h221 := ti_eq (G_S_181 63 62 rfl)
                have h222 : (S_181.1 97 ((((S.1 63 62) - (1 : Int32))).toNatClampNeg)).toInt = (S_25.1 97 ((((S.1 63 62) - (1 : Int32))).toNatClampNeg)).toInt := ti_eq (G_S_181 97 ((((S.1 63 62) - (1 : Int32))).toNatClampNeg) rfl)
                have h223 : (S_181.1 97 ((((S_25.1 63 62) - (1 : Int32))).toNatClampNeg)).toInt = (S_25.1 97 ((((S_25.1 63 62) - (1 : Int32))).toNatClampNeg)).toInt := ti_eq (G_S_181 97 ((((S_25.1 63 62) - (1 : Int32))).toNatClampNeg) rfl)
                have h224 : (S_181.1 97 ((((S_181.1 63 62) - (1 : Int32))).toNatClampNeg)).toInt = (S_25.1 97 ((((S_25.1 63 62) - (1 : Int32))).toNatClampNeg)).toInt := by rw [G_S_181 63 62 rfl]; exact ti_eq (G_S_181 97 ((((S_25.1 63 62) - (1 : Int32))).toNatClampNeg) rfl)
                have h225 : (S_181.1 98 ((((S.1 63 62) - (1 : Int32))).toNatClampNeg)).toInt = (S_25.1 98 ((((S.1 63 62) - (1 : Int32))).toNatClampNeg)).toInt := ti_eq (G_S_181 98 ((((S.1 63 62) - (1 : Int32))).toNatClampNeg) rfl)
                have h226 : (S_181.1 98 ((((S_25.1 63 62) - (1 : Int32))).toNatClampNeg)).toInt = (S_25.1 98 ((((S_25.1 63 62) - (1 : Int32))).toNatClampNeg)).toInt := ti_eq (G_S_181 98 ((((S_25.1 63 62) - (1 : Int32))).toNatClampNeg) rfl)
                have h227 : (S_181.1 98 ((((S_181.1 63 62) - (1 : Int32))).toNatClampNeg)).toInt = (S_25.1 98 ((((S_25.1 63 62) - (1 : Int32))).toNatClampNeg)).toInt := by rw [G_S_181 63 62 rfl]; exact ti_eq (G_S_181 98 ((((S_25.1 63 62) - (1 : Int32))).toNatClampNeg) rfl)
                exact Sf.so ⟨I_S_181, F_S_181, trivial, RK_S_181⟩
              · have h228 := nlt_iv rfl li_0 c_h217
                refine Sf.b (s_fX12_nothing fu hfu (S.1 97 ((((S.1 63 62) - (1 : Int32))).toNatClampNeg)) (S.1 98 ((((S.1 63 62) - (1 : Int32))).toNatClampNeg)) r_61 S_25 I_S_25 RK_S_25 (by omega) (by omega)) (fun S_172 r_172_ p_r_172_ => ?_)
                obtain ⟨I_S_172, G_S_172, p_r_172_, RK_S_172⟩ := p_r_172_
                have F_S_172 := Fr.tr F_S_25 G_S_172 rfl
                have RR_S_172 := RR_fr (U := S_172) RR_S_25 (G_S_172 63 42 rfl) (fun b => G_S_172 87 b rfl) (fun b => G_S_172 88 b rfl)
                have h229 := ti_eq (G_S_172 63 35 rfl)
                have h230 := ti_eq (G_S_172 63 42 rfl)
                have h231 := ti_eq (G_S_172 63 62 rfl)
                have h232 : (S_172.1 97 ((((S.1 63 62) - (1 : Int32))).toNatClampNeg)).toInt = (S_25.1 97 ((((S.1 63 62) - (1 : Int32))).toNatClampNeg)).toInt := ti_eq (G_S_172 97 ((((S.1 63 62) - (1 : Int32))).toNatClampNeg) rfl)
                have h233 : (S_172.1 97 ((((S_25.1 63 62) - (1 : Int32))).toNatClampNeg)).toInt = (S_25.1 97 ((((S_25.1 63 62) - (1 : Int32))).toNatClampNeg)).toInt := ti_eq (G_S_172 97 ((((S_25.1 63 62) - (1 : Int32))).toNatClampNeg) rfl)
                have h234 : (S_172.1 97 ((((S_172.1 63 62) - (1 : Int32))).toNatClampNeg)).toInt = (S_25.1 97 ((((S_25.1 63 62) - (1 : Int32))).toNatClampNeg)).toInt := by rw [G_S_172 63 62 rfl]; exact ti_eq (G_S_172 97 ((((S_25.1 63 62) - (1 : Int32))).toNatClampNeg) rfl)
                have h235 : (S_172.1 98 ((((S.1 63 62) - (1 : Int32))).toNatClampNeg)).toInt = (S_25.1 98 ((((S.1 63 62) - (1 : Int32))).toNatClampNeg)).toInt := ti_eq (G_S_172 98 ((((S.1 63 62) - (1 : Int32))).toNatClampNeg) rfl)
                have h236 : (S_172.1 98 ((((S_25.1 63 62) - (1 : Int32))).toNatClampNeg)).toInt = (S_25.1 98 ((((S_25.1 63 62) - (1 : Int32))).toNatClampNeg)).toInt := ti_eq (G_S_172 98 ((((S_25.1 63 62) - (1 : Int32))).toNatClampNeg) rfl)
                have h237 : (S_172.1 98 ((((S_172.1 63 62) - (1 : Int32))).toNatClampNeg)).toInt = (S_25.1 98 ((((S_25.1 63 62) - (1 : Int32))).toNatClampNeg)).toInt := by rw [G_S_172 63 62 rfl]; exact ti_eq (G_S_172 98 ((((S_25.1 63 62) - (1 : Int32))).toNatClampNeg) rfl)
                exact Sf.so ⟨I_S_172, F_S_172, trivial, RK_S_172⟩
          · have h238 := neq_iv rfl li_0 c_h202
            unfold fX12_takes_178
            have hpl : 0 ≤ (S_25.1 100 (((S.1 63 62) - (1 : Int32))).toNatClampNeg).toInt := by rw [G_S_25 100 _ rfl]; exact g1
            refine Sf.b (s_fX12_refersTo fu hfu ((S.1 63 62) - (1 : Int32)) (S.1 97 ((((S.1 63 62) - (1 : Int32))).toNatClampNeg)) S_25 I_S_25 RK_S_25 RR_S_25 (by omega) (by omega) (by omega) (by omega) (by omega)) (fun S_181 r_181_ p_r_181_ => ?_)
            obtain ⟨I_S_181, G_S_181, p_r_181_, RK_S_181⟩ := p_r_181_
            have F_S_181 := Fr.tr F_S_25 G_S_181 rfl
            have RR_S_181 := RR_fr (U := S_181) RR_S_25 (G_S_181 63 42 rfl) (fun b => G_S_181 87 b rfl) (fun b => G_S_181 88 b rfl)
            have h239 := ti_eq (G_S_181 63 35 rfl)
            have h240 := ti_eq (G_S_181 63 42 rfl)
            have h241 := ti_eq (G_S_181 63 62 rfl)
            have h242 : (S_181.1 97 ((((S.1 63 62) - (1 : Int32))).toNatClampNeg)).toInt = (S_25.1 97 ((((S.1 63 62) - (1 : Int32))).toNatClampNeg)).toInt := ti_eq (G_S_181 97 ((((S.1 63 62) - (1 : Int32))).toNatClampNeg) rfl)
            have h243 : (S_181.1 97 ((((S_25.1 63 62) - (1 : Int32))).toNatClampNeg)).toInt = (S_25.1 97 ((((S_25.1 63 62) - (1 : Int32))).toNatClampNeg)).toInt := ti_eq (G_S_181 97 ((((S_25.1 63 62) - (1 : Int32))).toNatClampNeg) rfl)
            have h244 : (S_181.1 97 ((((S_181.1 63 62) - (1 : Int32))).toNatClampNeg)).toInt = (S_25.1 97 ((((S_25.1 63 62) - (1 : Int32))).toNatClampNeg)).toInt := by rw [G_S_181 63 62 rfl]; exact ti_eq (G_S_181 97 ((((S_25.1 63 62) - (1 : Int32))).toNatClampNeg) rfl)
            have h245 : (S_181.1 98 ((((S.1 63 62) - (1 : Int32))).toNatClampNeg)).toInt = (S_25.1 98 ((((S.1 63 62) - (1 : Int32))).toNatClampNeg)).toInt := ti_eq (G_S_181 98 ((((S.1 63 62) - (1 : Int32))).toNatClampNeg) rfl)
            have h246 : (S_181.1 98 ((((S_25.1 63 62) - (1 : Int32))).toNatClampNeg)).toInt = (S_25.1 98 ((((S_25.1 63 62) - (1 : Int32))).toNatClampNeg)).toInt := ti_eq (G_S_181 98 ((((S_25.1 63 62) - (1 : Int32))).toNatClampNeg) rfl)
            have h247 : (S_181.1 98 ((((S_181.1 63 62) - (1 : Int32))).toNatClampNeg)).toInt = (S_25.1 98 ((((S_25.1 63 62) - (1 : Int32))).toNatClampNeg)).toInt := by rw [G_S_181 63 62 rfl]; exact ti_eq (G_S_181 98 ((((S_25.1 63 62) - (1 : Int32))).toNatClampNeg) rfl)
            exact Sf.so ⟨I_S_181, F_S_181, trivial, RK_S_181⟩
      · have h248 := nlt_iv rfl li_0 c_h138
        refine Sf.w I_S_25 F_S_25 rfl (show ((0) : Int) ≤ ((1 : Int32)).toInt by rw [li_1]; omega) (show ((1 : Int32)).toInt ≤ (10 : Int) by rw [li_1]; omega) (fun S_73 I_S_73 F_S_73 v_S_73 f_S_73 l_S_73 => ?_)
        have h249 := ti_eq (f_S_73 63 35 (fun _ e => absurd e (by decide)))
        have h250 := ti_eq (f_S_73 63 42 (fun _ e => absurd e (by decide)))
        have h251 := eq_iv rfl li_1 v_S_73
        have h252 := ti_eq (f_S_73 63 62 (fun _ e => absurd e (by decide)))
        have RK_S_73 := RK_fr (U := S_73) RK_S_25 (f_S_73 63 50 (fun _ e => absurd e (by decide))) (fun b => f_S_73 92 b (fun e => absurd e (by decide))) (fun b => f_S_73 93 b (fun e => absurd e (by decide))) (fun b => f_S_73 94 b (fun e => absurd e (by decide)))
        have RR_S_73 := RR_fr (U := S_73) RR_S_25 (f_S_73 63 42 (fun _ e => absurd e (by decide))) (fun b => f_S_73 87 b (fun e => absurd e (by decide))) (fun b => f_S_73 88 b (fun e => absurd e (by decide)))
        have h253 : (S_73.1 97 ((((S.1 63 62) - (1 : Int32))).toNatClampNeg)).toInt = (S_25.1 97 ((((S.1 63 62) - (1 : Int32))).toNatClampNeg)).toInt := ti_eq (f_S_73 97 ((((S.1 63 62) - (1 : Int32))).toNatClampNeg) (fun e => absurd e (by decide)))
        have h254 : (S_73.1 97 ((((S_25.1 63 62) - (1 : Int32))).toNatClampNeg)).toInt = (S_25.1 97 ((((S_25.1 63 62) - (1 : Int32))).toNatClampNeg)).toInt := ti_eq (f_S_73 97 ((((S_25.1 63 62) - (1 : Int32))).toNatClampNeg) (fun e => absurd e (by decide)))
        have h255 : (S_73.1 97 ((((S_73.1 63 62) - (1 : Int32))).toNatClampNeg)).toInt = (S_25.1 97 ((((S_25.1 63 62) - (1 : Int32))).toNatClampNeg)).toInt := by rw [f_S_73 63 62 (fun _ e => absurd e (by decide))]; exact ti_eq (f_S_73 97 ((((S_25.1 63 62) - (1 : Int32))).toNatClampNeg) (fun e => absurd e (by decide)))
        have h256 : (S_73.1 98 ((((S.1 63 62) - (1 : Int32))).toNatClampNeg)).toInt = (S_25.1 98 ((((S.1 63 62) - (1 : Int32))).toNatClampNeg)).toInt := ti_eq (f_S_73 98 ((((S.1 63 62) - (1 : Int32))).toNatClampNeg) (fun e => absurd e (by decide)))
        have h257 : (S_73.1 98 ((((S_25.1 63 62) - (1 : Int32))).toNatClampNeg)).toInt = (S_25.1 98 ((((S_25.1 63 62) - (1 : Int32))).toNatClampNeg)).toInt := ti_eq (f_S_73 98 ((((S_25.1 63 62) - (1 : Int32))).toNatClampNeg) (fun e => absurd e (by decide)))
        have h258 : (S_73.1 98 ((((S_73.1 63 62) - (1 : Int32))).toNatClampNeg)).toInt = (S_25.1 98 ((((S_25.1 63 62) - (1 : Int32))).toNatClampNeg)).toInt := by rw [f_S_73 63 62 (fun _ e => absurd e (by decide))]; exact ti_eq (f_S_73 98 ((((S_25.1 63 62) - (1 : Int32))).toNatClampNeg) (fun e => absurd e (by decide)))
        refine Sf.g (ck_iv (by omega) (by omega)) ?_
        refine Sf.g (by decide) ?_
        refine Sf.w I_S_73 F_S_73 rfl (i32 _).1 (i32 _).2 (fun S_88 I_S_88 F_S_88 v_S_88 f_S_88 l_S_88 => ?_)
        have h259 := ti_eq (f_S_88 63 35 (fun e => absurd e (by decide)))
        have h260 := ti_eq (f_S_88 63 42 (fun e => absurd e (by decide)))
        have h261 := ti_eq (f_S_88 63 53 (fun e => absurd e (by decide)))
        have h262 := ti_eq (f_S_88 63 62 (fun e => absurd e (by decide)))
        have h263 : (S_88.1 96 (((0 : Int32)).toNatClampNeg)).toInt = ((S_73.1 88 ((r_51).toNatClampNeg))).toInt := eq_iv rfl rfl v_S_88
        have RK_S_88 := RK_fr (U := S_88) RK_S_73 (f_S_88 63 50 (fun e => absurd e (by decide))) (fun b => f_S_88 92 b (fun e => absurd e (by decide))) (fun b => f_S_88 93 b (fun e => absurd e (by decide))) (fun b => f_S_88 94 b (fun e => absurd e (by decide)))
        have RR_S_88 := RR_fr (U := S_88) RR_S_73 (f_S_88 63 42 (fun e => absurd e (by decide))) (fun b => f_S_88 87 b (fun e => absurd e (by decide))) (fun b => f_S_88 88 b (fun e => absurd e (by decide)))
        have h264 : (S_88.1 88 ((r_51).toNatClampNeg)).toInt = (S_73.1 88 ((r_51).toNatClampNeg)).toInt := ti_eq (f_S_88 88 ((r_51).toNatClampNeg) (fun e => absurd e (by decide)))
        have h265 : (S_88.1 97 ((((S.1 63 62) - (1 : Int32))).toNatClampNeg)).toInt = (S_73.1 97 ((((S.1 63 62) - (1 : Int32))).toNatClampNeg)).toInt := ti_eq (f_S_88 97 ((((S.1 63 62) - (1 : Int32))).toNatClampNeg) (fun e => absurd e (by decide)))
        have h266 : (S_88.1 97 ((((S_25.1 63 62) - (1 : Int32))).toNatClampNeg)).toInt = (S_73.1 97 ((((S_25.1 63 62) - (1 : Int32))).toNatClampNeg)).toInt := ti_eq (f_S_88 97 ((((S_25.1 63 62) - (1 : Int32))).toNatClampNeg) (fun e => absurd e (by decide)))
        have h267 : (S_88.1 97 ((((S_73.1 63 62) - (1 : Int32))).toNatClampNeg)).toInt = (S_73.1 97 ((((S_73.1 63 62) - (1 : Int32))).toNatClampNeg)).toInt := ti_eq (f_S_88 97 ((((S_73.1 63 62) - (1 : Int32))).toNatClampNeg) (fun e => absurd e (by decide)))
        have h268 : (S_88.1 97 ((((S_88.1 63 62) - (1 : Int32))).toNatClampNeg)).toInt = (S_73.1 97 ((((S_73.1 63 62) - (1 : Int32))).toNatClampNeg)).toInt := by rw [f_S_88 63 62 (fun e => absurd e (by decide))]; exact ti_eq (f_S_88 97 ((((S_73.1 63 62) - (1 : Int32))).toNatClampNeg) (fun e => absurd e (by decide)))
        have h269 : (S_88.1 98 ((((S.1 63 62) - (1 : Int32))).toNatClampNeg)).toInt = (S_73.1 98 ((((S.1 63 62) - (1 : Int32))).toNatClampNeg)).toInt := ti_eq (f_S_88 98 ((((S.1 63 62) - (1 : Int32))).toNatClampNeg) (fun e => absurd e (by decide)))
        have h270 : (S_88.1 98 ((((S_25.1 63 62) - (1 : Int32))).toNatClampNeg)).toInt = (S_73.1 98 ((((S_25.1 63 62) - (1 : Int32))).toNatClampNeg)).toInt := ti_eq (f_S_88 98 ((((S_25.1 63 62) - (1 : Int32))).toNatClampNeg) (fun e => absurd e (by decide)))
        have h271 : (S_88.1 98 ((((S_73.1 63 62) - (1 : Int32))).toNatClampNeg)).toInt = (S_73.1 98 ((((S_73.1 63 62) - (1 : Int32))).toNatClampNeg)).toInt := ti_eq (f_S_88 98 ((((S_73.1 63 62) - (1 : Int32))).toNatClampNeg) (fun e => absurd e (by decide)))
        have h272 : (S_88.1 98 ((((S_88.1 63 62) - (1 : Int32))).toNatClampNeg)).toInt = (S_73.1 98 ((((S_73.1 63 62) - (1 : Int32))).toNatClampNeg)).toInt := by rw [f_S_88 63 62 (fun e => absurd e (by decide))]; exact ti_eq (f_S_88 98 ((((S_73.1 63 62) - (1 : Int32))).toNatClampNeg) (fun e => absurd e (by decide)))
        refine Sf.g (ck_iv (by omega) (by omega)) ?_
        refine Sf.j I_S_88 F_S_88 (fun S_102 I_S_102 F_S_102 l_S_102 => ?_)
        have h273 : (S_102.1 63 35).toInt = (S_88.1 63 35).toInt := by rw [l_S_102]
        have h274 : (S_102.1 63 42).toInt = (S_88.1 63 42).toInt := by rw [l_S_102]
        have h275 : (S_102.1 63 53).toInt = (S_88.1 63 53).toInt := by rw [l_S_102]
        have h276 : (S_102.1 63 62).toInt = (S_88.1 63 62).toInt := by rw [l_S_102]
        have RK_S_102 := RK_fr (U := S_102) RK_S_88 (by rw [l_S_102]) (fun b => by rw [l_S_102]) (fun b => by rw [l_S_102]) (fun b => by rw [l_S_102])
        have RR_S_102 := RR_fr (U := S_102) RR_S_88 (by rw [l_S_102]) (fun b => by rw [l_S_102]) (fun b => by rw [l_S_102])
        have h277 : (S_102.1 88 ((r_51).toNatClampNeg)).toInt = (S_88.1 88 ((r_51).toNatClampNeg)).toInt := (by rw [l_S_102])
        have h278 : (S_102.1 96 (((0 : Int32)).toNatClampNeg)).toInt = (S_88.1 96 (((0 : Int32)).toNatClampNeg)).toInt := (by rw [l_S_102])
        have h279 : (S_102.1 97 ((((S.1 63 62) - (1 : Int32))).toNatClampNeg)).toInt = (S_88.1 97 ((((S.1 63 62) - (1 : Int32))).toNatClampNeg)).toInt := (by rw [l_S_102])
        have h280 : (S_102.1 97 ((((S_25.1 63 62) - (1 : Int32))).toNatClampNeg)).toInt = (S_88.1 97 ((((S_25.1 63 62) - (1 : Int32))).toNatClampNeg)).toInt := (by rw [l_S_102])
        have h281 : (S_102.1 97 ((((S_73.1 63 62) - (1 : Int32))).toNatClampNeg)).toInt = (S_88.1 97 ((((S_73.1 63 62) - (1 : Int32))).toNatClampNeg)).toInt := (by rw [l_S_102])
        have h282 : (S_102.1 97 ((((S_88.1 63 62) - (1 : Int32))).toNatClampNeg)).toInt = (S_88.1 97 ((((S_88.1 63 62) - (1 : Int32))).toNatClampNeg)).toInt := (by rw [l_S_102])
        have h283 : (S_102.1 97 ((((S_102.1 63 62) - (1 : Int32))).toNatClampNeg)).toInt = (S_88.1 97 ((((S_88.1 63 62) - (1 : Int32))).toNatClampNeg)).toInt := by rw [(show S_102.1 63 62 = S_88.1 63 62 by rw [l_S_102])]; exact (by rw [l_S_102])
        have h284 : (S_102.1 98 ((((S.1 63 62) - (1 : Int32))).toNatClampNeg)).toInt = (S_88.1 98 ((((S.1 63 62) - (1 : Int32))).toNatClampNeg)).toInt := (by rw [l_S_102])
        have h285 : (S_102.1 98 ((((S_25.1 63 62) - (1 : Int32))).toNatClampNeg)).toInt = (S_88.1 98 ((((S_25.1 63 62) - (1 : Int32))).toNatClampNeg)).toInt := (by rw [l_S_102])
        have h286 : (S_102.1 98 ((((S_73.1 63 62) - (1 : Int32))).toNatClampNeg)).toInt = (S_88.1 98 ((((S_73.1 63 62) - (1 : Int32))).toNatClampNeg)).toInt := (by rw [l_S_102])
        have h287 : (S_102.1 98 ((((S_88.1 63 62) - (1 : Int32))).toNatClampNeg)).toInt = (S_88.1 98 ((((S_88.1 63 62) - (1 : Int32))).toNatClampNeg)).toInt := (by rw [l_S_102])
        have h288 : (S_102.1 98 ((((S_102.1 63 62) - (1 : Int32))).toNatClampNeg)).toInt = (S_88.1 98 ((((S_88.1 63 62) - (1 : Int32))).toNatClampNeg)).toInt := by rw [(show S_102.1 63 62 = S_88.1 63 62 by rw [l_S_102])]; exact (by rw [l_S_102])
        have hp := RR_at RR_S_25 (x := r_51) (by omega) (by omega)
        have h96 : S_102.1 96 0 = S_25.1 88 (r_51).toNatClampNeg := by rw [l_S_102]; exact v_S_88.trans (f_S_73 88 _ (fun e => absurd e (by decide)))
        have SM_S_102 : SM ((5 : Int32)).toInt S_102 := SM_one (by omega) (by rw [h96]; exact hp (Or.inr (by omega)))
        refine Sf.b (s_fX12_puts fu hfu (S.1 97 ((((S.1 63 62) - (1 : Int32))).toNatClampNeg)) (5 : Int32) S_102 I_S_102 RK_S_102 SM_S_102) (fun S_108 r_108_ p_r_108_ => ?_)
        obtain ⟨I_S_108, G_S_108, p_r_108_, RK_S_108⟩ := p_r_108_
        have F_S_108 := Fr.tr F_S_102 G_S_108 rfl
        have RR_S_108 := RR_fr (U := S_108) RR_S_102 (G_S_108 63 42 rfl) (fun b => G_S_108 87 b rfl) (fun b => G_S_108 88 b rfl)
        have SM_S_108 := SM_fr (U := S_108) SM_S_102 (G_S_108 63 53 rfl) (fun b => G_S_108 96 b rfl)
        have h289 := ti_eq (G_S_108 63 35 rfl)
        have h290 := ti_eq (G_S_108 63 42 rfl)
        have h291 := ti_eq (G_S_108 63 53 rfl)
        have h292 := ti_eq (G_S_108 63 62 rfl)
        have h293 : (S_108.1 88 ((r_51).toNatClampNeg)).toInt = (S_102.1 88 ((r_51).toNatClampNeg)).toInt := ti_eq (G_S_108 88 ((r_51).toNatClampNeg) rfl)
        have h294 : (S_108.1 96 (((0 : Int32)).toNatClampNeg)).toInt = (S_102.1 96 (((0 : Int32)).toNatClampNeg)).toInt := ti_eq (G_S_108 96 (((0 : Int32)).toNatClampNeg) rfl)
        have h295 : (S_108.1 97 ((((S.1 63 62) - (1 : Int32))).toNatClampNeg)).toInt = (S_102.1 97 ((((S.1 63 62) - (1 : Int32))).toNatClampNeg)).toInt := ti_eq (G_S_108 97 ((((S.1 63 62) - (1 : Int32))).toNatClampNeg) rfl)
        have h296 : (S_108.1 97 ((((S_102.1 63 62) - (1 : Int32))).toNatClampNeg)).toInt = (S_102.1 97 ((((S_102.1 63 62) - (1 : Int32))).toNatClampNeg)).toInt := ti_eq (G_S_108 97 ((((S_102.1 63 62) - (1 : Int32))).toNatClampNeg) rfl)
        have h297 : (S_108.1 97 ((((S_108.1 63 62) - (1 : Int32))).toNatClampNeg)).toInt = (S_102.1 97 ((((S_102.1 63 62) - (1 : Int32))).toNatClampNeg)).toInt := by rw [G_S_108 63 62 rfl]; exact ti_eq (G_S_108 97 ((((S_102.1 63 62) - (1 : Int32))).toNatClampNeg) rfl)
        have h298 : (S_108.1 97 ((((S_25.1 63 62) - (1 : Int32))).toNatClampNeg)).toInt = (S_102.1 97 ((((S_25.1 63 62) - (1 : Int32))).toNatClampNeg)).toInt := ti_eq (G_S_108 97 ((((S_25.1 63 62) - (1 : Int32))).toNatClampNeg) rfl)
        have h299 : (S_108.1 97 ((((S_73.1 63 62) - (1 : Int32))).toNatClampNeg)).toInt = (S_102.1 97 ((((S_73.1 63 62) - (1 : Int32))).toNatClampNeg)).toInt := ti_eq (G_S_108 97 ((((S_73.1 63 62) - (1 : Int32))).toNatClampNeg) rfl)
        have h300 : (S_108.1 97 ((((S_88.1 63 62) - (1 : Int32))).toNatClampNeg)).toInt = (S_102.1 97 ((((S_88.1 63 62) - (1 : Int32))).toNatClampNeg)).toInt := ti_eq (G_S_108 97 ((((S_88.1 63 62) - (1 : Int32))).toNatClampNeg) rfl)
        have h301 : (S_108.1 98 ((((S.1 63 62) - (1 : Int32))).toNatClampNeg)).toInt = (S_102.1 98 ((((S.1 63 62) - (1 : Int32))).toNatClampNeg)).toInt := ti_eq (G_S_108 98 ((((S.1 63 62) - (1 : Int32))).toNatClampNeg) rfl)
        have h302 : (S_108.1 98 ((((S_102.1 63 62) - (1 : Int32))).toNatClampNeg)).toInt = (S_102.1 98 ((((S_102.1 63 62) - (1 : Int32))).toNatClampNeg)).toInt := ti_eq (G_S_108 98 ((((S_102.1 63 62) - (1 : Int32))).toNatClampNeg) rfl)
        have h303 : (S_108.1 98 ((((S_108.1 63 62) - (1 : Int32))).toNatClampNeg)).toInt = (S_102.1 98 ((((S_102.1 63 62) - (1 : Int32))).toNatClampNeg)).toInt := by rw [G_S_108 63 62 rfl]; exact ti_eq (G_S_108 98 ((((S_102.1 63 62) - (1 : Int32))).toNatClampNeg) rfl)
        have h304 : (S_108.1 98 ((((S_25.1 63 62) - (1 : Int32))).toNatClampNeg)).toInt = (S_102.1 98 ((((S_25.1 63 62) - (1 : Int32))).toNatClampNeg)).toInt := ti_eq (G_S_108 98 ((((S_25.1 63 62) - (1 : Int32))).toNatClampNeg) rfl)
        have h305 : (S_108.1 98 ((((S_73.1 63 62) - (1 : Int32))).toNatClampNeg)).toInt = (S_102.1 98 ((((S_73.1 63 62) - (1 : Int32))).toNatClampNeg)).toInt := ti_eq (G_S_108 98 ((((S_73.1 63 62) - (1 : Int32))).toNatClampNeg) rfl)
        have h306 : (S_108.1 98 ((((S_88.1 63 62) - (1 : Int32))).toNatClampNeg)).toInt = (S_102.1 98 ((((S_88.1 63 62) - (1 : Int32))).toNatClampNeg)).toInt := ti_eq (G_S_108 98 ((((S_88.1 63 62) - (1 : Int32))).toNatClampNeg) rfl)
        exact Sf.so ⟨I_S_108, F_S_108, trivial, RK_S_108⟩
  · have h307 := nle_iv rfl li_0 c_h15
    refine Sf.b (s_fX12_puts fu hfu (S.1 97 ((((S.1 63 62) - (1 : Int32))).toNatClampNeg)) (S.1 98 ((((S.1 63 62) - (1 : Int32))).toNatClampNeg)) S_25 I_S_25 RK_S_25 SM_S_25) (fun S_34 r_34_ p_r_34_ => ?_)
    obtain ⟨I_S_34, G_S_34, p_r_34_, RK_S_34⟩ := p_r_34_
    have F_S_34 := Fr.tr F_S_25 G_S_34 rfl
    have RR_S_34 := RR_fr (U := S_34) RR_S_25 (G_S_34 63 42 rfl) (fun b => G_S_34 87 b rfl) (fun b => G_S_34 88 b rfl)
    have SM_S_34 := SM_fr (U := S_34) SM_S_25 (G_S_34 63 53 rfl) (fun b => G_S_34 96 b rfl)
    have h308 := ti_eq (G_S_34 63 35 rfl)
    have h309 := ti_eq (G_S_34 63 42 rfl)
    have h310 := ti_eq (G_S_34 63 53 rfl)
    have h311 := ti_eq (G_S_34 63 62 rfl)
    have h312 : (S_34.1 97 ((((S.1 63 62) - (1 : Int32))).toNatClampNeg)).toInt = (S_25.1 97 ((((S.1 63 62) - (1 : Int32))).toNatClampNeg)).toInt := ti_eq (G_S_34 97 ((((S.1 63 62) - (1 : Int32))).toNatClampNeg) rfl)
    have h313 : (S_34.1 97 ((((S_25.1 63 62) - (1 : Int32))).toNatClampNeg)).toInt = (S_25.1 97 ((((S_25.1 63 62) - (1 : Int32))).toNatClampNeg)).toInt := ti_eq (G_S_34 97 ((((S_25.1 63 62) - (1 : Int32))).toNatClampNeg) rfl)
    have h314 : (S_34.1 97 ((((S_34.1 63 62) - (1 : Int32))).toNatClampNeg)).toInt = (S_25.1 97 ((((S_25.1 63 62) - (1 : Int32))).toNatClampNeg)).toInt := by rw [G_S_34 63 62 rfl]; exact ti_eq (G_S_34 97 ((((S_25.1 63 62) - (1 : Int32))).toNatClampNeg) rfl)
    have h315 : (S_34.1 98 ((((S.1 63 62) - (1 : Int32))).toNatClampNeg)).toInt = (S_25.1 98 ((((S.1 63 62) - (1 : Int32))).toNatClampNeg)).toInt := ti_eq (G_S_34 98 ((((S.1 63 62) - (1 : Int32))).toNatClampNeg) rfl)
    have h316 : (S_34.1 98 ((((S_25.1 63 62) - (1 : Int32))).toNatClampNeg)).toInt = (S_25.1 98 ((((S_25.1 63 62) - (1 : Int32))).toNatClampNeg)).toInt := ti_eq (G_S_34 98 ((((S_25.1 63 62) - (1 : Int32))).toNatClampNeg) rfl)
    have h317 : (S_34.1 98 ((((S_34.1 63 62) - (1 : Int32))).toNatClampNeg)).toInt = (S_25.1 98 ((((S_25.1 63 62) - (1 : Int32))).toNatClampNeg)).toInt := by rw [G_S_34 63 62 rfl]; exact ti_eq (G_S_34 98 ((((S_25.1 63 62) - (1 : Int32))).toNatClampNeg) rfl)
    exact Sf.so ⟨I_S_34, F_S_34, trivial, RK_S_34⟩


