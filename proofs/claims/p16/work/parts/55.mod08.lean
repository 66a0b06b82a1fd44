theorem s_fX12_putTold (fu : Nat) (hfu : 1000000000000000000 ≤ fu) (S : St) (I_S : Inv S) (RD_S : RD S) (g0 : (S.1 63 27).toInt + 1100000 ≤ 2000000000) : Sf (fX12_putTold fu S) (fun U r => Inv U ∧ Fr [(63, 28), (82, 0), (83, 0)] S U ∧ (((U.1 63 27).toInt ≤ (S.1 63 27).toInt + 1050000))) := by
  unfold fX12_putTold
  have F_S : Fr [(63, 28), (82, 0), (83, 0)] S S := Fr.refl _ _
  have h1 := b_63_27 I_S
  have h2 : ((0 : Int32)).toInt = 0 := li_0
  have h3 := b_63_27 I_S
  refine Sf.mono (s_fX12_putTold_2 fu hfu fu (0 : Int32) S I_S RD_S (by omega) (by omega) (by omega) (by omega)) (fun U r p_h4 => ?_)
  obtain ⟨I_U, G_U, p_h4⟩ := p_h4
  have h5 := b_63_27 I_U
  have h6 := b_63_27 I_S
  have h7 := ti_eq (G_U 63 20 rfl)
  have RD_U := RD_fr (U := U) RD_S (G_U 63 20 rfl) (fun b => G_U 76 b rfl) (fun b => G_U 77 b rfl)
  exact ⟨I_U, Fr.tr F_S G_U rfl, by omega⟩
theorem s_fX12_isGlue_28 (fu : Nat) (hfu : 1000000000000000000 ≤ fu) : ∀ (n : Nat) (x1 : Int32) (x2 : Int32) (x3 : Int32) (x4 : Int32) (x5 : Int32) (S : St), Inv S → (0 ≤ (x3).toInt) → ((x3).toInt < 150) → (0 ≤ (x4).toInt) → ((x4).toInt ≤ 1) → (0 ≤ (x5).toInt) → (150 - (x5).toInt).toNat < n → Sp (fX12_isGlue_28 fu n x1 x2 x3 x4 x5 S) S (fun r => (0 ≤ r.toInt) ∧ (r.toInt ≤ 1)) := by
  intro n
  induction n with
  | zero => intro x1 x2 x3 x4 x5 S I_S g0 g1 g2 g3 g4 hm; exact absurd hm (Nat.not_lt_zero _)
  | succ n ih =>
    intro x1 x2 x3 x4 x5 S I_S g0 g1 g2 g3 g4 hm
    rw [fX12_isGlue_28_s]
    have h1 := b_63_20 I_S
    have h2 := i32 x5
    refine Sp.i (fun c_h3 => ?_) (fun c_h3 => ?_)
    · have h4 := le_iv rfl rfl c_h3
      have h5 := i32 x4
      refine Sp.g (isB_iv (by omega) (by omega)) ?_
      exact Sp.so (by omega)
    · have h6 := nle_iv rfl rfl c_h3
      have h7 := i32 x4
      refine Sp.i (fun c_h8 => ?_) (fun c_h8 => ?_)
      · have h9 := eq_iv rfl li_0 c_h8
        refine Sp.g (ck_iv (by omega) (by omega)) ?_
        have h10 := a_74 I_S ((x5).toNatClampNeg)
        have h11 := i32 x1
        refine Sp.i (fun c_h12 => ?_) (fun c_h12 => ?_)
        · have h13 := eq_iv rfl rfl c_h12
          refine Sp.g (ck_iv (by omega) (by omega)) ?_
          have h14 := a_75 I_S ((x5).toNatClampNeg)
          have h15 := i32 x2
          refine Sp.i (fun c_h16 => ?_) (fun c_h16 => ?_)
          · have h17 := eq_iv rfl rfl c_h16
            refine Sp.g (ck_iv (by omega) (by omega)) ?_
            refine Sp.i (fun c_h18 => ?_) (fun c_h18 => ?_)
            · have h19 := eq_iv rfl li_2 c_h18
              refine Sp.g (ck_iv (by omega) (by omega)) ?_
              have h20 := i32 x3
              refine Sp.g (ck_iv (by omega) (by omega)) ?_
              have h21 := a_75 I_S ((x3).toNatClampNeg)
              refine Sp.i (fun c_h22 => ?_) (fun c_h22 => ?_)
              · have h23 := eq_iv rfl rfl c_h22
                unfold fX12_isGlue_91
                unfold fX12_isGlue_96
                have h24 : ((1 : Int32)).toInt = 1 := li_1
                try have h25 : ((x5 + (1 : Int32))).toInt = (x5).toInt + (1) := add_iv rfl li_1 (by omega) (by omega)
                refine Sp.mono (ih x1 x2 x3 (1 : Int32) (x5 + (1 : Int32)) S I_S (by omega) (by omega) (by omega) (by omega) (by omega) (by omega)) (fun r p_h26 => ?_)
                exact by omega
              · have h27 := neq_iv rfl rfl c_h22
                unfold fX12_isGlue_95
                unfold fX12_isGlue_96
                have h28 : ((0 : Int32)).toInt = 0 := li_0
                try have h29 : ((x5 + (1 : Int32))).toInt = (x5).toInt + (1) := add_iv rfl li_1 (by omega) (by omega)
                refine Sp.mono (ih x1 x2 x3 (0 : Int32) (x5 + (1 : Int32)) S I_S (by omega) (by omega) (by omega) (by omega) (by omega) (by omega)) (fun r p_h30 => ?_)
                exact by omega
            · have h31 := neq_iv rfl li_2 c_h18
              unfold fX12_isGlue_95
              unfold fX12_isGlue_96
              have h32 := i32 x3
              have h33 : ((0 : Int32)).toInt = 0 := li_0
              try have h34 : ((x5 + (1 : Int32))).toInt = (x5).toInt + (1) := add_iv rfl li_1 (by omega) (by omega)
              refine Sp.mono (ih x1 x2 x3 (0 : Int32) (x5 + (1 : Int32)) S I_S (by omega) (by omega) (by omega) (by omega) (by omega) (by omega)) (fun r p_h35 => ?_)
              exact by omega
          · have h36 := neq_iv rfl rfl c_h16
            unfold fX12_isGlue_95
            unfold fX12_isGlue_96
            have h37 := i32 x3
            have h38 : ((0 : Int32)).toInt = 0 := li_0
            try have h39 : ((x5 + (1 : Int32))).toInt = (x5).toInt + (1) := add_iv rfl li_1 (by omega) (by omega)
            refine Sp.mono (ih x1 x2 x3 (0 : Int32) (x5 + (1 : Int32)) S I_S (by omega) (by omega) (by omega) (by omega) (by omega) (by omega)) (fun r p_h40 => ?_)
            exact by omega
        · have h41 := neq_iv rfl rfl c_h12
          unfold fX12_isGlue_95
          unfold fX12_isGlue_96
          have h42 := i32 x2
          have h43 := i32 x3
          have h44 : ((0 : Int32)).toInt = 0 := li_0
          try have h45 : ((x5 + (1 : Int32))).toInt = (x5).toInt + (1) := add_iv rfl li_1 (by omega) (by omega)
          refine Sp.mono (ih x1 x2 x3 (0 : Int32) (x5 + (1 : Int32)) S I_S (by omega) (by omega) (by omega) (by omega) (by omega) (by omega)) (fun r p_h46 => ?_)
          exact by omega
      · have h47 := neq_iv rfl li_0 c_h8
        unfold fX12_isGlue_91
        unfold fX12_isGlue_96
        have h48 := i32 x1
        have h49 := i32 x2
        have h50 := i32 x3
        have h51 : ((1 : Int32)).toInt = 1 := li_1
        try have h52 : ((x5 + (1 : Int32))).toInt = (x5).toInt + (1) := add_iv rfl li_1 (by omega) (by omega)
        refine Sp.mono (ih x1 x2 x3 (1 : Int32) (x5 + (1 : Int32)) S I_S (by omega) (by omega) (by omega) (by omega) (by omega) (by omega)) (fun r p_h53 => ?_)
        exact by omega
theorem s_fX12_isGlue (fu : Nat) (hfu : 1000000000000000000 ≤ fu) (x1 : Int32) (x2 : Int32) (x3 : Int32) (S : St) (I_S : Inv S) (g0 : 0 ≤ (x3).toInt) (g1 : (x3).toInt < 150) : Sp (fX12_isGlue fu x1 x2 x3 S) S (fun r => (0 ≤ r.toInt) ∧ (r.toInt ≤ 1)) := by
  unfold fX12_isGlue
  have h1 := i32 x3
  refine Sp.g (ck_iv (by omega) (by omega)) ?_
  have h2 := a_74 I_S ((x3).toNatClampNeg)
  have h3 := i32 x1
  refine Sp.i (fun c_h4 => ?_) (fun c_h4 => ?_)
  · have h5 := eq_iv rfl rfl c_h4
    refine Sp.g (ck_iv (by omega) (by omega)) ?_
    refine Sp.i (fun c_h6 => ?_) (fun c_h6 => ?_)
    · have h7 := eq_iv rfl li_1 c_h6
      have h8 := i32 x2
      have h9 : ((0 : Int32)).toInt = 0 := li_0
      refine Sp.mono (s_fX12_isGlue_28 fu hfu fu x1 x2 x3 (0 : Int32) (0 : Int32) S I_S (by omega) (by omega) (by omega) (by omega) (by omega) (by omega)) (fun r p_h10 => ?_)
      exact by omega
    · have h11 := neq_iv rfl li_1 c_h6
      have h12 : ((0 : Int32)).toInt = 0 := li_0
      exact Sp.so (by omega)
  · have h13 := neq_iv rfl rfl c_h4
    have h14 : ((0 : Int32)).toInt = 0 := li_0
    exact Sp.so (by omega)
theorem s_fX12_refers_74 (fu : Nat) (hfu : 1000000000000000000 ≤ fu) : ∀ (n : Nat) (x1 : Int32) (x2 : Int32) (x8 : Int32) (S : St), Inv S → RD S → (0 ≤ (x8).toInt) → ((x8).toInt ≤ 150) → ((S.1 63 27).toInt + 7000 * (150 - (x8).toInt) + 8000 ≤ 2000000000) → (150 - (x8).toInt).toNat < n → Sf (fX12_refers_74 fu n x1 x2 x8 S) (fun U r => Inv U ∧ Fr [(63, 28), (82, 0), (83, 0)] S U ∧ (True)) := by
  intro n
  induction n with
  | zero => intro x1 x2 x8 S I_S RD_S g0 g1 g2 hm; exact absurd hm (Nat.not_lt_zero _)
  | succ n ih =>
    intro x1 x2 x8 S I_S RD_S g0 g1 g2 hm
    rw [fX12_refers_74_s]
    have F_S : Fr [(63, 28), (82, 0), (83, 0)] S S := Fr.refl _ _
    have h1 := b_63_27 I_S
    have h2 := b_63_20 I_S
    have h3 := i32 x8
    refine Sf.i (fun c_h4 => ?_) (fun c_h4 => ?_)
    · have h5 := le_iv rfl rfl c_h4
      exact Sf.so ⟨I_S, F_S, trivial⟩
    · have h6 := nle_iv rfl rfl c_h4
      have h7 := i32 x1
      have h8 := i32 x2
      refine Sf.bp (s_fX12_isGlue fu hfu x1 x2 x8 S I_S (by omega) (by omega)) (fun r_88 p_r_88 => ?_)
      have h9 := i32 r_88
      refine Sf.i (fun c_h10 => ?_) (fun c_h10 => ?_)
      · have h11 := eq_iv rfl li_0 c_h10
        unfold fX12_refers_100
        try have h12 : ((x8 + (1 : Int32))).toInt = (x8).toInt + (1) := add_iv rfl li_1 (by omega) (by omega)
        have h13 := b_63_27 I_S
        refine Sf.mono (ih x1 x2 (x8 + (1 : Int32)) S I_S RD_S (by omega) (by omega) (by omega) (by omega)) (fun U r p_h14 => ?_)
        obtain ⟨I_U, G_U, p_h14⟩ := p_h14
        have h15 := ti_eq (G_U 63 20 rfl)
        have RD_U := RD_fr (U := U) RD_S (G_U 63 20 rfl) (fun b => G_U 76 b rfl) (fun b => G_U 77 b rfl)
        exact ⟨I_U, Fr.tr F_S G_U rfl, trivial⟩
      · have h16 := neq_iv rfl li_0 c_h10
        have h17 := b_63_27 I_S
        refine Sf.b (s_fX12_putRecord fu hfu x8 S I_S RD_S (by omega) (by omega) (by omega)) (fun S_97 r_97_ p_r_97_ => ?_)
        obtain ⟨I_S_97, G_S_97, p_r_97_⟩ := p_r_97_
        have F_S_97 := Fr.tr F_S G_S_97 rfl
        have RD_S_97 := RD_fr (U := S_97) RD_S (G_S_97 63 20 rfl) (fun b => G_S_97 76 b rfl) (fun b => G_S_97 77 b rfl)
        have h18 := b_63_27 I_S_97
        have h19 := ti_eq (G_S_97 63 20 rfl)
        unfold fX12_refers_100
        try have h20 : ((x8 + (1 : Int32))).toInt = (x8).toInt + (1) := add_iv rfl li_1 (by omega) (by omega)
        refine Sf.mono (ih x1 x2 (x8 + (1 : Int32)) S_97 I_S_97 RD_S_97 (by omega) (by omega) (by omega) (by omega)) (fun U r p_h21 => ?_)
        obtain ⟨I_U, G_U, p_h21⟩ := p_h21
        have h22 := ti_eq (G_U 63 20 rfl)
        have RD_U := RD_fr (U := U) RD_S_97 (G_U 63 20 rfl) (fun b => G_U 76 b rfl) (fun b => G_U 77 b rfl)
        exact ⟨I_U, Fr.tr F_S_97 G_U rfl, trivial⟩
theorem s_fX12_refers_6 (fu : Nat) (hfu : 1000000000000000000 ≤ fu) : ∀ (n : Nat) (x1 : Int32) (x2 : Int32) (x3 : Int32) (x4 : Int32) (x5 : Int32) (x6 : Int32) (x7 : Int32) (S : St), Inv S → RD S → (0 ≤ (x4).toInt) → ((x4).toInt ≤ 299) → (0 ≤ (x7).toInt) → (150 - (x7).toInt).toNat < n → Sf (fX12_refers_6 fu n x1 x2 x3 x4 x5 x6 x7 S) (fun U r => Inv U ∧ Fr [(63, 28), (82, 0), (83, 0), (84, 0)] S U ∧ (True)) := by
  intro n
  induction n with
  | zero => intro x1 x2 x3 x4 x5 x6 x7 S I_S RD_S g0 g1 g2 hm; exact absurd hm (Nat.not_lt_zero _)
  | succ n ih =>
    intro x1 x2 x3 x4 x5 x6 x7 S I_S RD_S g0 g1 g2 hm
    rw [fX12_refers_6_s]
    have F_S : Fr [(63, 28), (82, 0), (83, 0), (84, 0)] S S := Fr.refl _ _
    have h1 := b_63_20 I_S
    have h2 := i32 x7
    refine Sf.i (fun c_h3 => ?_) (fun c_h3 => ?_)
    · have h4 := le_iv rfl rfl c_h3
      have h5 := i32 x1
      have h6 := i32 x2
      have h7 : ((2 : Int32)).toInt = 2 := li_2
      have h8 : ((0 : Int32)).toInt = 0 := li_0
      refine Sf.b (s_fX12_tells fu hfu x1 x2 (2 : Int32) (0 : Int32) S I_S) (fun S_47 r_47 p_r_47 => ?_)
      obtain ⟨I_S_47, G_S_47, p_r_47⟩ := p_r_47
      have F_S_47 := Fr.tr F_S G_S_47 rfl
      have RD_S_47 := RD_fr (U := S_47) RD_S (G_S_47 63 20 rfl) (fun b => G_S_47 76 b rfl) (fun b => G_S_47 77 b rfl)
      have h9 := ti_eq (G_S_47 63 20 rfl)
      have h10 := ti_eq (G_S_47 63 27 rfl)
      have h11 := i32 x3
      have h12 := i32 r_47
      have h13 := i32 x6
      have h14 := i32 x4
      have h15 := i32 x5
      refine Sf.b (s_fX12_putTop fu hfu x3 (0 : Int32) (0 : Int32) r_47 x6 x4 x5 S_47 I_S_47 (by omega) (by omega)) (fun S_64 r_64_ p_r_64_ => ?_)
      obtain ⟨I_S_64, G_S_64, p_r_64_⟩ := p_r_64_
      have F_S_64 := Fr.tr F_S_47 G_S_64 rfl
      have RD_S_64 := RD_fr (U := S_64) RD_S_47 (G_S_64 63 20 rfl) (fun b => G_S_64 76 b rfl) (fun b => G_S_64 77 b rfl)
      have h16 := b_63_27 I_S_64
      have h17 := ti_eq (G_S_64 63 20 rfl)
      refine Sf.b (s_fX12_putTold fu hfu S_64 I_S_64 RD_S_64 (by omega)) (fun S_68 r_68_ p_r_68_ => ?_)
      obtain ⟨I_S_68, G_S_68, p_r_68_⟩ := p_r_68_
      have F_S_68 := Fr.tr F_S_64 G_S_68 rfl
      have RD_S_68 := RD_fr (U := S_68) RD_S_64 (G_S_68 63 20 rfl) (fun b => G_S_68 76 b rfl) (fun b => G_S_68 77 b rfl)
      have h18 := b_63_27 I_S_68
      have h19 := ti_eq (G_S_68 63 20 rfl)
      refine Sf.mono (s_fX12_refers_74 fu hfu fu x1 x2 (0 : Int32) S_68 I_S_68 RD_S_68 (by omega) (by omega) (by omega) (by omega)) (fun U r p_h20 => ?_)
      obtain ⟨I_U, G_U, p_h20⟩ := p_h20
      have h21 := ti_eq (G_U 63 20 rfl)
      have RD_U := RD_fr (U := U) RD_S_68 (G_U 63 20 rfl) (fun b => G_U 76 b rfl) (fun b => G_U 77 b rfl)
      exact ⟨I_U, Fr.tr F_S_68 G_U rfl, trivial⟩
    · have h22 := nle_iv rfl rfl c_h3
      have h23 := i32 x1
      have h24 := i32 x2
      refine Sf.bp (s_fX12_isGlue fu hfu x1 x2 x7 S I_S (by omega) (by omega)) (fun r_22 p_r_22 => ?_)
      have h25 := i32 r_22
      refine Sf.i (fun c_h26 => ?_) (fun c_h26 => ?_)
      · have h27 := eq_iv rfl li_0 c_h26
        unfold fX12_refers_33
        have h28 := i32 x3
        have h29 := i32 x4
        have h30 := i32 x5
        have h31 := i32 x6
        try have h32 : ((x6 + (0 : Int32))).toInt = (x6).toInt + (0) := add_iv rfl li_0 (by omega) (by omega)
        try have h33 : ((x7 + (1 : Int32))).toInt = (x7).toInt + (1) := add_iv rfl li_1 (by omega) (by omega)
        refine Sf.mono (ih x1 x2 x3 x4 x5 (x6 + (0 : Int32)) (x7 + (1 : Int32)) S I_S RD_S (by omega) (by omega) (by omega) (by omega)) (fun U r p_h34 => ?_)
        obtain ⟨I_U, G_U, p_h34⟩ := p_h34
        have h35 := ti_eq (G_U 63 20 rfl)
        have RD_U := RD_fr (U := U) RD_S (G_U 63 20 rfl) (fun b => G_U 76 b rfl) (fun b => G_U 77 b rfl)
        exact ⟨I_U, Fr.tr F_S G_U rfl, trivial⟩
      · have h36 := neq_iv rfl li_0 c_h26
        unfold fX12_refers_33
        have h37 := i32 x3
        have h38 := i32 x4
        have h39 := i32 x5
        have h40 := i32 x6
        try have h41 : ((x6 + (1 : Int32))).toInt = (x6).toInt + (1) := add_iv rfl li_1 (by omega) (by omega)
        try have h42 : ((x7 + (1 : Int32))).toInt = (x7).toInt + (1) := add_iv rfl li_1 (by omega) (by omega)
        refine Sf.mono (ih x1 x2 x3 x4 x5 (x6 + (1 : Int32)) (x7 + (1 : Int32)) S I_S RD_S (by omega) (by omega) (by omega) (by omega)) (fun U r p_h43 => ?_)
        obtain ⟨I_U, G_U, p_h43⟩ := p_h43
        have h44 := ti_eq (G_U 63 20 rfl)
        have RD_U := RD_fr (U := U) RD_S (G_U 63 20 rfl) (fun b => G_U 76 b rfl) (fun b => G_U 77 b rfl)
        exact ⟨I_U, Fr.tr F_S G_U rfl, trivial⟩
theorem s_fX12_refers (fu : Nat) (hfu : 1000000000000000000 ≤ fu) (x1 : Int32) (x2 : Int32) (x3 : Int32) (x4 : Int32) (x5 : Int32) (S : St) (I_S : Inv S) (RD_S : RD S) (g0 : 0 ≤ (x4).toInt) (g1 : (x4).toInt ≤ 299) : Sf (fX12_refers fu x1 x2 x3 x4 x5 S) (fun U r => Inv U ∧ Fr [(63, 28), (82, 0), (83, 0), (84, 0)] S U ∧ (True)) := by
  unfold fX12_refers
  have F_S : Fr [(63, 28), (82, 0), (83, 0), (84, 0)] S S := Fr.refl _ _
  have h1 := i32 x1
  have h2 := i32 x2
  have h3 := i32 x3
  have h4 := i32 x4
  have h5 := i32 x5
  have h6 : ((0 : Int32)).toInt = 0 := li_0
  refine Sf.mono (s_fX12_refers_6 fu hfu fu x1 x2 x3 x4 x5 (0 : Int32) (0 : Int32) S I_S RD_S (by omega) (by omega) (by omega) (by omega)) (fun U r p_h7 => ?_)
  obtain ⟨I_U, G_U, p_h7⟩ := p_h7
  have h8 := ti_eq (G_U 63 20 rfl)
  have RD_U := RD_fr (U := U) RD_S (G_U 63 20 rfl) (fun b => G_U 76 b rfl) (fun b => G_U 77 b rfl)
  exact ⟨I_U, Fr.tr F_S G_U rfl, trivial⟩
theorem s_fX12_says (fu : Nat) (hfu : 1000000000000000000 ≤ fu) (x1 : Int32) (x2 : Int32) (x3 : Int32) (x4 : Int32) (S : St) (I_S : Inv S) (RD_S : RD S) (g0 : 0 ≤ (x1).toInt) (g1 : (x1).toInt < 12) (g2 : 0 ≤ (x3).toInt) (g3 : (x3).toInt ≤ 299) : Sf (fX12_says fu x1 x2 x3 x4 S) (fun U r => Inv U ∧ Fr [(63, 28), (82, 0), (83, 0), (84, 0)] S U ∧ ((0 ≤ r.toInt) ∧ (r.toInt ≤ 1000))) := by
  unfold fX12_says
  have F_S : Fr [(63, 28), (82, 0), (83, 0), (84, 0)] S S := Fr.refl _ _
  have h1 := i32 x1
  have h2 := i32 x3
  have h3 := b_63_14 I_S
  refine Sf.bp (s_fX12_zoneFor fu hfu x1 x3 S I_S (by omega) (by omega) (by omega) (by omega)) (fun r_3 p_r_3 => ?_)
  have h4 := i32 r_3
  refine Sf.i (fun c_h5 => ?_) (fun c_h5 => ?_)
  · have h6 := le_iv li_0 rfl c_h5
    refine Sf.bp (s_fX12_cutOf fu hfu r_3 x3 S I_S (by omega) (by omega) (by omega) (by omega)) (fun r_19 p_r_19 => ?_)
    have h7 := i32 r_19
    refine Sf.i (fun c_h8 => ?_) (fun c_h8 => ?_)
    · have h9 := lt_iv rfl li_0 c_h8
      have h10 := i32 x4
      refine Sf.i (fun c_h11 => ?_) (fun c_h11 => ?_)
      · have h12 := eq_iv rfl li_5 c_h11
        unfold fX12_says_79
        refine Sf.it (by decide) ?_
        have h13 : ((0 : Int32)).toInt = 0 := li_0
        refine Sf.b (s_fX12_tells fu hfu r_3 x3 x4 (0 : Int32) S I_S) (fun S_93 r_93 p_r_93 => ?_)
        obtain ⟨I_S_93, G_S_93, p_r_93⟩ := p_r_93
        have F_S_93 := Fr.tr F_S G_S_93 rfl
        have RD_S_93 := RD_fr (U := S_93) RD_S (G_S_93 63 20 rfl) (fun b => G_S_93 76 b rfl) (fun b => G_S_93 77 b rfl)
        have h14 := ti_eq (G_S_93 63 14 rfl)
        have h15 := ti_eq (G_S_93 63 27 rfl)
        unfold fX12_says_98
        have h16 := i32 r_93
        refine Sf.i (fun c_h17 => ?_) (fun c_h17 => ?_)
        · have h18 := le_iv rfl li_0 c_h17
          refine Sf.bp (s_fX12_hasBelow fu hfu r_3 x3 S_93 I_S_93 (by omega) (by omega) (by omega) (by omega)) (fun r_134 p_r_134 => ?_)
          have h19 := i32 r_134
          refine Sf.i (fun c_h20 => ?_) (fun c_h20 => ?_)
          · have h21 := eq_iv rfl li_0 c_h20
            unfold fX12_says_145
            have h22 := i32 x2
            have h23 : ((1 : Int32)).toInt = 1 := li_1
            refine Sf.b (s_fX12_putTop fu hfu x2 ((1024 : Int32) ||| (3 : Int32)) (0 : Int32) (1 : Int32) (0 : Int32) x3 x4 S_93 I_S_93 (by omega) (by omega)) (fun S_152 r_152_ p_r_152_ => ?_)
            obtain ⟨I_S_152, G_S_152, p_r_152_⟩ := p_r_152_
            have F_S_152 := Fr.tr F_S_93 G_S_152 rfl
            have RD_S_152 := RD_fr (U := S_152) RD_S_93 (G_S_152 63 20 rfl) (fun b => G_S_152 76 b rfl) (fun b => G_S_152 77 b rfl)
            have h24 := b_63_27 I_S_152
            have h25 := ti_eq (G_S_152 63 14 rfl)
            refine Sf.b (s_fX12_putSoa fu hfu r_3 S_152 I_S_152 (by omega) (by omega) (by omega)) (fun S_158 r_158_ p_r_158_ => ?_)
            obtain ⟨I_S_158, G_S_158, p_r_158_⟩ := p_r_158_
            have F_S_158 := Fr.tr F_S_152 G_S_158 rfl
            have RD_S_158 := RD_fr (U := S_158) RD_S_152 (G_S_158 63 20 rfl) (fun b => G_S_158 76 b rfl) (fun b => G_S_158 77 b rfl)
            have h26 := ti_eq (G_S_158 63 14 rfl)
            unfold fX12_says_161
            have h27 := b_63_27 I_S_158
            refine Sf.i (fun c_h28 => ?_) (fun c_h28 => ?_)
            · have h29 := le_iv rfl li_1000 c_h28
              exact Sf.so ⟨I_S_158, F_S_158, by omega⟩
            · have h30 := nle_iv rfl li_1000 c_h28
              have h31 : ((0 : Int32)).toInt = 0 := li_0
              exact Sf.so ⟨I_S_158, F_S_158, by omega⟩
          · have h32 := neq_iv rfl li_0 c_h20
            unfold fX12_says_145
            have h33 := i32 x2
            have h34 : ((1 : Int32)).toInt = 1 := li_1
            refine Sf.b (s_fX12_putTop fu hfu x2 ((1024 : Int32) ||| (0 : Int32)) (0 : Int32) (1 : Int32) (0 : Int32) x3 x4 S_93 I_S_93 (by omega) (by omega)) (fun S_152 r_152_ p_r_152_ => ?_)
            obtain ⟨I_S_152, G_S_152, p_r_152_⟩ := p_r_152_
            have F_S_152 := Fr.tr F_S_93 G_S_152 rfl
            have RD_S_152 := RD_fr (U := S_152) RD_S_93 (G_S_152 63 20 rfl) (fun b => G_S_152 76 b rfl) (fun b => G_S_152 77 b rfl)
            have h35 := b_63_27 I_S_152
            have h36 := ti_eq (G_S_152 63 14 rfl)
            refine Sf.b (s_fX12_putSoa fu hfu r_3 S_152 I_S_152 (by omega) (by omega) (by omega)) (fun S_158 r_158_ p_r_158_ => ?_)
            obtain ⟨I_S_158, G_S_158, p_r_158_⟩ := p_r_158_
            have F_S_158 := Fr.tr F_S_152 G_S_158 rfl
            have RD_S_158 := RD_fr (U := S_158) RD_S_152 (G_S_158 63 20 rfl) (fun b => G_S_158 76 b rfl) (fun b => G_S_158 77 b rfl)
            have h37 := ti_eq (G_S_158 63 14 rfl)
            unfold fX12_says_161
            have h38 := b_63_27 I_S_158
            refine Sf.i (fun c_h39 => ?_) (fun c_h39 => ?_)
            · have h40 := le_iv rfl li_1000 c_h39
              exact Sf.so ⟨I_S_158, F_S_158, by omega⟩
            · have h41 := nle_iv rfl li_1000 c_h39
              have h42 : ((0 : Int32)).toInt = 0 := li_0
              exact Sf.so ⟨I_S_158, F_S_158, by omega⟩
        · have h43 := nle_iv rfl li_0 c_h17
          have h44 := i32 x2
          have h45 : ((1024 : Int32)).toInt = 1024 := li_1024
          refine Sf.b (s_fX12_putTop fu hfu x2 (1024 : Int32) r_93 (0 : Int32) (0 : Int32) x3 x4 S_93 I_S_93 (by omega) (by omega)) (fun S_115 r_115_ p_r_115_ => ?_)
          obtain ⟨I_S_115, G_S_115, p_r_115_⟩ := p_r_115_
          have F_S_115 := Fr.tr F_S_93 G_S_115 rfl
          have RD_S_115 := RD_fr (U := S_115) RD_S_93 (G_S_115 63 20 rfl) (fun b => G_S_115 76 b rfl) (fun b => G_S_115 77 b rfl)
          have h46 := b_63_27 I_S_115
          have h47 := ti_eq (G_S_115 63 14 rfl)
          refine Sf.b (s_fX12_putTold fu hfu S_115 I_S_115 RD_S_115 (by omega)) (fun S_119 r_119_ p_r_119_ => ?_)
          obtain ⟨I_S_119, G_S_119, p_r_119_⟩ := p_r_119_
          have F_S_119 := Fr.tr F_S_115 G_S_119 rfl
          have RD_S_119 := RD_fr (U := S_119) RD_S_115 (G_S_119 63 20 rfl) (fun b => G_S_119 76 b rfl) (fun b => G_S_119 77 b rfl)
          have h48 := b_63_27 I_S_119
          have h49 := ti_eq (G_S_119 63 14 rfl)
          unfold fX12_says_161
          refine Sf.i (fun c_h50 => ?_) (fun c_h50 => ?_)
          · have h51 := le_iv rfl li_1000 c_h50
            exact Sf.so ⟨I_S_119, F_S_119, by omega⟩
          · have h52 := nle_iv rfl li_1000 c_h50
            have h53 : ((0 : Int32)).toInt = 0 := li_0
            exact Sf.so ⟨I_S_119, F_S_119, by omega⟩
      · have h54 := neq_iv rfl li_5 c_h11
        have h55 : ((5 : Int32)).toInt = 5 := li_5
        have h56 : ((1 : Int32)).toInt = 1 := li_1
        refine Sf.b (s_fX12_tells fu hfu r_3 x3 (5 : Int32) (1 : Int32) S I_S) (fun S_72 r_72 p_r_72 => ?_)
        obtain ⟨I_S_72, G_S_72, p_r_72⟩ := p_r_72
        have F_S_72 := Fr.tr F_S G_S_72 rfl
        have RD_S_72 := RD_fr (U := S_72) RD_S (G_S_72 63 20 rfl) (fun b => G_S_72 76 b rfl) (fun b => G_S_72 77 b rfl)
        have h57 := ti_eq (G_S_72 63 14 rfl)
        have h58 := ti_eq (G_S_72 63 27 rfl)
        unfold fX12_says_79
        have h59 := i32 r_72
        refine Sf.i (fun c_h60 => ?_) (fun c_h60 => ?_)
        · have h61 := eq_iv rfl li_0 c_h60
          have h62 : ((0 : Int32)).toInt = 0 := li_0
          refine Sf.b (s_fX12_tells fu hfu r_3 x3 x4 (0 : Int32) S_72 I_S_72) (fun S_93 r_93 p_r_93 => ?_)
          obtain ⟨I_S_93, G_S_93, p_r_93⟩ := p_r_93
          have F_S_93 := Fr.tr F_S_72 G_S_93 rfl
          have RD_S_93 := RD_fr (U := S_93) RD_S_72 (G_S_93 63 20 rfl) (fun b => G_S_93 76 b rfl) (fun b => G_S_93 77 b rfl)
          have h63 := ti_eq (G_S_93 63 14 rfl)
          have h64 := ti_eq (G_S_93 63 27 rfl)
          unfold fX12_says_98
          have h65 := i32 r_93
          refine Sf.i (fun c_h66 => ?_) (fun c_h66 => ?_)
          · have h67 := le_iv rfl li_0 c_h66
            refine Sf.bp (s_fX12_hasBelow fu hfu r_3 x3 S_93 I_S_93 (by omega) (by omega) (by omega) (by omega)) (fun r_134 p_r_134 => ?_)
            have h68 := i32 r_134
            refine Sf.i (fun c_h69 => ?_) (fun c_h69 => ?_)
            · have h70 := eq_iv rfl li_0 c_h69
              unfold fX12_says_145
              have h71 := i32 x2
              refine Sf.b (s_fX12_putTop fu hfu x2 ((1024 : Int32) ||| (3 : Int32)) (0 : Int32) (1 : Int32) (0 : Int32) x3 x4 S_93 I_S_93 (by omega) (by omega)) (fun S_152 r_152_ p_r_152_ => ?_)
              obtain ⟨I_S_152, G_S_152, p_r_152_⟩ := p_r_152_
              have F_S_152 := Fr.tr F_S_93 G_S_152 rfl
              have RD_S_152 := RD_fr (U := S_152) RD_S_93 (G_S_152 63 20 rfl) (fun b => G_S_152 76 b rfl) (fun b => G_S_152 77 b rfl)
              have h72 := b_63_27 I_S_152
              have h73 := ti_eq (G_S_152 63 14 rfl)
              refine Sf.b (s_fX12_putSoa fu hfu r_3 S_152 I_S_152 (by omega) (by omega) (by omega)) (fun S_158 r_158_ p_r_158_ => ?_)
              obtain ⟨I_S_158, G_S_158, p_r_158_⟩ := p_r_158_
              have F_S_158 := Fr.tr F_S_152 G_S_158 rfl
              have RD_S_158 := RD_fr (U := S_158) RD_S_152 (G_S_158 63 20 rfl) (fun b => G_S_158 76 b rfl) (fun b => G_S_158 77 b rfl)
              have h74 := ti_eq (G_S_158 63 14 rfl)
              unfold fX12_says_161
              have h75 := b_63_27 I_S_158
              refine Sf.i (fun c_h76 => ?_) (fun c_h76 => ?_)
              · have h77 := le_iv rfl li_1000 c_h76
                exact Sf.so ⟨I_S_158, F_S_158, by omega⟩
              · have h78 := nle_iv rfl li_1000 c_h76
                have h79 : ((0 : Int32)).toInt = 0 := li_0
                exact Sf.so ⟨I_S_158, F_S_158, by omega⟩
            · have h80 := neq_iv rfl li_0 c_h69
              unfold fX12_says_145
              have h81 := i32 x2
              refine Sf.b (s_fX12_putTop fu hfu x2 ((1024 : Int32) ||| (0 : Int32)) (0 : Int32) (1 : Int32) (0 : Int32) x3 x4 S_93 I_S_93 (by omega) (by omega)) (fun S_152 r_152_ p_r_152_ => ?_)
              obtain ⟨I_S_152, G_S_152, p_r_152_⟩ := p_r_152_
              have F_S_152 := Fr.tr F_S_93 G_S_152 rfl
              have RD_S_152 := RD_fr (U := S_152) RD_S_93 (G_S_152 63 20 rfl) (fun b => G_S_152 76 b rfl) (fun b => G_S_152 77 b rfl)
              have h82 := b_63_27 I_S_152
              have h83 := ti_eq (G_S_152 63 14 rfl)
              refine Sf.b (s_fX12_putSoa fu hfu r_3 S_152 I_S_152 (by omega) (by omega) (by omega)) (fun S_158 r_158_ p_r_158_ => ?_)
              obtain ⟨I_S_158, G_S_158, p_r_158_⟩ := p_r_158_
              have F_S_158 := Fr.tr F_S_152 G_S_158 rfl
              have RD_S_158 := RD_fr (U := S_158) RD_S_152 (G_S_158 63 20 rfl) (fun b => G_S_158 76 b rfl) (fun b => G_S_158 77 b rfl)
              have h84 := ti_eq (G_S_158 63 14 rfl)
              unfold fX12_says_161
              have h85 := b_63_27 I_S_158
              refine Sf.i (fun c_h86 => ?_) (fun c_h86 => ?_)
              · have h87 := le_iv rfl li_1000 c_h86
                exact Sf.so ⟨I_S_158, F_S_158, by omega⟩
              · have h88 := nle_iv rfl li_1000 c_h86
                have h89 : ((0 : Int32)).toInt = 0 := li_0
                exact Sf.so ⟨I_S_158, F_S_158, by omega⟩
          · have h90 := nle_iv rfl li_0 c_h66
            have h91 := i32 x2
            have h92 : ((1024 : Int32)).toInt = 1024 := li_1024
            refine Sf.b (s_fX12_putTop fu hfu x2 (1024 : Int32) r_93 (0 : Int32) (0 : Int32) x3 x4 S_93 I_S_93 (by omega) (by omega)) (fun S_115 r_115_ p_r_115_ => ?_)
            obtain ⟨I_S_115, G_S_115, p_r_115_⟩ := p_r_115_
            have F_S_115 := Fr.tr F_S_93 G_S_115 rfl
            have RD_S_115 := RD_fr (U := S_115) RD_S_93 (G_S_115 63 20 rfl) (fun b => G_S_115 76 b rfl) (fun b => G_S_115 77 b rfl)
            have h93 := b_63_27 I_S_115
            have h94 := ti_eq (G_S_115 63 14 rfl)
            refine Sf.b (s_fX12_putTold fu hfu S_115 I_S_115 RD_S_115 (by omega)) (fun S_119 r_119_ p_r_119_ => ?_)
            obtain ⟨I_S_119, G_S_119, p_r_119_⟩ := p_r_119_
            have F_S_119 := Fr.tr F_S_115 G_S_119 rfl
            have RD_S_119 := RD_fr (U := S_119) RD_S_115 (G_S_119 63 20 rfl) (fun b => G_S_119 76 b rfl) (fun b => G_S_119 77 b rfl)
            have h95 := b_63_27 I_S_119
            have h96 := ti_eq (G_S_119 63 14 rfl)
            unfold fX12_says_161
            refine Sf.i (fun c_h97 => ?_) (fun c_h97 => ?_)
            · have h98 := le_iv rfl li_1000 c_h97
              exact Sf.so ⟨I_S_119, F_S_119, by omega⟩
            · have h99 := nle_iv rfl li_1000 c_h97
              have h100 : ((0 : Int32)).toInt = 0 := li_0
              exact Sf.so ⟨I_S_119, F_S_119, by omega⟩
        · have h101 := neq_iv rfl li_0 c_h60
          unfold fX12_says_98
          refine Sf.i (fun c_h102 => ?_) (fun c_h102 => ?_)
          · have h103 := le_iv rfl li_0 c_h102
            refine Sf.bp (s_fX12_hasBelow fu hfu r_3 x3 S_72 I_S_72 (by omega) (by omega) (by omega) (by omega)) (fun r_134 p_r_134 => ?_)
            have h104 := i32 r_134
            refine Sf.i (fun c_h105 => ?_) (fun c_h105 => ?_)
            · have h106 := eq_iv rfl li_0 c_h105
              unfold fX12_says_145
              have h107 := i32 x2
              have h108 : ((0 : Int32)).toInt = 0 := li_0
              refine Sf.b (s_fX12_putTop fu hfu x2 ((1024 : Int32) ||| (3 : Int32)) (0 : Int32) (1 : Int32) (0 : Int32) x3 x4 S_72 I_S_72 (by omega) (by omega)) (fun S_152 r_152_ p_r_152_ => ?_)
              obtain ⟨I_S_152, G_S_152, p_r_152_⟩ := p_r_152_
              have F_S_152 := Fr.tr F_S_72 G_S_152 rfl
              have RD_S_152 := RD_fr (U := S_152) RD_S_72 (G_S_152 63 20 rfl) (fun b => G_S_152 76 b rfl) (fun b => G_S_152 77 b rfl)
              have h109 := b_63_27 I_S_152
              have h110 := ti_eq (G_S_152 63 14 rfl)
              refine Sf.b (s_fX12_putSoa fu hfu r_3 S_152 I_S_152 (by omega) (by omega) (by omega)) (fun S_158 r_158_ p_r_158_ => ?_)
              obtain ⟨I_S_158, G_S_158, p_r_158_⟩ := p_r_158_
              have F_S_158 := Fr.tr F_S_152 G_S_158 rfl
              have RD_S_158 := RD_fr (U := S_158) RD_S_152 (G_S_158 63 20 rfl) (fun b => G_S_158 76 b rfl) (fun b => G_S_158 77 b rfl)
              have h111 := ti_eq (G_S_158 63 14 rfl)
              unfold fX12_says_161
              have h112 := b_63_27 I_S_158
              refine Sf.i (fun c_h113 => ?_) (fun c_h113 => ?_)
              · have h114 := le_iv rfl li_1000 c_h113
                exact Sf.so ⟨I_S_158, F_S_158, by omega⟩
              · have h115 := nle_iv rfl li_1000 c_h113
                have h116 : ((0 : Int32)).toInt = 0 := li_0
                exact Sf.so ⟨I_S_158, F_S_158, by omega⟩
            · have h117 := neq_iv rfl li_0 c_h105
              unfold fX12_says_145
              have h118 := i32 x2
              have h119 : ((0 : Int32)).toInt = 0 := li_0
              refine Sf.b (s_fX12_putTop fu hfu x2 ((1024 : Int32) ||| (0 : Int32)) (0 : Int32) (1 : Int32) (0 : Int32) x3 x4 S_72 I_S_72 (by omega) (by omega)) (fun S_152 r_152_ p_r_152_ => ?_)
              obtain ⟨I_S_152, G_S_152, p_r_152_⟩ := p_r_152_
              have F_S_152 := Fr.tr F_S_72 G_S_152 rfl
              have RD_S_152 := RD_fr (U := S_152) RD_S_72 (G_S_152 63 20 rfl) (fun b => G_S_152 76 b rfl) (fun b => G_S_152 77 b rfl)
              have h120 := b_63_27 I_S_152
              have h121 := ti_eq (G_S_152 63 14 rfl)
              refine Sf.b (s_fX12_putSoa fu hfu r_3 S_152 I_S_152 (by omega) (by omega) (by omega)) (fun S_158 r_158_ p_r_158_ => ?_)
              obtain ⟨I_S_158, G_S_158, p_r_158_⟩ := p_r_158_
              have F_S_158 := Fr.tr F_S_152 G_S_158 rfl
              have RD_S_158 := RD_fr (U := S_158) RD_S_152 (G_S_158 63 20 rfl) (fun b => G_S_158 76 b rfl) (fun b => G_S_158 77 b rfl)
              have h122 := ti_eq (G_S_158 63 14 rfl)
              unfold fX12_says_161
              have h123 := b_63_27 I_S_158
              refine Sf.i (fun c_h124 => ?_) (fun c_h124 => ?_)
              · have h125 := le_iv rfl li_1000 c_h124
                exact Sf.so ⟨I_S_158, F_S_158, by omega⟩
              · have h126 := nle_iv rfl li_1000 c_h124
                have h127 : ((0 : Int32)).toInt = 0 := li_0
                exact Sf.so ⟨I_S_158, F_S_158, by omega⟩
          · have h128 := nle_iv rfl li_0 c_h102
            have h129 := i32 x2
            have h130 : ((1024 : Int32)).toInt = 1024 := li_1024
            have h131 : ((0 : Int32)).toInt = 0 := li_0
            refine Sf.b (s_fX12_putTop fu hfu x2 (1024 : Int32) r_72 (0 : Int32) (0 : Int32) x3 x4 S_72 I_S_72 (by omega) (by omega)) (fun S_115 r_115_ p_r_115_ => ?_)
            obtain ⟨I_S_115, G_S_115, p_r_115_⟩ := p_r_115_
            have F_S_115 := Fr.tr F_S_72 G_S_115 rfl
            have RD_S_115 := RD_fr (U := S_115) RD_S_72 (G_S_115 63 20 rfl) (fun b => G_S_115 76 b rfl) (fun b => G_S_115 77 b rfl)
            have h132 := b_63_27 I_S_115
            have h133 := ti_eq (G_S_115 63 14 rfl)
            refine Sf.b (s_fX12_putTold fu hfu S_115 I_S_115 RD_S_115 (by omega)) (fun S_119 r_119_ p_r_119_ => ?_)
            obtain ⟨I_S_119, G_S_119, p_r_119_⟩ := p_r_119_
            have F_S_119 := Fr.tr F_S_115 G_S_119 rfl
            have RD_S_119 := RD_fr (U := S_119) RD_S_115 (G_S_119 63 20 rfl) (fun b => G_S_119 76 b rfl) (fun b => G_S_119 77 b rfl)
            have h134 := b_63_27 I_S_119
            have h135 := ti_eq (G_S_119 63 14 rfl)
            unfold fX12_says_161
            refine Sf.i (fun c_h136 => ?_) (fun c_h136 => ?_)
            · have h137 := le_iv rfl li_1000 c_h136
              exact Sf.so ⟨I_S_119, F_S_119, by omega⟩
            · have h138 := nle_iv rfl li_1000 c_h136
              have h139 : ((0 : Int32)).toInt = 0 := li_0
              exact Sf.so ⟨I_S_119, F_S_119, by omega⟩
    · have h140 := nlt_iv rfl li_0 c_h8
      have h141 := i32 x2
      have h142 := i32 x4
      refine Sf.b (s_fX12_refers fu hfu r_3 r_19 x2 x3 x4 S I_S RD_S (by omega) (by omega)) (fun S_38 r_38_ p_r_38_ => ?_)
      obtain ⟨I_S_38, G_S_38, p_r_38_⟩ := p_r_38_
      have F_S_38 := Fr.tr F_S G_S_38 rfl
      have RD_S_38 := RD_fr (U := S_38) RD_S (G_S_38 63 20 rfl) (fun b => G_S_38 76 b rfl) (fun b => G_S_38 77 b rfl)
      have h143 := ti_eq (G_S_38 63 14 rfl)
      have h144 := b_63_27 I_S_38
      refine Sf.i (fun c_h145 => ?_) (fun c_h145 => ?_)
      · have h146 := le_iv rfl li_1000 c_h145
        exact Sf.so ⟨I_S_38, F_S_38, by omega⟩
      · have h147 := nle_iv rfl li_1000 c_h145
        have h148 : ((0 : Int32)).toInt = 0 := li_0
        exact Sf.so ⟨I_S_38, F_S_38, by omega⟩
  · have h149 := nle_iv li_0 rfl c_h5
    have h150 : ((0 : Int32)).toInt = 0 := li_0
    exact Sf.so ⟨I_S, F_S, by omega⟩
theorem s_fX12_say_51 (fu : Nat) (hfu : 1000000000000000000 ≤ fu) : ∀ (n : Nat) (x4 : Int32) (S : St), Inv S → (0 ≤ (x4).toInt) → (1000 - (x4).toInt).toNat < n → Sf (fX12_say_51 fu n x4 S) (fun U r => Inv U ∧ Fr [(70, 0)] S U ∧ (True)) := by
  intro n
  induction n with
  | zero => intro x4 S I_S g0 hm; exact absurd hm (Nat.not_lt_zero _)
  | succ n ih =>
    intro x4 S I_S g0 hm
    rw [fX12_say_51_s]
    have F_S : Fr [(70, 0)] S S := Fr.refl _ _
    have h1 := b_63_10 I_S
    have h2 := i32 x4
    refine Sf.i (fun c_h3 => ?_) (fun c_h3 => ?_)
    · have h4 := le_iv rfl rfl c_h3
      exact Sf.so ⟨I_S, F_S, trivial⟩
    · have h5 := nle_iv rfl rfl c_h3
      refine Sf.g (ck_iv (by omega) (by omega)) ?_
      refine Sf.g (ck_iv (by omega) (by omega)) ?_
      have h6 := vpy (S.1 82 ((x4).toNatClampNeg))
      refine Sf.w I_S F_S rfl (i32 _).1 (i32 _).2 (fun S_73 I_S_73 F_S_73 v_S_73 f_S_73 l_S_73 => ?_)
      have h7 := ti_eq (f_S_73 63 10 (fun e => absurd e (by decide)))
      have h8 : (S_73.1 70 ((x4).toNatClampNeg)).toInt = ((vp_nar .byte (S.1 82 ((x4).toNatClampNeg)))).toInt := eq_iv rfl rfl v_S_73
      have h9 : (S_73.1 82 ((x4).toNatClampNeg)).toInt = (S.1 82 ((x4).toNatClampNeg)).toInt := ti_eq (f_S_73 82 ((x4).toNatClampNeg) (fun e => absurd e (by decide)))
      try have h10 : ((x4 + (1 : Int32))).toInt = (x4).toInt + (1) := add_iv rfl li_1 (by omega) (by omega)
      refine Sf.mono (ih (x4 + (1 : Int32)) S_73 I_S_73 (by omega) (by omega)) (fun U r p_h11 => ?_)
      obtain ⟨I_U, G_U, p_h11⟩ := p_h11
      have h12 := ti_eq (G_U 63 10 rfl)
      exact ⟨I_U, Fr.tr F_S_73 G_U rfl, trivial⟩
