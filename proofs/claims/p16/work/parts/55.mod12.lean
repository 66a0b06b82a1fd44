theorem s_fX12_hasNothing (fu : Nat) (hfu : 1000000000000000000 ≤ fu) (x1 : Int32) (x2 : Int32) (S : St) (I_S : Inv S) : Sp (fX12_hasNothing fu x1 x2 S) S (fun r => (0 ≤ r.toInt) ∧ (r.toInt ≤ 1)) := by
  unfold fX12_hasNothing
  have h1 := i32 x1
  have h2 := i32 x2
  have h3 := b_63_50 I_S
  refine Sp.b (s_fX12_find fu hfu x1 x2 S I_S) (fun r_3 p_r_3 => ?_)
  have h4 := i32 r_3
  refine Sp.i (fun c_h5 => ?_) (fun c_h5 => ?_)
  · have h6 := lt_iv rfl li_0 c_h5
    have h7 : ((0 : Int32)).toInt = 0 := li_0
    exact Sp.so (by omega)
  · have h8 := nlt_iv rfl li_0 c_h5
    refine Sp.g (ck_iv (by omega) (by omega)) ?_
    have h9 := a_93 I_S ((r_3).toNatClampNeg)
    refine Sp.i (fun c_h10 => ?_) (fun c_h10 => ?_)
    · have h11 := eq_iv rfl li_0 c_h10
      have h12 : ((1 : Int32)).toInt = 1 := li_1
      exact Sp.so (by omega)
    · have h13 := neq_iv rfl li_0 c_h10
      have h14 : ((0 : Int32)).toInt = 0 := li_0
      exact Sp.so (by omega)
theorem s_fX12_set (fu : Nat) (hfu : 1000000000000000000 ≤ fu) (x1 : Int32) (x2 : Int32) (S : St) (I_S : Inv S) : Sp (fX12_set fu x1 x2 S) S (fun r => (-1 ≤ r.toInt) ∧ (r.toInt < (S.1 63 50).toInt) ∧ ((0 ≤ r.toInt → (S.1 92 (r.toNatClampNeg)).toInt = (x2).toInt ∧ 0 < (S.1 93 (r.toNatClampNeg)).toInt))) := by
  unfold fX12_set
  have h1 := i32 x1
  have h2 := i32 x2
  have h3 := b_63_50 I_S
  refine Sp.b (s_fX12_find fu hfu x1 x2 S I_S) (fun r_3 p_r_3 => ?_)
  have h4 := i32 r_3
  refine Sp.i (fun c_h5 => ?_) (fun c_h5 => ?_)
  · have h6 := lt_iv rfl li_0 c_h5
    have h7 := b_63_50 I_S
    have h8 : ((-1 : Int32)).toInt = -1 := li_m1
    exact Sp.so (by omega)
  · have h9 := nlt_iv rfl li_0 c_h5
    refine Sp.g (ck_iv (by omega) (by omega)) ?_
    have h10 := a_93 I_S ((r_3).toNatClampNeg)
    refine Sp.i (fun c_h11 => ?_) (fun c_h11 => ?_)
    · have h12 := le_iv rfl li_0 c_h11
      have h13 := b_63_50 I_S
      have h14 : ((-1 : Int32)).toInt = -1 := li_m1
      exact Sp.so (by omega)
    · have h15 := nle_iv rfl li_0 c_h11
      have h16 := b_63_50 I_S
      exact Sp.so (by omega)
theorem s_fX12_first_3 (fu : Nat) (hfu : 1000000000000000000 ≤ fu) : ∀ (n : Nat) (x1 : Int32) (x2 : Int32) (x3 : Int32) (x4 : Int32) (S : St), Inv S → (0 ≤ (x4).toInt) → (100 - (x4).toInt).toNat < n → Sp (fX12_first_3 fu n x1 x2 x3 x4 S) S (fun r => (-1 ≤ r.toInt) ∧ (r.toInt < (S.1 63 42).toInt) ∧ ((0 ≤ r.toInt → (S.1 87 (r.toNatClampNeg)).toInt = (x2).toInt))) := by
  intro n
  induction n with
  | zero => intro x1 x2 x3 x4 S I_S g0 hm; exact absurd hm (Nat.not_lt_zero _)
  | succ n ih =>
    intro x1 x2 x3 x4 S I_S g0 hm
    rw [fX12_first_3_s]
    have h1 := b_63_42 I_S
    have h2 := i32 x4
    refine Sp.i (fun c_h3 => ?_) (fun c_h3 => ?_)
    · have h4 := le_iv rfl rfl c_h3
      have h5 := b_63_42 I_S
      have h6 : ((-1 : Int32)).toInt = -1 := li_m1
      exact Sp.so (by omega)
    · have h7 := nle_iv rfl rfl c_h3
      refine Sp.g (ck_iv (by omega) (by omega)) ?_
      have h8 := i32 x1
      refine Sp.i (fun c_h9 => ?_) (fun c_h9 => ?_)
      · have h10 := eq_iv rfl rfl c_h9
        refine Sp.g (ck_iv (by omega) (by omega)) ?_
        have h11 := i32 x2
        refine Sp.i (fun c_h12 => ?_) (fun c_h12 => ?_)
        · have h13 := eq_iv rfl rfl c_h12
          have h14 := i32 x3
          refine Sp.i (fun c_h15 => ?_) (fun c_h15 => ?_)
          · have h16 := lt_iv rfl li_0 c_h15
            have h17 := b_63_42 I_S
            exact Sp.so (by omega)
          · have h18 := nlt_iv rfl li_0 c_h15
            refine Sp.g (ck_iv (by omega) (by omega)) ?_
            have h19 := a_86 I_S ((x4).toNatClampNeg)
            refine Sp.i (fun c_h20 => ?_) (fun c_h20 => ?_)
            · have h21 := eq_iv rfl rfl c_h20
              have h22 := b_63_42 I_S
              exact Sp.so (by omega)
            · have h23 := neq_iv rfl rfl c_h20
              unfold fX12_first_52
              try have h24 : ((x4 + (1 : Int32))).toInt = (x4).toInt + (1) := add_iv rfl li_1 (by omega) (by omega)
              refine Sp.mono (ih x1 x2 x3 (x4 + (1 : Int32)) S I_S (by omega) (by omega)) (fun r p_h25 => ?_)
              exact by omega
        · have h26 := neq_iv rfl rfl c_h12
          unfold fX12_first_52
          have h27 := i32 x3
          try have h28 : ((x4 + (1 : Int32))).toInt = (x4).toInt + (1) := add_iv rfl li_1 (by omega) (by omega)
          refine Sp.mono (ih x1 x2 x3 (x4 + (1 : Int32)) S I_S (by omega) (by omega)) (fun r p_h29 => ?_)
          exact by omega
      · have h30 := neq_iv rfl rfl c_h9
        unfold fX12_first_52
        have h31 := i32 x2
        have h32 := i32 x3
        try have h33 : ((x4 + (1 : Int32))).toInt = (x4).toInt + (1) := add_iv rfl li_1 (by omega) (by omega)
        refine Sp.mono (ih x1 x2 x3 (x4 + (1 : Int32)) S I_S (by omega) (by omega)) (fun r p_h34 => ?_)
        exact by omega
theorem s_fX12_first (fu : Nat) (hfu : 1000000000000000000 ≤ fu) (x1 : Int32) (x2 : Int32) (x3 : Int32) (S : St) (I_S : Inv S) : Sp (fX12_first fu x1 x2 x3 S) S (fun r => (-1 ≤ r.toInt) ∧ (r.toInt < (S.1 63 42).toInt) ∧ ((0 ≤ r.toInt → (S.1 87 (r.toNatClampNeg)).toInt = (x2).toInt))) := by
  unfold fX12_first
  have h1 := i32 x1
  have h2 := i32 x2
  have h3 := i32 x3
  have h4 : ((0 : Int32)).toInt = 0 := li_0
  have h5 := b_63_42 I_S
  refine Sp.mono (s_fX12_first_3 fu hfu fu x1 x2 x3 (0 : Int32) S I_S (by omega) (by omega)) (fun r p_h6 => ?_)
  exact by omega
theorem s_fX12_gathers_103 (fu : Nat) (hfu : 1000000000000000000 ≤ fu) (k_15 : Int32 → Int32 → Int32 → Int32 → St → Option (St × Int32)) (N : Nat) (hk_k_15 : ∀ (x1 : Int32) (x2 : Int32) (x3 : Int32) (x4 : Int32) (S : St), Inv S → RR S → SM (x3).toInt S → (0 ≤ (x4).toInt) → (100 - (x4).toInt).toNat < N → Sf (k_15 x1 x2 x3 x4 S) (fun U r => Inv U ∧ Fr [(63, 54), (96, 0)] S U ∧ ((r.toInt = (U.1 63 53).toInt)) ∧ SM (x3).toInt U)) : ∀ (n : Nat) (x1 : Int32) (x2 : Int32) (x3 : Int32) (x4 : Int32) (x7 : Int32) (x8 : Int32) (S : St), Inv S → RR S → SM (x3).toInt S → (0 ≤ (x4).toInt) → ((x4).toInt < (S.1 63 42).toInt) → (0 ≤ (x8).toInt) → ((S.1 87 ((x4).toNatClampNeg)).toInt = (x3).toInt) → ((100 - (x4).toInt).toNat ≤ N) → (10 - (x8).toInt).toNat < n → Sf (fX12_gathers_103 fu k_15 n x1 x2 x3 x4 x7 x8 S) (fun U r => Inv U ∧ Fr [(63, 54), (96, 0)] S U ∧ ((r.toInt = (U.1 63 53).toInt)) ∧ SM (x3).toInt U) := by
  intro n
  induction n with
  | zero => intro x1 x2 x3 x4 x7 x8 S I_S RR_S SM_S g0 g1 g2 g3 g4 hm; exact absurd hm (Nat.not_lt_zero _)
  | succ n ih =>
    intro x1 x2 x3 x4 x7 x8 S I_S RR_S SM_S g0 g1 g2 g3 g4 hm
    rw [fX12_gathers_103_s]
    have F_S : Fr [(63, 54), (96, 0)] S S := Fr.refl _ _
    have h1 := b_63_42 I_S
    have h2 := b_63_53 I_S
    have h3 := i32 x8
    refine Sf.i (fun c_h4 => ?_) (fun c_h4 => ?_)
    · have h5 := le_iv rfl rfl c_h4
      have h6 := i32 x7
      refine Sf.i (fun c_h7 => ?_) (fun c_h7 => ?_)
      · have h8 := eq_iv rfl li_0 c_h7
        refine Sf.i (fun c_h9 => ?_) (fun c_h9 => ?_)
        · have h10 := eq_iv rfl li_10 c_h9
          unfold fX12_gathers_190
          have h11 := i32 x1
          have h12 := i32 x2
          have h13 := i32 x3
          have h14 := i32 x4
          try have h15 : ((x4 + (1 : Int32))).toInt = (x4).toInt + (1) := add_iv rfl li_1 (by omega) (by omega)
          refine Sf.mono (hk_k_15 x1 x2 x3 (x4 + (1 : Int32)) S I_S RR_S SM_S (by omega) (by omega)) (fun U r p_h16 => ?_)
          obtain ⟨I_U, G_U, p_h16, SM_U⟩ := p_h16
          have h17 := b_63_53 I_U
          have h18 := ti_eq (G_U 63 42 rfl)
          have RR_U := RR_fr (U := U) RR_S (G_U 63 42 rfl) (fun b => G_U 87 b rfl) (fun b => G_U 88 b rfl)
          exact ⟨I_U, Fr.tr F_S G_U rfl, by omega, SM_U⟩
        · have h19 := neq_iv rfl li_10 c_h9
          have h20 := i32 x4
          refine Sf.g (ck_iv (by omega) (by omega)) ?_
          refine Sf.g (ck_iv (by omega) (by omega)) ?_
          refine Sf.w I_S F_S rfl (i32 _).1 (i32 _).2 (fun S_179 I_S_179 F_S_179 v_S_179 f_S_179 l_S_179 => ?_)
          have h21 := ti_eq (f_S_179 63 42 (fun e => absurd e (by decide)))
          have h22 := ti_eq (f_S_179 63 53 (fun e => absurd e (by decide)))
          have h23 : (S_179.1 96 (((S.1 63 53)).toNatClampNeg)).toInt = ((S.1 88 ((x4).toNatClampNeg))).toInt := eq_iv rfl rfl v_S_179
          have h24 : (S_179.1 96 (((S_179.1 63 53)).toNatClampNeg)).toInt = ((S.1 88 ((x4).toNatClampNeg))).toInt := by rw [f_S_179 63 53 (fun e => absurd e (by decide))]; exact eq_iv rfl rfl v_S_179
          have RR_S_179 := RR_fr (U := S_179) RR_S (f_S_179 63 42 (fun e => absurd e (by decide))) (fun b => f_S_179 87 b (fun e => absurd e (by decide))) (fun b => f_S_179 88 b (fun e => absurd e (by decide)))
          have hp := RR_at RR_S (x := x4) (by omega) (by omega)
          have hc1 := cl_iv (b_63_53 I_S).1
          have SM_S_179 : SM (x3).toInt S_179 := SM_w SM_S (by omega) f_S_179
          have h25 : (S_179.1 88 ((x4).toNatClampNeg)).toInt = (S.1 88 ((x4).toNatClampNeg)).toInt := ti_eq (f_S_179 88 ((x4).toNatClampNeg) (fun e => absurd e (by decide)))
          have h26 := b_63_53 I_S_179
          try have h27 : (((S_179.1 63 53) + (1 : Int32))).toInt = ((S_179.1 63 53)).toInt + (1) := add_iv rfl li_1 (by omega) (by omega)
          refine Sf.w I_S_179 F_S_179 rfl (show ((0) : Int) ≤ (((S_179.1 63 53) + (1 : Int32))).toInt by omega) (show (((S_179.1 63 53) + (1 : Int32))).toInt ≤ (10 : Int) by omega) (fun S_187 I_S_187 F_S_187 v_S_187 f_S_187 l_S_187 => ?_)
          have h28 := ti_eq (f_S_187 63 42 (fun _ e => absurd e (by decide)))
          have h29 := eq_iv rfl rfl v_S_187
          have RR_S_187 := RR_fr (U := S_187) RR_S_179 (f_S_187 63 42 (fun _ e => absurd e (by decide))) (fun b => f_S_187 87 b (fun e => absurd e (by decide))) (fun b => f_S_187 88 b (fun e => absurd e (by decide)))
          have SM_S_187 : SM (x3).toInt S_187 := SM_inc SM_S_179 f_S_187 (by omega) (by omega) (by intro hx; omega)
          have h30 : (S_187.1 88 ((x4).toNatClampNeg)).toInt = (S_179.1 88 ((x4).toNatClampNeg)).toInt := ti_eq (f_S_187 88 ((x4).toNatClampNeg) (fun e => absurd e (by decide)))
          have h31 : (S_187.1 96 (((S.1 63 53)).toNatClampNeg)).toInt = (S_179.1 96 (((S.1 63 53)).toNatClampNeg)).toInt := ti_eq (f_S_187 96 (((S.1 63 53)).toNatClampNeg) (fun e => absurd e (by decide)))
          have h32 : (S_187.1 96 (((S_179.1 63 53)).toNatClampNeg)).toInt = (S_179.1 96 (((S_179.1 63 53)).toNatClampNeg)).toInt := ti_eq (f_S_187 96 (((S_179.1 63 53)).toNatClampNeg) (fun e => absurd e (by decide)))
          unfold fX12_gathers_190
          have h33 := i32 x1
          have h34 := i32 x2
          have h35 := i32 x3
          try have h36 : ((x4 + (1 : Int32))).toInt = (x4).toInt + (1) := add_iv rfl li_1 (by omega) (by omega)
          refine Sf.mono (hk_k_15 x1 x2 x3 (x4 + (1 : Int32)) S_187 I_S_187 RR_S_187 SM_S_187 (by omega) (by omega)) (fun U r p_h37 => ?_)
          obtain ⟨I_U, G_U, p_h37, SM_U⟩ := p_h37
          have h38 := b_63_53 I_U
          have h39 := ti_eq (G_U 63 42 rfl)
          have RR_U := RR_fr (U := U) RR_S_187 (G_U 63 42 rfl) (fun b => G_U 87 b rfl) (fun b => G_U 88 b rfl)
          exact ⟨I_U, Fr.tr F_S_187 G_U rfl, by omega, SM_U⟩
      · have h40 := neq_iv rfl li_0 c_h7
        unfold fX12_gathers_190
        have h41 := i32 x1
        have h42 := i32 x2
        have h43 := i32 x3
        have h44 := i32 x4
        try have h45 : ((x4 + (1 : Int32))).toInt = (x4).toInt + (1) := add_iv rfl li_1 (by omega) (by omega)
        refine Sf.mono (hk_k_15 x1 x2 x3 (x4 + (1 : Int32)) S I_S RR_S SM_S (by omega) (by omega)) (fun U r p_h46 => ?_)
        obtain ⟨I_U, G_U, p_h46, SM_U⟩ := p_h46
        have h47 := b_63_53 I_U
        have h48 := ti_eq (G_U 63 42 rfl)
        have RR_U := RR_fr (U := U) RR_S (G_U 63 42 rfl) (fun b => G_U 87 b rfl) (fun b => G_U 88 b rfl)
        exact ⟨I_U, Fr.tr F_S G_U rfl, by omega, SM_U⟩
    · have h49 := nle_iv rfl rfl c_h4
      have h50 := i32 x7
      refine Sf.i (fun c_h51 => ?_) (fun c_h51 => ?_)
      · have h52 := eq_iv rfl li_0 c_h51
        refine Sf.g (ck_iv (by omega) (by omega)) ?_
        have h53 := i32 x4
        refine Sf.g (ck_iv (by omega) (by omega)) ?_
        refine Sf.i (fun c_h54 => ?_) (fun c_h54 => ?_)
        · have h55 := eq_iv rfl rfl c_h54
          unfold fX12_gathers_134
          unfold fX12_gathers_139
          have h56 := i32 x1
          have h57 := i32 x2
          have h58 := i32 x3
          have h59 : ((1 : Int32)).toInt = 1 := li_1
          try have h60 : ((x8 + (1 : Int32))).toInt = (x8).toInt + (1) := add_iv rfl li_1 (by omega) (by omega)
          have h61 := b_63_42 I_S
          refine Sf.mono (ih x1 x2 x3 x4 (1 : Int32) (x8 + (1 : Int32)) S I_S RR_S SM_S (by omega) (by omega) (by omega) (by omega) (by omega) (by omega)) (fun U r p_h62 => ?_)
          obtain ⟨I_U, G_U, p_h62, SM_U⟩ := p_h62
          have h63 := b_63_53 I_U
          have h64 := ti_eq (G_U 63 42 rfl)
          have RR_U := RR_fr (U := U) RR_S (G_U 63 42 rfl) (fun b => G_U 87 b rfl) (fun b => G_U 88 b rfl)
          exact ⟨I_U, Fr.tr F_S G_U rfl, by omega, SM_U⟩
        · have h65 := neq_iv rfl rfl c_h54
          unfold fX12_gathers_139
          have h66 := i32 x1
          have h67 := i32 x2
          have h68 := i32 x3
          have h69 : ((0 : Int32)).toInt = 0 := li_0
          try have h70 : ((x8 + (1 : Int32))).toInt = (x8).toInt + (1) := add_iv rfl li_1 (by omega) (by omega)
          have h71 := b_63_42 I_S
          refine Sf.mono (ih x1 x2 x3 x4 (0 : Int32) (x8 + (1 : Int32)) S I_S RR_S SM_S (by omega) (by omega) (by omega) (by omega) (by omega) (by omega)) (fun U r p_h72 => ?_)
          obtain ⟨I_U, G_U, p_h72, SM_U⟩ := p_h72
          have h73 := b_63_53 I_U
          have h74 := ti_eq (G_U 63 42 rfl)
          have RR_U := RR_fr (U := U) RR_S (G_U 63 42 rfl) (fun b => G_U 87 b rfl) (fun b => G_U 88 b rfl)
          exact ⟨I_U, Fr.tr F_S G_U rfl, by omega, SM_U⟩
      · have h75 := neq_iv rfl li_0 c_h51
        unfold fX12_gathers_134
        unfold fX12_gathers_139
        have h76 := i32 x1
        have h77 := i32 x2
        have h78 := i32 x3
        have h79 := i32 x4
        have h80 : ((1 : Int32)).toInt = 1 := li_1
        try have h81 : ((x8 + (1 : Int32))).toInt = (x8).toInt + (1) := add_iv rfl li_1 (by omega) (by omega)
        have h82 := b_63_42 I_S
        refine Sf.mono (ih x1 x2 x3 x4 (1 : Int32) (x8 + (1 : Int32)) S I_S RR_S SM_S (by omega) (by omega) (by omega) (by omega) (by omega) (by omega)) (fun U r p_h83 => ?_)
        obtain ⟨I_U, G_U, p_h83, SM_U⟩ := p_h83
        have h84 := b_63_53 I_U
        have h85 := ti_eq (G_U 63 42 rfl)
        have RR_U := RR_fr (U := U) RR_S (G_U 63 42 rfl) (fun b => G_U 87 b rfl) (fun b => G_U 88 b rfl)
        exact ⟨I_U, Fr.tr F_S G_U rfl, by omega, SM_U⟩
theorem s_fX12_gathers_15 (fu : Nat) (hfu : 1000000000000000000 ≤ fu) : ∀ (n : Nat) (x1 : Int32) (x2 : Int32) (x3 : Int32) (x4 : Int32) (S : St), Inv S → RR S → SM (x3).toInt S → (0 ≤ (x4).toInt) → (100 - (x4).toInt).toNat < n → Sf (fX12_gathers_15 fu n x1 x2 x3 x4 S) (fun U r => Inv U ∧ Fr [(63, 54), (96, 0)] S U ∧ ((r.toInt = (U.1 63 53).toInt)) ∧ SM (x3).toInt U) := by
  intro n
  induction n with
  | zero => intro x1 x2 x3 x4 S I_S RR_S SM_S g0 hm; exact absurd hm (Nat.not_lt_zero _)
  | succ n ih =>
    intro x1 x2 x3 x4 S I_S RR_S SM_S g0 hm
    rw [fX12_gathers_15_s]
    have F_S : Fr [(63, 54), (96, 0)] S S := Fr.refl _ _
    have h1 := b_63_42 I_S
    have h2 := i32 x4
    refine Sf.i (fun c_h3 => ?_) (fun c_h3 => ?_)
    · have h4 := le_iv rfl rfl c_h3
      have h5 := b_63_53 I_S
      have h6 := b_63_53 I_S
      exact Sf.so ⟨I_S, F_S, by omega, SM_S⟩
    · have h7 := nle_iv rfl rfl c_h3
      refine Sf.g (ck_iv (by omega) (by omega)) ?_
      have h8 := i32 x1
      refine Sf.i (fun c_h9 => ?_) (fun c_h9 => ?_)
      · have h10 := eq_iv rfl rfl c_h9
        refine Sf.g (ck_iv (by omega) (by omega)) ?_
        have h11 := a_86 I_S ((x4).toNatClampNeg)
        have h12 := i32 x2
        refine Sf.i (fun c_h13 => ?_) (fun c_h13 => ?_)
        · have h14 := eq_iv rfl rfl c_h13
          refine Sf.g (ck_iv (by omega) (by omega)) ?_
          have h15 := i32 x3
          refine Sf.i (fun c_h16 => ?_) (fun c_h16 => ?_)
          · have h17 := eq_iv rfl rfl c_h16
            refine Sf.g (ck_iv (by omega) (by omega)) ?_
            refine Sf.i (fun c_h18 => ?_) (fun c_h18 => ?_)
            · have h19 := le_iv li_0 rfl c_h18
              unfold fX12_gathers_94
              refine Sf.j I_S F_S (fun S_94 I_S_94 F_S_94 l_S_94 => ?_)
              have h20 : (S_94.1 63 42).toInt = (S.1 63 42).toInt := by rw [l_S_94]
              have h21 : (S_94.1 63 53).toInt = (S.1 63 53).toInt := by rw [l_S_94]
              have RR_S_94 := RR_fr (U := S_94) RR_S (by rw [l_S_94]) (fun b => by rw [l_S_94]) (fun b => by rw [l_S_94])
              have SM_S_94 := SM_fr (U := S_94) SM_S (by rw [l_S_94]) (fun b => by rw [l_S_94])
              have h22 : (S_94.1 85 ((x4).toNatClampNeg)).toInt = (S.1 85 ((x4).toNatClampNeg)).toInt := (by rw [l_S_94])
              have h23 : (S_94.1 86 ((x4).toNatClampNeg)).toInt = (S.1 86 ((x4).toNatClampNeg)).toInt := (by rw [l_S_94])
              have h24 : (S_94.1 87 ((x4).toNatClampNeg)).toInt = (S.1 87 ((x4).toNatClampNeg)).toInt := (by rw [l_S_94])
              have h25 : (S_94.1 89 ((x4).toNatClampNeg)).toInt = (S.1 89 ((x4).toNatClampNeg)).toInt := (by rw [l_S_94])
              have h26 : ((0 : Int32)).toInt = 0 := li_0
              have h27 := b_63_42 I_S_94
              refine Sf.mono (s_fX12_gathers_103 fu hfu _ _ ih fu x1 x2 x3 x4 (0 : Int32) (0 : Int32) S_94 I_S_94 RR_S_94 SM_S_94 (by omega) (by omega) (by omega) (by omega) (by omega) (by omega)) (fun U r p_h28 => ?_)
              obtain ⟨I_U, G_U, p_h28, SM_U⟩ := p_h28
              have h29 := b_63_53 I_U
              have h30 := ti_eq (G_U 63 42 rfl)
              have RR_U := RR_fr (U := U) RR_S_94 (G_U 63 42 rfl) (fun b => G_U 87 b rfl) (fun b => G_U 88 b rfl)
              exact ⟨I_U, Fr.tr F_S_94 G_U rfl, by omega, SM_U⟩
            · have h31 := nle_iv li_0 rfl c_h18
              unfold fX12_gathers_94
              refine Sf.j I_S F_S (fun S_94 I_S_94 F_S_94 l_S_94 => ?_)
              have h32 : (S_94.1 63 42).toInt = (S.1 63 42).toInt := by rw [l_S_94]
              have h33 : (S_94.1 63 53).toInt = (S.1 63 53).toInt := by rw [l_S_94]
              have RR_S_94 := RR_fr (U := S_94) RR_S (by rw [l_S_94]) (fun b => by rw [l_S_94]) (fun b => by rw [l_S_94])
              have SM_S_94 := SM_fr (U := S_94) SM_S (by rw [l_S_94]) (fun b => by rw [l_S_94])
              have h34 : (S_94.1 85 ((x4).toNatClampNeg)).toInt = (S.1 85 ((x4).toNatClampNeg)).toInt := (by rw [l_S_94])
              have h35 : (S_94.1 86 ((x4).toNatClampNeg)).toInt = (S.1 86 ((x4).toNatClampNeg)).toInt := (by rw [l_S_94])
              have h36 : (S_94.1 87 ((x4).toNatClampNeg)).toInt = (S.1 87 ((x4).toNatClampNeg)).toInt := (by rw [l_S_94])
              have h37 : (S_94.1 89 ((x4).toNatClampNeg)).toInt = (S.1 89 ((x4).toNatClampNeg)).toInt := (by rw [l_S_94])
              have h38 : ((0 : Int32)).toInt = 0 := li_0
              have h39 := b_63_42 I_S_94
              refine Sf.mono (s_fX12_gathers_103 fu hfu _ _ ih fu x1 x2 x3 x4 (0 : Int32) (0 : Int32) S_94 I_S_94 RR_S_94 SM_S_94 (by omega) (by omega) (by omega) (by omega) (by omega) (by omega)) (fun U r p_h40 => ?_)
              obtain ⟨I_U, G_U, p_h40, SM_U⟩ := p_h40
              have h41 := b_63_53 I_U
              have h42 := ti_eq (G_U 63 42 rfl)
              have RR_U := RR_fr (U := U) RR_S_94 (G_U 63 42 rfl) (fun b => G_U 87 b rfl) (fun b => G_U 88 b rfl)
              exact ⟨I_U, Fr.tr F_S_94 G_U rfl, by omega, SM_U⟩
          · have h43 := neq_iv rfl rfl c_h16
            unfold fX12_gathers_190
            try have h44 : ((x4 + (1 : Int32))).toInt = (x4).toInt + (1) := add_iv rfl li_1 (by omega) (by omega)
            refine Sf.mono (ih x1 x2 x3 (x4 + (1 : Int32)) S I_S RR_S SM_S (by omega) (by omega)) (fun U r p_h45 => ?_)
            obtain ⟨I_U, G_U, p_h45, SM_U⟩ := p_h45
            have h46 := b_63_53 I_U
            have h47 := ti_eq (G_U 63 42 rfl)
            have RR_U := RR_fr (U := U) RR_S (G_U 63 42 rfl) (fun b => G_U 87 b rfl) (fun b => G_U 88 b rfl)
            exact ⟨I_U, Fr.tr F_S G_U rfl, by omega, SM_U⟩
        · have h48 := neq_iv rfl rfl c_h13
          unfold fX12_gathers_190
          have h49 := i32 x3
          try have h50 : ((x4 + (1 : Int32))).toInt = (x4).toInt + (1) := add_iv rfl li_1 (by omega) (by omega)
          refine Sf.mono (ih x1 x2 x3 (x4 + (1 : Int32)) S I_S RR_S SM_S (by omega) (by omega)) (fun U r p_h51 => ?_)
          obtain ⟨I_U, G_U, p_h51, SM_U⟩ := p_h51
          have h52 := b_63_53 I_U
          have h53 := ti_eq (G_U 63 42 rfl)
          have RR_U := RR_fr (U := U) RR_S (G_U 63 42 rfl) (fun b => G_U 87 b rfl) (fun b => G_U 88 b rfl)
          exact ⟨I_U, Fr.tr F_S G_U rfl, by omega, SM_U⟩
      · have h54 := neq_iv rfl rfl c_h9
        unfold fX12_gathers_190
        have h55 := i32 x2
        have h56 := i32 x3
        try have h57 : ((x4 + (1 : Int32))).toInt = (x4).toInt + (1) := add_iv rfl li_1 (by omega) (by omega)
        refine Sf.mono (ih x1 x2 x3 (x4 + (1 : Int32)) S I_S RR_S SM_S (by omega) (by omega)) (fun U r p_h58 => ?_)
        obtain ⟨I_U, G_U, p_h58, SM_U⟩ := p_h58
        have h59 := b_63_53 I_U
        have h60 := ti_eq (G_U 63 42 rfl)
        have RR_U := RR_fr (U := U) RR_S (G_U 63 42 rfl) (fun b => G_U 87 b rfl) (fun b => G_U 88 b rfl)
        exact ⟨I_U, Fr.tr F_S G_U rfl, by omega, SM_U⟩
theorem s_fX12_gathers (fu : Nat) (hfu : 1000000000000000000 ≤ fu) (x1 : Int32) (x2 : Int32) (x3 : Int32) (S : St) (I_S : Inv S) (RR_S : RR S) : Sf (fX12_gathers fu x1 x2 x3 S) (fun U r => Inv U ∧ Fr [(63, 54), (96, 0)] S U ∧ ((r.toInt = (U.1 63 53).toInt)) ∧ SM (x3).toInt U) := by
  unfold fX12_gathers
  have F_S : Fr [(63, 54), (96, 0)] S S := Fr.refl _ _
  refine Sf.w I_S F_S rfl (show ((0) : Int) ≤ ((0 : Int32)).toInt by rw [li_0]; omega) (show ((0 : Int32)).toInt ≤ (10 : Int) by rw [li_0]; omega) (fun S_2 I_S_2 F_S_2 v_S_2 f_S_2 l_S_2 => ?_)
  have h1 := ti_eq (f_S_2 63 42 (fun _ e => absurd e (by decide)))
  have h2 := eq_iv rfl li_0 v_S_2
  have RR_S_2 := RR_fr (U := S_2) RR_S (f_S_2 63 42 (fun _ e => absurd e (by decide))) (fun b => f_S_2 87 b (fun e => absurd e (by decide))) (fun b => f_S_2 88 b (fun e => absurd e (by decide)))
  have SM_S_2 : SM (x3).toInt S_2 := SM_zero (by omega)
  refine Sf.j I_S_2 F_S_2 (fun S_9 I_S_9 F_S_9 l_S_9 => ?_)
  have h3 : (S_9.1 63 42).toInt = (S_2.1 63 42).toInt := by rw [l_S_9]
  have h4 : (S_9.1 63 53).toInt = (S_2.1 63 53).toInt := by rw [l_S_9]
  have RR_S_9 := RR_fr (U := S_9) RR_S_2 (by rw [l_S_9]) (fun b => by rw [l_S_9]) (fun b => by rw [l_S_9])
  have SM_S_9 := SM_fr (U := S_9) SM_S_2 (by rw [l_S_9]) (fun b => by rw [l_S_9])
  have h5 := i32 x1
  have h6 := i32 x2
  have h7 := i32 x3
  have h8 : ((0 : Int32)).toInt = 0 := li_0
  refine Sf.mono (s_fX12_gathers_15 fu hfu fu x1 x2 x3 (0 : Int32) S_9 I_S_9 RR_S_9 SM_S_9 (by omega) (by omega)) (fun U r p_h9 => ?_)
  obtain ⟨I_U, G_U, p_h9, SM_U⟩ := p_h9
  have h10 := b_63_53 I_U
  have h11 := ti_eq (G_U 63 42 rfl)
  have RR_U := RR_fr (U := U) RR_S_9 (G_U 63 42 rfl) (fun b => G_U 87 b rfl) (fun b => G_U 88 b rfl)
  exact ⟨I_U, Fr.tr F_S_9 G_U rfl, by omega, SM_U⟩
theorem s_fX12_isReply (fu : Nat) (hfu : 1000000000000000000 ≤ fu) (S : St) (I_S : Inv S) (g0 : 1 ≤ (S.1 63 62).toInt) : Sp (fX12_isReply fu S) S (fun r => (0 ≤ r.toInt) ∧ (r.toInt ≤ 1)) := by
  unfold fX12_isReply
  have h1 := b_63_62 I_S
  refine Sp.i (fun c_h2 => ?_) (fun c_h2 => ?_)
  · have h3 := eq_iv rfl rfl c_h2
    have h4 := b_63_62 I_S
    try have h5 : (((S.1 63 62) - (1 : Int32))).toInt = ((S.1 63 62)).toInt - (1) := sub_iv rfl li_1 (by omega) (by omega)
    refine Sp.g (ck_iv (by omega) (by omega)) ?_
    have h6 := a_97 I_S ((((S.1 63 62) - (1 : Int32))).toNatClampNeg)
    refine Sp.i (fun c_h7 => ?_) (fun c_h7 => ?_)
    · have h8 := eq_iv rfl rfl c_h7
      refine Sp.g (ck_iv (by omega) (by omega)) ?_
      refine Sp.i (fun c_h9 => ?_) (fun c_h9 => ?_)
      · have h10 := eq_iv rfl rfl c_h9
        refine Sp.i (fun c_h11 => ?_) (fun c_h11 => ?_)
        · have h12 := eq_iv rfl li_1 c_h11
          refine Sp.i (fun c_h13 => ?_) (fun c_h13 => ?_)
          · have h14 := eq_iv rfl li_0 c_h13
            have h15 : ((0 : Int32)).toInt = 0 := li_0
            exact Sp.so (by omega)
          · have h16 := neq_iv rfl li_0 c_h13
            have h17 : ((1 : Int32)).toInt = 1 := li_1
            exact Sp.so (by omega)
        · have h18 := neq_iv rfl li_1 c_h11
          have h19 : ((0 : Int32)).toInt = 0 := li_0
          exact Sp.so (by omega)
      · have h20 := neq_iv rfl rfl c_h9
        have h21 : ((0 : Int32)).toInt = 0 := li_0
        exact Sp.so (by omega)
    · have h22 := neq_iv rfl rfl c_h7
      have h23 : ((0 : Int32)).toInt = 0 := li_0
      exact Sp.so (by omega)
  · have h24 := neq_iv rfl rfl c_h2
    have h25 : ((0 : Int32)).toInt = 0 := li_0
    exact Sp.so (by omega)
