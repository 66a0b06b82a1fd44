theorem s_fX12_drop_42 (fu : Nat) (hfu : 1000000000000000000 ≤ fu) : ∀ (n : Nat) (x1 : Int32) (x2 : Int32) (x3 : Int32) (x4 : Int32) (x5 : Int32) (S : St), Inv S → DD (x4).toInt (x5).toInt S → (0 ≤ (x4).toInt) → ((x4).toInt ≤ (x5).toInt) → ((x5).toInt ≤ (S.1 63 20).toInt) → (150 - (x5).toInt).toNat < n → Sf (fX12_drop_42 fu n x1 x2 x3 x4 x5 S) (fun U r => Inv U ∧ Fr [(63, 21), (74, 0), (75, 0), (76, 0), (77, 0), (78, 0)] S U ∧ (True) ∧ RD U) := by
  intro n
  induction n with
  | zero => intro x1 x2 x3 x4 x5 S I_S DD_S g0 g1 g2 hm; exact absurd hm (Nat.not_lt_zero _)
  | succ n ih =>
    intro x1 x2 x3 x4 x5 S I_S DD_S g0 g1 g2 hm
    rw [fX12_drop_42_s]
    have F_S : Fr [(63, 21), (74, 0), (75, 0), (76, 0), (77, 0), (78, 0)] S S := Fr.refl _ _
    have h1 := b_63_20 I_S
    have h2 := b_63_20 I_S
    have h3 := i32 x5
    refine Sf.i (fun c_h4 => ?_) (fun c_h4 => ?_)
    · have h5 := le_iv rfl rfl c_h4
      have h6 := i32 x4
      refine Sf.w I_S F_S rfl (show ((0) : Int) ≤ (x4).toInt by omega) (show (x4).toInt ≤ (150 : Int) by omega) (fun S_178 I_S_178 F_S_178 v_S_178 f_S_178 l_S_178 => ?_)
      have h7 := eq_iv rfl rfl v_S_178
      have RD_S_178 : RD S_178 := DD_end DD_S (by omega) f_S_178
      exact Sf.so ⟨I_S_178, F_S_178, trivial, RD_S_178⟩
    · have h8 := nle_iv rfl rfl c_h4
      refine Sf.g (ck_iv (by omega) (by omega)) ?_
      have h9 := a_74 I_S ((x5).toNatClampNeg)
      have h10 := i32 x1
      refine Sf.i (fun c_h11 => ?_) (fun c_h11 => ?_)
      · have h12 := eq_iv rfl rfl c_h11
        refine Sf.g (ck_iv (by omega) (by omega)) ?_
        have h13 := a_75 I_S ((x5).toNatClampNeg)
        have h14 := i32 x2
        refine Sf.i (fun c_h15 => ?_) (fun c_h15 => ?_)
        · have h16 := eq_iv rfl rfl c_h15
          refine Sf.g (ck_iv (by omega) (by omega)) ?_
          have h17 := i32 x3
          refine Sf.i (fun c_h18 => ?_) (fun c_h18 => ?_)
          · have h19 := eq_iv rfl rfl c_h18
            unfold fX12_drop_160
            have DD_S : DD (x4).toInt ((x5 + (1 : Int32))).toInt S := DD_skip DD_S (by have hq := add_iv (a := x5) (b := (1 : Int32)) rfl li_1 (by omega) (by omega); omega)
            have h20 := i32 x4
            try have h21 : ((x5 + (1 : Int32))).toInt = (x5).toInt + (1) := add_iv rfl li_1 (by omega) (by omega)
            refine Sf.mono (ih x1 x2 x3 x4 (x5 + (1 : Int32)) S I_S DD_S (by omega) (by omega) (by omega) (by omega)) (fun U r p_h22 => ?_)
            obtain ⟨I_U, G_U, p_h22, RD_U⟩ := p_h22
            exact ⟨I_U, Fr.tr F_S G_U rfl, trivial, RD_U⟩
          · have h23 := neq_iv rfl rfl c_h18
            unfold fX12_drop_87
            refine Sf.g (ck_iv (by omega) (by omega)) ?_
            have h24 := i32 x4
            refine Sf.g (ck_iv (by omega) (by omega)) ?_
            refine Sf.w I_S F_S rfl (show ((0) : Int) ≤ ((S.1 74 ((x5).toNatClampNeg))).toInt by omega) (show ((S.1 74 ((x5).toNatClampNeg))).toInt ≤ (11 : Int) by omega) (fun S_100 I_S_100 F_S_100 v_S_100 f_S_100 l_S_100 => ?_)
            have h25 := ti_eq (f_S_100 63 20 (fun e => absurd e (by decide)))
            have h26 : (S_100.1 74 ((x4).toNatClampNeg)).toInt = ((S.1 74 ((x5).toNatClampNeg))).toInt := eq_iv rfl rfl v_S_100
            have DD_S_100 := DD_fr (U := S_100) DD_S (f_S_100 63 20 (fun e => absurd e (by decide))) (fun b => f_S_100 76 b (fun e => absurd e (by decide))) (fun b => f_S_100 77 b (fun e => absurd e (by decide)))
            have h27 : (S_100.1 75 ((x5).toNatClampNeg)).toInt = (S.1 75 ((x5).toNatClampNeg)).toInt := ti_eq (f_S_100 75 ((x5).toNatClampNeg) (fun e => absurd e (by decide)))
            have h28 : (S_100.1 76 ((x5).toNatClampNeg)).toInt = (S.1 76 ((x5).toNatClampNeg)).toInt := ti_eq (f_S_100 76 ((x5).toNatClampNeg) (fun e => absurd e (by decide)))
            refine Sf.g (ck_iv (by omega) (by omega)) ?_
            refine Sf.g (ck_iv (by omega) (by omega)) ?_
            refine Sf.w I_S_100 F_S_100 rfl (show ((0) : Int) ≤ ((S_100.1 75 ((x5).toNatClampNeg))).toInt by omega) (show ((S_100.1 75 ((x5).toNatClampNeg))).toInt ≤ (299 : Int) by omega) (fun S_114 I_S_114 F_S_114 v_S_114 f_S_114 l_S_114 => ?_)
            have h29 := ti_eq (f_S_114 63 20 (fun e => absurd e (by decide)))
            have h30 : (S_114.1 75 ((x4).toNatClampNeg)).toInt = ((S_100.1 75 ((x5).toNatClampNeg))).toInt := eq_iv rfl rfl v_S_114
            have DD_S_114 := DD_fr (U := S_114) DD_S_100 (f_S_114 63 20 (fun e => absurd e (by decide))) (fun b => f_S_114 76 b (fun e => absurd e (by decide))) (fun b => f_S_114 77 b (fun e => absurd e (by decide)))
            have h31 : (S_114.1 74 ((x4).toNatClampNeg)).toInt = (S_100.1 74 ((x4).toNatClampNeg)).toInt := ti_eq (f_S_114 74 ((x4).toNatClampNeg) (fun e => absurd e (by decide)))
            have h32 : (S_114.1 76 ((x5).toNatClampNeg)).toInt = (S_100.1 76 ((x5).toNatClampNeg)).toInt := ti_eq (f_S_114 76 ((x5).toNatClampNeg) (fun e => absurd e (by decide)))
            refine Sf.g (ck_iv (by omega) (by omega)) ?_
            refine Sf.g (ck_iv (by omega) (by omega)) ?_
            refine Sf.w I_S_114 F_S_114 rfl (i32 _).1 (i32 _).2 (fun S_128 I_S_128 F_S_128 v_S_128 f_S_128 l_S_128 => ?_)
            have h33 := ti_eq (f_S_128 63 20 (fun e => absurd e (by decide)))
            have h34 : (S_128.1 76 ((x4).toNatClampNeg)).toInt = ((S_114.1 76 ((x5).toNatClampNeg))).toInt := eq_iv rfl rfl v_S_128
            have h35 : (S_128.1 74 ((x4).toNatClampNeg)).toInt = (S_114.1 74 ((x4).toNatClampNeg)).toInt := ti_eq (f_S_128 74 ((x4).toNatClampNeg) (fun e => absurd e (by decide)))
            have h36 : (S_128.1 75 ((x4).toNatClampNeg)).toInt = (S_114.1 75 ((x4).toNatClampNeg)).toInt := ti_eq (f_S_128 75 ((x4).toNatClampNeg) (fun e => absurd e (by decide)))
            refine Sf.g (ck_iv (by omega) (by omega)) ?_
            refine Sf.g (ck_iv (by omega) (by omega)) ?_
            refine Sf.w I_S_128 F_S_128 rfl (i32 _).1 (i32 _).2 (fun S_142 I_S_142 F_S_142 v_S_142 f_S_142 l_S_142 => ?_)
            have h37 := ti_eq (f_S_142 63 20 (fun e => absurd e (by decide)))
            have h38 : (S_142.1 77 ((x4).toNatClampNeg)).toInt = ((S_128.1 77 ((x5).toNatClampNeg))).toInt := eq_iv rfl rfl v_S_142
            have hc1 := cl_iv (x := x4) (by omega)
            have hc2 := cl_iv (x := x5) (by omega)
            have DD_S_142 : DD ((x4 + (1 : Int32))).toInt ((x5 + (1 : Int32))).toInt S_142 := DD_copy DD_S_114 hc1 hc2 (by omega) (by omega) v_S_128 f_S_128 v_S_142 f_S_142 (by exact add_iv rfl li_1 (by omega) (by omega)) (by exact add_iv rfl li_1 (by omega) (by omega))
            have h39 : (S_142.1 74 ((x4).toNatClampNeg)).toInt = (S_128.1 74 ((x4).toNatClampNeg)).toInt := ti_eq (f_S_142 74 ((x4).toNatClampNeg) (fun e => absurd e (by decide)))
            have h40 : (S_142.1 75 ((x4).toNatClampNeg)).toInt = (S_128.1 75 ((x4).toNatClampNeg)).toInt := ti_eq (f_S_142 75 ((x4).toNatClampNeg) (fun e => absurd e (by decide)))
            have h41 : (S_142.1 76 ((x4).toNatClampNeg)).toInt = (S_128.1 76 ((x4).toNatClampNeg)).toInt := ti_eq (f_S_142 76 ((x4).toNatClampNeg) (fun e => absurd e (by decide)))
            refine Sf.g (ck_iv (by omega) (by omega)) ?_
            refine Sf.g (ck_iv (by omega) (by omega)) ?_
            refine Sf.w I_S_142 F_S_142 rfl (i32 _).1 (i32 _).2 (fun S_156 I_S_156 F_S_156 v_S_156 f_S_156 l_S_156 => ?_)
            have h42 := ti_eq (f_S_156 63 20 (fun e => absurd e (by decide)))
            have h43 : (S_156.1 78 ((x4).toNatClampNeg)).toInt = ((S_142.1 78 ((x5).toNatClampNeg))).toInt := eq_iv rfl rfl v_S_156
            have DD_S_156 := DD_fr (U := S_156) DD_S_142 (f_S_156 63 20 (fun e => absurd e (by decide))) (fun b => f_S_156 76 b (fun e => absurd e (by decide))) (fun b => f_S_156 77 b (fun e => absurd e (by decide)))
            have h44 : (S_156.1 74 ((x4).toNatClampNeg)).toInt = (S_142.1 74 ((x4).toNatClampNeg)).toInt := ti_eq (f_S_156 74 ((x4).toNatClampNeg) (fun e => absurd e (by decide)))
            have h45 : (S_156.1 75 ((x4).toNatClampNeg)).toInt = (S_142.1 75 ((x4).toNatClampNeg)).toInt := ti_eq (f_S_156 75 ((x4).toNatClampNeg) (fun e => absurd e (by decide)))
            have h46 : (S_156.1 76 ((x4).toNatClampNeg)).toInt = (S_142.1 76 ((x4).toNatClampNeg)).toInt := ti_eq (f_S_156 76 ((x4).toNatClampNeg) (fun e => absurd e (by decide)))
            have h47 : (S_156.1 77 ((x4).toNatClampNeg)).toInt = (S_142.1 77 ((x4).toNatClampNeg)).toInt := ti_eq (f_S_156 77 ((x4).toNatClampNeg) (fun e => absurd e (by decide)))
            unfold fX12_drop_160
            try have h48 : ((x4 + (1 : Int32))).toInt = (x4).toInt + (1) := add_iv rfl li_1 (by omega) (by omega)
            try have h49 : ((x5 + (1 : Int32))).toInt = (x5).toInt + (1) := add_iv rfl li_1 (by omega) (by omega)
            have h50 := b_63_20 I_S_156
            refine Sf.mono (ih x1 x2 x3 (x4 + (1 : Int32)) (x5 + (1 : Int32)) S_156 I_S_156 DD_S_156 (by omega) (by omega) (by omega) (by omega)) (fun U r p_h51 => ?_)
            obtain ⟨I_U, G_U, p_h51, RD_U⟩ := p_h51
            exact ⟨I_U, Fr.tr F_S_156 G_U rfl, trivial, RD_U⟩
        · have h52 := neq_iv rfl rfl c_h15
          unfold fX12_drop_87
          refine Sf.g (ck_iv (by omega) (by omega)) ?_
          have h53 := i32 x4
          refine Sf.g (ck_iv (by omega) (by omega)) ?_
          refine Sf.w I_S F_S rfl (show ((0) : Int) ≤ ((S.1 74 ((x5).toNatClampNeg))).toInt by omega) (show ((S.1 74 ((x5).toNatClampNeg))).toInt ≤ (11 : Int) by omega) (fun S_100 I_S_100 F_S_100 v_S_100 f_S_100 l_S_100 => ?_)
          have h54 := ti_eq (f_S_100 63 20 (fun e => absurd e (by decide)))
          have h55 : (S_100.1 74 ((x4).toNatClampNeg)).toInt = ((S.1 74 ((x5).toNatClampNeg))).toInt := eq_iv rfl rfl v_S_100
          have DD_S_100 := DD_fr (U := S_100) DD_S (f_S_100 63 20 (fun e => absurd e (by decide))) (fun b => f_S_100 76 b (fun e => absurd e (by decide))) (fun b => f_S_100 77 b (fun e => absurd e (by decide)))
          have h56 : (S_100.1 75 ((x5).toNatClampNeg)).toInt = (S.1 75 ((x5).toNatClampNeg)).toInt := ti_eq (f_S_100 75 ((x5).toNatClampNeg) (fun e => absurd e (by decide)))
          refine Sf.g (ck_iv (by omega) (by omega)) ?_
          refine Sf.g (ck_iv (by omega) (by omega)) ?_
          refine Sf.w I_S_100 F_S_100 rfl (show ((0) : Int) ≤ ((S_100.1 75 ((x5).toNatClampNeg))).toInt by omega) (show ((S_100.1 75 ((x5).toNatClampNeg))).toInt ≤ (299 : Int) by omega) (fun S_114 I_S_114 F_S_114 v_S_114 f_S_114 l_S_114 => ?_)
          have h57 := ti_eq (f_S_114 63 20 (fun e => absurd e (by decide)))
          have h58 : (S_114.1 75 ((x4).toNatClampNeg)).toInt = ((S_100.1 75 ((x5).toNatClampNeg))).toInt := eq_iv rfl rfl v_S_114
          have DD_S_114 := DD_fr (U := S_114) DD_S_100 (f_S_114 63 20 (fun e => absurd e (by decide))) (fun b => f_S_114 76 b (fun e => absurd e (by decide))) (fun b => f_S_114 77 b (fun e => absurd e (by decide)))
          have h59 : (S_114.1 74 ((x4).toNatClampNeg)).toInt = (S_100.1 74 ((x4).toNatClampNeg)).toInt := ti_eq (f_S_114 74 ((x4).toNatClampNeg) (fun e => absurd e (by decide)))
          refine Sf.g (ck_iv (by omega) (by omega)) ?_
          refine Sf.g (ck_iv (by omega) (by omega)) ?_
          refine Sf.w I_S_114 F_S_114 rfl (i32 _).1 (i32 _).2 (fun S_128 I_S_128 F_S_128 v_S_128 f_S_128 l_S_128 => ?_)
          have h60 := ti_eq (f_S_128 63 20 (fun e => absurd e (by decide)))
          have h61 : (S_128.1 76 ((x4).toNatClampNeg)).toInt = ((S_114.1 76 ((x5).toNatClampNeg))).toInt := eq_iv rfl rfl v_S_128
          have h62 : (S_128.1 74 ((x4).toNatClampNeg)).toInt = (S_114.1 74 ((x4).toNatClampNeg)).toInt := ti_eq (f_S_128 74 ((x4).toNatClampNeg) (fun e => absurd e (by decide)))
          have h63 : (S_128.1 75 ((x4).toNatClampNeg)).toInt = (S_114.1 75 ((x4).toNatClampNeg)).toInt := ti_eq (f_S_128 75 ((x4).toNatClampNeg) (fun e => absurd e (by decide)))
          refine Sf.g (ck_iv (by omega) (by omega)) ?_
          refine Sf.g (ck_iv (by omega) (by omega)) ?_
          refine Sf.w I_S_128 F_S_128 rfl (i32 _).1 (i32 _).2 (fun S_142 I_S_142 F_S_142 v_S_142 f_S_142 l_S_142 => ?_)
          have h64 := ti_eq (f_S_142 63 20 (fun e => absurd e (by decide)))
          have h65 : (S_142.1 77 ((x4).toNatClampNeg)).toInt = ((S_128.1 77 ((x5).toNatClampNeg))).toInt := eq_iv rfl rfl v_S_142
          have hc1 := cl_iv (x := x4) (by omega)
          have hc2 := cl_iv (x := x5) (by omega)
          have DD_S_142 : DD ((x4 + (1 : Int32))).toInt ((x5 + (1 : Int32))).toInt S_142 := DD_copy DD_S_114 hc1 hc2 (by omega) (by omega) v_S_128 f_S_128 v_S_142 f_S_142 (by exact add_iv rfl li_1 (by omega) (by omega)) (by exact add_iv rfl li_1 (by omega) (by omega))
          have h66 : (S_142.1 74 ((x4).toNatClampNeg)).toInt = (S_128.1 74 ((x4).toNatClampNeg)).toInt := ti_eq (f_S_142 74 ((x4).toNatClampNeg) (fun e => absurd e (by decide)))
          have h67 : (S_142.1 75 ((x4).toNatClampNeg)).toInt = (S_128.1 75 ((x4).toNatClampNeg)).toInt := ti_eq (f_S_142 75 ((x4).toNatClampNeg) (fun e => absurd e (by decide)))
          have h68 : (S_142.1 76 ((x4).toNatClampNeg)).toInt = (S_128.1 76 ((x4).toNatClampNeg)).toInt := ti_eq (f_S_142 76 ((x4).toNatClampNeg) (fun e => absurd e (by decide)))
          refine Sf.g (ck_iv (by omega) (by omega)) ?_
          refine Sf.g (ck_iv (by omega) (by omega)) ?_
          refine Sf.w I_S_142 F_S_142 rfl (i32 _).1 (i32 _).2 (fun S_156 I_S_156 F_S_156 v_S_156 f_S_156 l_S_156 => ?_)
          have h69 := ti_eq (f_S_156 63 20 (fun e => absurd e (by decide)))
          have h70 : (S_156.1 78 ((x4).toNatClampNeg)).toInt = ((S_142.1 78 ((x5).toNatClampNeg))).toInt := eq_iv rfl rfl v_S_156
          have DD_S_156 := DD_fr (U := S_156) DD_S_142 (f_S_156 63 20 (fun e => absurd e (by decide))) (fun b => f_S_156 76 b (fun e => absurd e (by decide))) (fun b => f_S_156 77 b (fun e => absurd e (by decide)))
          have h71 : (S_156.1 74 ((x4).toNatClampNeg)).toInt = (S_142.1 74 ((x4).toNatClampNeg)).toInt := ti_eq (f_S_156 74 ((x4).toNatClampNeg) (fun e => absurd e (by decide)))
          have h72 : (S_156.1 75 ((x4).toNatClampNeg)).toInt = (S_142.1 75 ((x4).toNatClampNeg)).toInt := ti_eq (f_S_156 75 ((x4).toNatClampNeg) (fun e => absurd e (by decide)))
          have h73 : (S_156.1 76 ((x4).toNatClampNeg)).toInt = (S_142.1 76 ((x4).toNatClampNeg)).toInt := ti_eq (f_S_156 76 ((x4).toNatClampNeg) (fun e => absurd e (by decide)))
          have h74 : (S_156.1 77 ((x4).toNatClampNeg)).toInt = (S_142.1 77 ((x4).toNatClampNeg)).toInt := ti_eq (f_S_156 77 ((x4).toNatClampNeg) (fun e => absurd e (by decide)))
          unfold fX12_drop_160
          have h75 := i32 x3
          try have h76 : ((x4 + (1 : Int32))).toInt = (x4).toInt + (1) := add_iv rfl li_1 (by omega) (by omega)
          try have h77 : ((x5 + (1 : Int32))).toInt = (x5).toInt + (1) := add_iv rfl li_1 (by omega) (by omega)
          have h78 := b_63_20 I_S_156
          refine Sf.mono (ih x1 x2 x3 (x4 + (1 : Int32)) (x5 + (1 : Int32)) S_156 I_S_156 DD_S_156 (by omega) (by omega) (by omega) (by omega)) (fun U r p_h79 => ?_)
          obtain ⟨I_U, G_U, p_h79, RD_U⟩ := p_h79
          exact ⟨I_U, Fr.tr F_S_156 G_U rfl, trivial, RD_U⟩
      · have h80 := neq_iv rfl rfl c_h11
        unfold fX12_drop_87
        refine Sf.g (ck_iv (by omega) (by omega)) ?_
        have h81 := i32 x4
        refine Sf.g (ck_iv (by omega) (by omega)) ?_
        refine Sf.w I_S F_S rfl (show ((0) : Int) ≤ ((S.1 74 ((x5).toNatClampNeg))).toInt by omega) (show ((S.1 74 ((x5).toNatClampNeg))).toInt ≤ (11 : Int) by omega) (fun S_100 I_S_100 F_S_100 v_S_100 f_S_100 l_S_100 => ?_)
        have h82 := ti_eq (f_S_100 63 20 (fun e => absurd e (by decide)))
        have h83 : (S_100.1 74 ((x4).toNatClampNeg)).toInt = ((S.1 74 ((x5).toNatClampNeg))).toInt := eq_iv rfl rfl v_S_100
        have DD_S_100 := DD_fr (U := S_100) DD_S (f_S_100 63 20 (fun e => absurd e (by decide))) (fun b => f_S_100 76 b (fun e => absurd e (by decide))) (fun b => f_S_100 77 b (fun e => absurd e (by decide)))
        refine Sf.g (ck_iv (by omega) (by omega)) ?_
        refine Sf.g (ck_iv (by omega) (by omega)) ?_
        have h84 := a_75 I_S_100 ((x5).toNatClampNeg)
        refine Sf.w I_S_100 F_S_100 rfl (show ((0) : Int) ≤ ((S_100.1 75 ((x5).toNatClampNeg))).toInt by omega) (show ((S_100.1 75 ((x5).toNatClampNeg))).toInt ≤ (299 : Int) by omega) (fun S_114 I_S_114 F_S_114 v_S_114 f_S_114 l_S_114 => ?_)
        have h85 := ti_eq (f_S_114 63 20 (fun e => absurd e (by decide)))
        have h86 : (S_114.1 75 ((x4).toNatClampNeg)).toInt = ((S_100.1 75 ((x5).toNatClampNeg))).toInt := eq_iv rfl rfl v_S_114
        have DD_S_114 := DD_fr (U := S_114) DD_S_100 (f_S_114 63 20 (fun e => absurd e (by decide))) (fun b => f_S_114 76 b (fun e => absurd e (by decide))) (fun b => f_S_114 77 b (fun e => absurd e (by decide)))
        have h87 : (S_114.1 74 ((x4).toNatClampNeg)).toInt = (S_100.1 74 ((x4).toNatClampNeg)).toInt := ti_eq (f_S_114 74 ((x4).toNatClampNeg) (fun e => absurd e (by decide)))
        refine Sf.g (ck_iv (by omega) (by omega)) ?_
        refine Sf.g (ck_iv (by omega) (by omega)) ?_
        refine Sf.w I_S_114 F_S_114 rfl (i32 _).1 (i32 _).2 (fun S_128 I_S_128 F_S_128 v_S_128 f_S_128 l_S_128 => ?_)
        have h88 := ti_eq (f_S_128 63 20 (fun e => absurd e (by decide)))
        have h89 : (S_128.1 76 ((x4).toNatClampNeg)).toInt = ((S_114.1 76 ((x5).toNatClampNeg))).toInt := eq_iv rfl rfl v_S_128
        have h90 : (S_128.1 74 ((x4).toNatClampNeg)).toInt = (S_114.1 74 ((x4).toNatClampNeg)).toInt := ti_eq (f_S_128 74 ((x4).toNatClampNeg) (fun e => absurd e (by decide)))
        have h91 : (S_128.1 75 ((x4).toNatClampNeg)).toInt = (S_114.1 75 ((x4).toNatClampNeg)).toInt := ti_eq (f_S_128 75 ((x4).toNatClampNeg) (fun e => absurd e (by decide)))
        refine Sf.g (ck_iv (by omega) (by omega)) ?_
        refine Sf.g (ck_iv (by omega) (by omega)) ?_
        refine Sf.w I_S_128 F_S_128 rfl (i32 _).1 (i32 _).2 (fun S_142 I_S_142 F_S_142 v_S_142 f_S_142 l_S_142 => ?_)
        have h92 := ti_eq (f_S_142 63 20 (fun e => absurd e (by decide)))
        have h93 : (S_142.1 77 ((x4).toNatClampNeg)).toInt = ((S_128.1 77 ((x5).toNatClampNeg))).toInt := eq_iv rfl rfl v_S_142
        have hc1 := cl_iv (x := x4) (by omega)
        have hc2 := cl_iv (x := x5) (by omega)
        have DD_S_142 : DD ((x4 + (1 : Int32))).toInt ((x5 + (1 : Int32))).toInt S_142 := DD_copy DD_S_114 hc1 hc2 (by omega) (by omega) v_S_128 f_S_128 v_S_142 f_S_142 (by exact add_iv rfl li_1 (by omega) (by omega)) (by exact add_iv rfl li_1 (by omega) (by omega))
        have h94 : (S_142.1 74 ((x4).toNatClampNeg)).toInt = (S_128.1 74 ((x4).toNatClampNeg)).toInt := ti_eq (f_S_142 74 ((x4).toNatClampNeg) (fun e => absurd e (by decide)))
        have h95 : (S_142.1 75 ((x4).toNatClampNeg)).toInt = (S_128.1 75 ((x4).toNatClampNeg)).toInt := ti_eq (f_S_142 75 ((x4).toNatClampNeg) (fun e => absurd e (by decide)))
        have h96 : (S_142.1 76 ((x4).toNatClampNeg)).toInt = (S_128.1 76 ((x4).toNatClampNeg)).toInt := ti_eq (f_S_142 76 ((x4).toNatClampNeg) (fun e => absurd e (by decide)))
        refine Sf.g (ck_iv (by omega) (by omega)) ?_
        refine Sf.g (ck_iv (by omega) (by omega)) ?_
        refine Sf.w I_S_142 F_S_142 rfl (i32 _).1 (i32 _).2 (fun S_156 I_S_156 F_S_156 v_S_156 f_S_156 l_S_156 => ?_)
        have h97 := ti_eq (f_S_156 63 20 (fun e => absurd e (by decide)))
        have h98 : (S_156.1 78 ((x4).toNatClampNeg)).toInt = ((S_142.1 78 ((x5).toNatClampNeg))).toInt := eq_iv rfl rfl v_S_156
        have DD_S_156 := DD_fr (U := S_156) DD_S_142 (f_S_156 63 20 (fun e => absurd e (by decide))) (fun b => f_S_156 76 b (fun e => absurd e (by decide))) (fun b => f_S_156 77 b (fun e => absurd e (by decide)))
        have h99 : (S_156.1 74 ((x4).toNatClampNeg)).toInt = (S_142.1 74 ((x4).toNatClampNeg)).toInt := ti_eq (f_S_156 74 ((x4).toNatClampNeg) (fun e => absurd e (by decide)))
        have h100 : (S_156.1 75 ((x4).toNatClampNeg)).toInt = (S_142.1 75 ((x4).toNatClampNeg)).toInt := ti_eq (f_S_156 75 ((x4).toNatClampNeg) (fun e => absurd e (by decide)))
        have h101 : (S_156.1 76 ((x4).toNatClampNeg)).toInt = (S_142.1 76 ((x4).toNatClampNeg)).toInt := ti_eq (f_S_156 76 ((x4).toNatClampNeg) (fun e => absurd e (by decide)))
        have h102 : (S_156.1 77 ((x4).toNatClampNeg)).toInt = (S_142.1 77 ((x4).toNatClampNeg)).toInt := ti_eq (f_S_156 77 ((x4).toNatClampNeg) (fun e => absurd e (by decide)))
        unfold fX12_drop_160
        have h103 := i32 x2
        have h104 := i32 x3
        try have h105 : ((x4 + (1 : Int32))).toInt = (x4).toInt + (1) := add_iv rfl li_1 (by omega) (by omega)
        try have h106 : ((x5 + (1 : Int32))).toInt = (x5).toInt + (1) := add_iv rfl li_1 (by omega) (by omega)
        have h107 := b_63_20 I_S_156
        refine Sf.mono (ih x1 x2 x3 (x4 + (1 : Int32)) (x5 + (1 : Int32)) S_156 I_S_156 DD_S_156 (by omega) (by omega) (by omega) (by omega)) (fun U r p_h108 => ?_)
        obtain ⟨I_U, G_U, p_h108, RD_U⟩ := p_h108
        exact ⟨I_U, Fr.tr F_S_156 G_U rfl, trivial, RD_U⟩
theorem s_fX12_drop (fu : Nat) (hfu : 1000000000000000000 ≤ fu) (x1 : Int32) (x2 : Int32) (x3 : Int32) (S : St) (I_S : Inv S) (RD_S : RD S) : Sf (fX12_drop fu x1 x2 x3 S) (fun U r => Inv U ∧ Fr [(63, 1), (63, 21), (74, 0), (75, 0), (76, 0), (77, 0), (78, 0)] S U ∧ (True) ∧ RD U) := by
  unfold fX12_drop
  have F_S : Fr [(63, 1), (63, 21), (74, 0), (75, 0), (76, 0), (77, 0), (78, 0)] S S := Fr.refl _ _
  refine Sf.w I_S F_S rfl (i32 _).1 (i32 _).2 (fun S_2 I_S_2 F_S_2 v_S_2 f_S_2 l_S_2 => ?_)
  have h1 := ti_eq (f_S_2 63 5 (fun _ e => absurd e (by decide)))
  have h2 := ti_eq (f_S_2 63 14 (fun _ e => absurd e (by decide)))
  have h3 := ti_eq (f_S_2 63 20 (fun _ e => absurd e (by decide)))
  have RD_S_2 := RD_fr (U := S_2) RD_S (f_S_2 63 20 (fun _ e => absurd e (by decide))) (fun b => f_S_2 76 b (fun e => absurd e (by decide))) (fun b => f_S_2 77 b (fun e => absurd e (by decide)))
  have h4 := i32 x1
  have h5 := b_63_14 I_S_2
  refine Sf.bp (s_fX12_noZone fu hfu x1 S_2 I_S_2) (fun r_8 p_r_8 => ?_)
  have h6 := i32 r_8
  refine Sf.i (fun c_h7 => ?_) (fun c_h7 => ?_)
  · have h8 := eq_iv rfl li_0 c_h7
    have h9 := i32 x2
    have h10 := b_63_5 I_S_2
    refine Sf.bp (s_fX12_noName fu hfu x2 S_2 I_S_2) (fun r_16 p_r_16 => ?_)
    have h11 := i32 r_16
    refine Sf.i (fun c_h12 => ?_) (fun c_h12 => ?_)
    · have h13 := eq_iv rfl li_0 c_h12
      unfold fX12_drop_27
      have h14 : ((0 : Int32)).toInt = 0 := li_0
      have h15 : ((1 : Int32)).toInt = 1 := li_1
      refine Sf.b (s_fX12_throwsIf fu hfu (0 : Int32) (1 : Int32) S_2 I_S_2 (by omega) (by omega)) (fun S_28 r_28 p_r_28 => ?_)
      obtain ⟨I_S_28, G_S_28, p_r_28⟩ := p_r_28
      have F_S_28 := Fr.tr F_S_2 G_S_28 rfl
      have RD_S_28 := RD_fr (U := S_28) RD_S_2 (G_S_28 63 20 rfl) (fun b => G_S_28 76 b rfl) (fun b => G_S_28 77 b rfl)
      have h16 := ti_eq (G_S_28 63 5 rfl)
      have h17 := ti_eq (G_S_28 63 14 rfl)
      have h18 := ti_eq (G_S_28 63 20 rfl)
      have h19 := i32 r_28
      refine Sf.i (fun c_h20 => ?_) (fun c_h20 => ?_)
      · have h21 := eq_iv rfl li_0 c_h20
        have DD_S_28 : DD ((0 : Int32)).toInt ((0 : Int32)).toInt S_28 := DD_start RD_S_28 li_0
        have h22 := i32 x3
        have h23 := b_63_20 I_S_28
        refine Sf.mono (s_fX12_drop_42 fu hfu fu x1 x2 x3 (0 : Int32) (0 : Int32) S_28 I_S_28 DD_S_28 (by omega) (by omega) (by omega) (by omega)) (fun U r p_h24 => ?_)
        obtain ⟨I_U, G_U, p_h24, RD_U⟩ := p_h24
        have h25 := ti_eq (G_U 63 5 rfl)
        have h26 := ti_eq (G_U 63 14 rfl)
        exact ⟨I_U, Fr.tr F_S_28 G_U rfl, trivial, RD_U⟩
      · have h27 := neq_iv rfl li_0 c_h20
        exact Sf.so ⟨I_S_28, F_S_28, trivial, RD_S_28⟩
    · have h28 := neq_iv rfl li_0 c_h12
      unfold fX12_drop_22
      unfold fX12_drop_27
      have h29 : ((1 : Int32)).toInt = 1 := li_1
      refine Sf.b (s_fX12_throwsIf fu hfu (1 : Int32) (1 : Int32) S_2 I_S_2 (by omega) (by omega)) (fun S_28 r_28 p_r_28 => ?_)
      obtain ⟨I_S_28, G_S_28, p_r_28⟩ := p_r_28
      have F_S_28 := Fr.tr F_S_2 G_S_28 rfl
      have RD_S_28 := RD_fr (U := S_28) RD_S_2 (G_S_28 63 20 rfl) (fun b => G_S_28 76 b rfl) (fun b => G_S_28 77 b rfl)
      have h30 := ti_eq (G_S_28 63 5 rfl)
      have h31 := ti_eq (G_S_28 63 14 rfl)
      have h32 := ti_eq (G_S_28 63 20 rfl)
      have h33 := i32 r_28
      refine Sf.i (fun c_h34 => ?_) (fun c_h34 => ?_)
      · have h35 := eq_iv rfl li_0 c_h34
        have DD_S_28 : DD ((0 : Int32)).toInt ((0 : Int32)).toInt S_28 := DD_start RD_S_28 li_0
        have h36 := i32 x3
        have h37 : ((0 : Int32)).toInt = 0 := li_0
        have h38 := b_63_20 I_S_28
        refine Sf.mono (s_fX12_drop_42 fu hfu fu x1 x2 x3 (0 : Int32) (0 : Int32) S_28 I_S_28 DD_S_28 (by omega) (by omega) (by omega) (by omega)) (fun U r p_h39 => ?_)
        obtain ⟨I_U, G_U, p_h39, RD_U⟩ := p_h39
        have h40 := ti_eq (G_U 63 5 rfl)
        have h41 := ti_eq (G_U 63 14 rfl)
        exact ⟨I_U, Fr.tr F_S_28 G_U rfl, trivial, RD_U⟩
      · have h42 := neq_iv rfl li_0 c_h34
        exact Sf.so ⟨I_S_28, F_S_28, trivial, RD_S_28⟩
  · have h43 := neq_iv rfl li_0 c_h7
    unfold fX12_drop_22
    unfold fX12_drop_27
    have h44 : ((1 : Int32)).toInt = 1 := li_1
    refine Sf.b (s_fX12_throwsIf fu hfu (1 : Int32) (1 : Int32) S_2 I_S_2 (by omega) (by omega)) (fun S_28 r_28 p_r_28 => ?_)
    obtain ⟨I_S_28, G_S_28, p_r_28⟩ := p_r_28
    have F_S_28 := Fr.tr F_S_2 G_S_28 rfl
    have RD_S_28 := RD_fr (U := S_28) RD_S_2 (G_S_28 63 20 rfl) (fun b => G_S_28 76 b rfl) (fun b => G_S_28 77 b rfl)
    have h45 := ti_eq (G_S_28 63 5 rfl)
    have h46 := ti_eq (G_S_28 63 14 rfl)
    have h47 := ti_eq (G_S_28 63 20 rfl)
    have h48 := i32 r_28
    refine Sf.i (fun c_h49 => ?_) (fun c_h49 => ?_)
    · have h50 := eq_iv rfl li_0 c_h49
      have DD_S_28 : DD ((0 : Int32)).toInt ((0 : Int32)).toInt S_28 := DD_start RD_S_28 li_0
      have h51 := i32 x2
      have h52 := i32 x3
      have h53 : ((0 : Int32)).toInt = 0 := li_0
      have h54 := b_63_20 I_S_28
      refine Sf.mono (s_fX12_drop_42 fu hfu fu x1 x2 x3 (0 : Int32) (0 : Int32) S_28 I_S_28 DD_S_28 (by omega) (by omega) (by omega) (by omega)) (fun U r p_h55 => ?_)
      obtain ⟨I_U, G_U, p_h55, RD_U⟩ := p_h55
      have h56 := ti_eq (G_U 63 5 rfl)
      have h57 := ti_eq (G_U 63 14 rfl)
      exact ⟨I_U, Fr.tr F_S_28 G_U rfl, trivial, RD_U⟩
    · have h58 := neq_iv rfl li_0 c_h49
      exact Sf.so ⟨I_S_28, F_S_28, trivial, RD_S_28⟩
theorem s_fX12_drops_78 (fu : Nat) (hfu : 1000000000000000000 ≤ fu) (k_12 : Int32 → St → Option (St × Int32)) (N : Nat) (hk_k_12 : ∀ (x2 : Int32) (S : St), Inv S → DK (x2).toInt S → (0 ≤ (x2).toInt) → ((S.1 63 50).toInt ≤ 99) → (100 - (x2).toInt).toNat < N → Sf (k_12 x2 S) (fun U r => Inv U ∧ Fr [(91, 0), (92, 0), (93, 0), (94, 0)] S U ∧ (((U.1 63 50).toInt = (S.1 63 50).toInt)) ∧ RK U)) : ∀ (n : Nat) (x2 : Int32) (x3 : Int32) (S : St), Inv S → DI (x2).toInt (x3).toInt S → (0 ≤ (x2).toInt) → ((x2).toInt < (S.1 63 50).toInt) → ((S.1 63 50).toInt ≤ 99) → (0 ≤ (x3).toInt) → ((100 - (x2).toInt).toNat ≤ N) → (10 - (x3).toInt).toNat < n → Sf (fX12_drops_78 fu k_12 n x2 x3 S) (fun U r => Inv U ∧ Fr [(91, 0), (92, 0), (93, 0), (94, 0)] S U ∧ (((U.1 63 50).toInt = (S.1 63 50).toInt)) ∧ RK U) := by
  intro n
  induction n with
  | zero => intro x2 x3 S I_S DI_S g0 g1 g2 g3 g4 hm; exact absurd hm (Nat.not_lt_zero _)
  | succ n ih =>
    intro x2 x3 S I_S DI_S g0 g1 g2 g3 g4 hm
    rw [fX12_drops_78_s]
    have F_S : Fr [(91, 0), (92, 0), (93, 0), (94, 0)] S S := Fr.refl _ _
    have h1 := b_63_50 I_S
    have h2 := b_63_50 I_S
    have h3 := i32 x3
    refine Sf.i (fun c_h4 => ?_) (fun c_h4 => ?_)
    · have h5 := le_iv li_10 rfl c_h4
      have DK_S : DK ((x2 + (1 : Int32))).toInt S := DK_of_DI I_S DI_S (by omega) (by omega) (by omega) (by exact add_iv rfl li_1 (by omega) (by omega))
      have h6 := i32 x2
      try have h7 : ((x2 + (1 : Int32))).toInt = (x2).toInt + (1) := add_iv rfl li_1 (by omega) (by omega)
      have h8 := b_63_50 I_S
      refine Sf.mono (hk_k_12 (x2 + (1 : Int32)) S I_S DK_S (by omega) (by omega) (by omega)) (fun U r p_h9 => ?_)
      obtain ⟨I_U, G_U, p_h9, RK_U⟩ := p_h9
      have h10 := b_63_50 I_U
      have h11 := b_63_50 I_S
      have h12 := ti_eq (G_U 63 50 rfl)
      exact ⟨I_U, Fr.tr F_S G_U rfl, by omega, RK_U⟩
    · have h13 := nle_iv li_10 rfl c_h4
      have h14 := i32 x2
      try have h15 : ((x2 + (1 : Int32))).toInt = (x2).toInt + (1) := add_iv rfl li_1 (by omega) (by omega)
      try have h16 : (((10 : Int32) * (x2 + (1 : Int32)))).toInt = (10) * ((x2 + (1 : Int32))).toInt := mul_iv li_10 rfl (by omega) (by omega)
      try have h17 : ((((10 : Int32) * (x2 + (1 : Int32))) + x3)).toInt = (((10 : Int32) * (x2 + (1 : Int32)))).toInt + (x3).toInt := add_iv rfl rfl (by omega) (by omega)
      refine Sf.g (ck_iv (by omega) (by omega)) ?_
      try have h18 : (((10 : Int32) * x2)).toInt = (10) * (x2).toInt := mul_iv li_10 rfl (by omega) (by omega)
      try have h19 : ((((10 : Int32) * x2) + x3)).toInt = (((10 : Int32) * x2)).toInt + (x3).toInt := add_iv rfl rfl (by omega) (by omega)
      refine Sf.g (ck_iv (by omega) (by omega)) ?_
      refine Sf.w I_S F_S rfl (i32 _).1 (i32 _).2 (fun S_107 I_S_107 F_S_107 v_S_107 f_S_107 l_S_107 => ?_)
      have h20 := ti_eq (f_S_107 63 50 (fun e => absurd e (by decide)))
      have h21 : (S_107.1 94 (((((10 : Int32) * x2) + x3)).toNatClampNeg)).toInt = ((S.1 94 (((((10 : Int32) * (x2 + (1 : Int32))) + x3)).toNatClampNeg))).toInt := eq_iv rfl rfl v_S_107
      have hc1 := cl_iv (x := ((10 : Int32) * x2) + x3) (by omega)
      have hc2 := cl_iv (x := ((10 : Int32) * (x2 + (1 : Int32))) + x3) (by omega)
      have DI_S_107 : DI (x2).toInt ((x3 + (1 : Int32))).toInt S_107 := DI_step I_S DI_S (by omega) (by omega) (by omega) (by omega) (by omega) v_S_107 f_S_107 (by exact add_iv rfl li_1 (by omega) (by omega))
      try have h22 : ((x3 + (1 : Int32))).toInt = (x3).toInt + (1) := add_iv rfl li_1 (by omega) (by omega)
      have h23 := b_63_50 I_S_107
      refine Sf.mono (ih x2 (x3 + (1 : Int32)) S_107 I_S_107 DI_S_107 (by omega) (by omega) (by omega) (by omega) (by omega) (by omega)) (fun U r p_h24 => ?_)
      obtain ⟨I_U, G_U, p_h24, RK_U⟩ := p_h24
      have h25 := b_63_50 I_U
      have h26 := b_63_50 I_S
      have h27 := ti_eq (G_U 63 50 rfl)
      exact ⟨I_U, Fr.tr F_S_107 G_U rfl, by omega, RK_U⟩
theorem s_fX12_drops_12 (fu : Nat) (hfu : 1000000000000000000 ≤ fu) : ∀ (n : Nat) (x2 : Int32) (S : St), Inv S → DK (x2).toInt S → (0 ≤ (x2).toInt) → ((S.1 63 50).toInt ≤ 99) → (100 - (x2).toInt).toNat < n → Sf (fX12_drops_12 fu n x2 S) (fun U r => Inv U ∧ Fr [(91, 0), (92, 0), (93, 0), (94, 0)] S U ∧ (((U.1 63 50).toInt = (S.1 63 50).toInt)) ∧ RK U) := by
  intro n
  induction n with
  | zero => intro x2 S I_S DK_S g0 g1 hm; exact absurd hm (Nat.not_lt_zero _)
  | succ n ih =>
    intro x2 S I_S DK_S g0 g1 hm
    rw [fX12_drops_12_s]
    have F_S : Fr [(91, 0), (92, 0), (93, 0), (94, 0)] S S := Fr.refl _ _
    have h1 := b_63_50 I_S
    have h2 := b_63_50 I_S
    have h3 := i32 x2
    refine Sf.i (fun c_h4 => ?_) (fun c_h4 => ?_)
    · have h5 := le_iv rfl rfl c_h4
      have RK_S : RK S := DK_end DK_S (by omega)
      have h6 := b_63_50 I_S
      have h7 := b_63_50 I_S
      have h8 : ((0 : Int32)).toInt = 0 := li_0
      exact Sf.so ⟨I_S, F_S, by omega, RK_S⟩
    · have h9 := nle_iv rfl rfl c_h4
      try have h10 : ((x2 + (1 : Int32))).toInt = (x2).toInt + (1) := add_iv rfl li_1 (by omega) (by omega)
      refine Sf.g (ck_iv (by omega) (by omega)) ?_
      refine Sf.g (ck_iv (by omega) (by omega)) ?_
      refine Sf.w I_S F_S rfl (i32 _).1 (i32 _).2 (fun S_33 I_S_33 F_S_33 v_S_33 f_S_33 l_S_33 => ?_)
      have h11 := ti_eq (f_S_33 63 50 (fun e => absurd e (by decide)))
      have h12 : (S_33.1 91 ((x2).toNatClampNeg)).toInt = ((S.1 91 (((x2 + (1 : Int32))).toNatClampNeg))).toInt := eq_iv rfl rfl v_S_33
      have DK_S_33 := DK_fr (U := S_33) DK_S (f_S_33 63 50 (fun e => absurd e (by decide))) (fun b => f_S_33 92 b (fun e => absurd e (by decide))) (fun b => f_S_33 93 b (fun e => absurd e (by decide))) (fun b => f_S_33 94 b (fun e => absurd e (by decide)))
      refine Sf.g (ck_iv (by omega) (by omega)) ?_
      refine Sf.g (ck_iv (by omega) (by omega)) ?_
      refine Sf.w I_S_33 F_S_33 rfl (i32 _).1 (i32 _).2 (fun S_47 I_S_47 F_S_47 v_S_47 f_S_47 l_S_47 => ?_)
      have h13 := ti_eq (f_S_47 63 50 (fun e => absurd e (by decide)))
      have h14 : (S_47.1 92 ((x2).toNatClampNeg)).toInt = ((S_33.1 92 (((x2 + (1 : Int32))).toNatClampNeg))).toInt := eq_iv rfl rfl v_S_47
      have h15 : (S_47.1 91 ((x2).toNatClampNeg)).toInt = (S_33.1 91 ((x2).toNatClampNeg)).toInt := ti_eq (f_S_47 91 ((x2).toNatClampNeg) (fun e => absurd e (by decide)))
      refine Sf.g (ck_iv (by omega) (by omega)) ?_
      refine Sf.g (ck_iv (by omega) (by omega)) ?_
      have h16 := a_93 I_S_47 (((x2 + (1 : Int32))).toNatClampNeg)
      refine Sf.w I_S_47 F_S_47 rfl (show ((0) : Int) ≤ ((S_47.1 93 (((x2 + (1 : Int32))).toNatClampNeg))).toInt by omega) (show ((S_47.1 93 (((x2 + (1 : Int32))).toNatClampNeg))).toInt ≤ (10 : Int) by omega) (fun S_61 I_S_61 F_S_61 v_S_61 f_S_61 l_S_61 => ?_)
      have h17 := ti_eq (f_S_61 63 50 (fun e => absurd e (by decide)))
      have h18 : (S_61.1 93 ((x2).toNatClampNeg)).toInt = ((S_47.1 93 (((x2 + (1 : Int32))).toNatClampNeg))).toInt := eq_iv rfl rfl v_S_61
      have hc1 := cl_iv (x := x2) (by omega)
      have hc2 := cl_iv (x := x2 + (1 : Int32)) (by omega)
      have DI_S_61 : DI (x2).toInt ((0 : Int32)).toInt S_61 := DI_start DK_S_33 hc1 (by omega) v_S_47 f_S_47 v_S_61 f_S_61 li_0
      have h19 : (S_61.1 91 ((x2).toNatClampNeg)).toInt = (S_47.1 91 ((x2).toNatClampNeg)).toInt := ti_eq (f_S_61 91 ((x2).toNatClampNeg) (fun e => absurd e (by decide)))
      have h20 : (S_61.1 92 ((x2).toNatClampNeg)).toInt = (S_47.1 92 ((x2).toNatClampNeg)).toInt := ti_eq (f_S_61 92 ((x2).toNatClampNeg) (fun e => absurd e (by decide)))
      refine Sf.g (ck_iv (by omega) (by omega)) ?_
      refine Sf.g (ck_iv (by omega) (by omega)) ?_
      refine Sf.j I_S_61 F_S_61 (fun S_75 I_S_75 F_S_75 l_S_75 => ?_)
      have h21 : (S_75.1 63 50).toInt = (S_61.1 63 50).toInt := by rw [l_S_75]
      have DI_S_75 := DI_fr (U := S_75) DI_S_61 (by rw [l_S_75]) (fun b => by rw [l_S_75]) (fun b => by rw [l_S_75]) (fun b => by rw [l_S_75])
      have h22 : (S_75.1 91 ((x2).toNatClampNeg)).toInt = (S_61.1 91 ((x2).toNatClampNeg)).toInt := (by rw [l_S_75])
      have h23 : (S_75.1 92 ((x2).toNatClampNeg)).toInt = (S_61.1 92 ((x2).toNatClampNeg)).toInt := (by rw [l_S_75])
      have h24 : (S_75.1 93 ((x2).toNatClampNeg)).toInt = (S_61.1 93 ((x2).toNatClampNeg)).toInt := (by rw [l_S_75])
      have h25 : ((0 : Int32)).toInt = 0 := li_0
      have h26 := b_63_50 I_S_75
      refine Sf.mono (s_fX12_drops_78 fu hfu _ _ ih fu x2 (0 : Int32) S_75 I_S_75 DI_S_75 (by omega) (by omega) (by omega) (by omega) (by omega) (by omega)) (fun U r p_h27 => ?_)
      obtain ⟨I_U, G_U, p_h27, RK_U⟩ := p_h27
      have h28 := b_63_50 I_U
      have h29 := b_63_50 I_S
      have h30 := ti_eq (G_U 63 50 rfl)
      exact ⟨I_U, Fr.tr F_S_75 G_U rfl, by omega, RK_U⟩
theorem s_fX12_drops (fu : Nat) (hfu : 1000000000000000000 ≤ fu) (x1 : Int32) (S : St) (I_S : Inv S) (RK_S : RK S) (g0 : 0 ≤ (x1).toInt) (g1 : (x1).toInt < (S.1 63 50).toInt) : Sf (fX12_drops fu x1 S) (fun U r => Inv U ∧ Fr [(63, 51), (91, 0), (92, 0), (93, 0), (94, 0)] S U ∧ (((U.1 63 50).toInt = (S.1 63 50).toInt - 1)) ∧ RK U) := by
  unfold fX12_drops
  have F_S : Fr [(63, 51), (91, 0), (92, 0), (93, 0), (94, 0)] S S := Fr.refl _ _
  have h1 := b_63_50 I_S
  have h2 := b_63_50 I_S
  try have h3 : (((S.1 63 50) - (1 : Int32))).toInt = ((S.1 63 50)).toInt - (1) := sub_iv rfl li_1 (by omega) (by omega)
  refine Sf.w I_S F_S rfl (show ((0) : Int) ≤ (((S.1 63 50) - (1 : Int32))).toInt by omega) (show (((S.1 63 50) - (1 : Int32))).toInt ≤ (100 : Int) by omega) (fun S_7 I_S_7 F_S_7 v_S_7 f_S_7 l_S_7 => ?_)
  have h4 := eq_iv rfl rfl v_S_7
  have DK_S_7 : DK (x1).toInt S_7 := DK_start RK_S f_S_7 (by omega)
  have h5 := i32 x1
  have h6 := b_63_50 I_S_7
  refine Sf.mono (s_fX12_drops_12 fu hfu fu x1 S_7 I_S_7 DK_S_7 (by omega) (by omega) (by omega)) (fun U r p_h7 => ?_)
  obtain ⟨I_U, G_U, p_h7, RK_U⟩ := p_h7
  have h8 := b_63_50 I_U
  have h9 := b_63_50 I_S
  have h10 := ti_eq (G_U 63 50 rfl)
  exact ⟨I_U, Fr.tr F_S_7 G_U rfl, by omega, RK_U⟩
theorem s_fX12_puts_152 (fu : Nat) (hfu : 1000000000000000000 ≤ fu) : ∀ (n : Nat) (x5 : Int32) (S : St), Inv S → PI (x5).toInt S → (0 ≤ (x5).toInt) → ((S.1 63 50).toInt < 100) → (10 - (x5).toInt).toNat < n → Sf (fX12_puts_152 fu n x5 S) (fun U r => Inv U ∧ Fr [(63, 51), (94, 0)] S U ∧ (True) ∧ RK U) := by
  intro n
  induction n with
  | zero => intro x5 S I_S PI_S g0 g1 hm; exact absurd hm (Nat.not_lt_zero _)
  | succ n ih =>
    intro x5 S I_S PI_S g0 g1 hm
    rw [fX12_puts_152_s]
    have F_S : Fr [(63, 51), (94, 0)] S S := Fr.refl _ _
    have h1 := b_63_50 I_S
    have h2 := b_63_53 I_S
    have h3 := i32 x5
    refine Sf.i (fun c_h4 => ?_) (fun c_h4 => ?_)
    · have h5 := le_iv rfl rfl c_h4
      have h6 := b_63_50 I_S
      try have h7 : (((S.1 63 50) + (1 : Int32))).toInt = ((S.1 63 50)).toInt + (1) := add_iv rfl li_1 (by omega) (by omega)
      refine Sf.w I_S F_S rfl (show ((0) : Int) ≤ (((S.1 63 50) + (1 : Int32))).toInt by omega) (show (((S.1 63 50) + (1 : Int32))).toInt ≤ (100 : Int) by omega) (fun S_196 I_S_196 F_S_196 v_S_196 f_S_196 l_S_196 => ?_)
      have h8 := eq_iv rfl rfl v_S_196
      have h9 := ti_eq (f_S_196 63 53 (fun _ e => absurd e (by decide)))
      have RK_S_196 : RK S_196 := PI_end I_S PI_S (by omega) f_S_196 (by omega)
      exact Sf.so ⟨I_S_196, F_S_196, trivial, RK_S_196⟩
    · have h10 := nle_iv rfl rfl c_h4
      refine Sf.g (ck_iv (by omega) (by omega)) ?_
      have h11 := b_63_50 I_S
      try have h12 : (((10 : Int32) * (S.1 63 50))).toInt = (10) * ((S.1 63 50)).toInt := mul_iv li_10 rfl (by omega) (by omega)
      try have h13 : ((((10 : Int32) * (S.1 63 50)) + x5)).toInt = (((10 : Int32) * (S.1 63 50))).toInt + (x5).toInt := add_iv rfl rfl (by omega) (by omega)
      refine Sf.g (ck_iv (by omega) (by omega)) ?_
      refine Sf.w I_S F_S rfl (i32 _).1 (i32 _).2 (fun S_182 I_S_182 F_S_182 v_S_182 f_S_182 l_S_182 => ?_)
      have h14 := ti_eq (f_S_182 63 50 (fun e => absurd e (by decide)))
      have h15 := ti_eq (f_S_182 63 53 (fun e => absurd e (by decide)))
      have h16 : (S_182.1 94 (((((10 : Int32) * (S.1 63 50)) + x5)).toNatClampNeg)).toInt = ((S.1 96 ((x5).toNatClampNeg))).toInt := eq_iv rfl rfl v_S_182
      have h17 : (S_182.1 94 (((((10 : Int32) * (S_182.1 63 50)) + x5)).toNatClampNeg)).toInt = ((S.1 96 ((x5).toNatClampNeg))).toInt := by rw [f_S_182 63 50 (fun e => absurd e (by decide))]; exact eq_iv rfl rfl v_S_182
      have hc1 := cl_iv (x := ((10 : Int32) * (S.1 63 50)) + x5) (by omega)
      have hc2 := cl_iv (x := x5) (by omega)
      have PI_S_182 : PI ((x5 + (1 : Int32))).toInt S_182 := PI_step I_S PI_S (by omega) (by omega) hc2 v_S_182 f_S_182 (by exact add_iv rfl li_1 (by omega) (by omega))
      have h18 : (S_182.1 96 ((x5).toNatClampNeg)).toInt = (S.1 96 ((x5).toNatClampNeg)).toInt := ti_eq (f_S_182 96 ((x5).toNatClampNeg) (fun e => absurd e (by decide)))
      try have h19 : ((x5 + (1 : Int32))).toInt = (x5).toInt + (1) := add_iv rfl li_1 (by omega) (by omega)
      have h20 := b_63_50 I_S_182
      refine Sf.mono (ih (x5 + (1 : Int32)) S_182 I_S_182 PI_S_182 (by omega) (by omega) (by omega)) (fun U r p_h21 => ?_)
      obtain ⟨I_U, G_U, p_h21, RK_U⟩ := p_h21
      have h22 := ti_eq (G_U 63 53 rfl)
      exact ⟨I_U, Fr.tr F_S_182 G_U rfl, trivial, RK_U⟩
theorem s_fX12_puts_97 (fu : Nat) (hfu : 1000000000000000000 ≤ fu) (x1 : Int32) (x2 : Int32) (S : St) (I_S : Inv S) (RK_S : RK S) (SM_S : SM (x2).toInt S) (g0 : (S.1 63 50).toInt < 100) : Sf (fX12_puts_97 fu x1 x2 S) (fun U r => Inv U ∧ Fr [(63, 51), (91, 0), (92, 0), (93, 0), (94, 0)] S U ∧ (True) ∧ RK U) := by
  unfold fX12_puts_97
  have F_S : Fr [(63, 51), (91, 0), (92, 0), (93, 0), (94, 0)] S S := Fr.refl _ _
  have h1 := b_63_50 I_S
  have h2 := b_63_50 I_S
  refine Sf.g (ck_iv (by omega) (by omega)) ?_
  have h3 := i32 x1
  refine Sf.w I_S F_S rfl (i32 _).1 (i32 _).2 (fun S_106 I_S_106 F_S_106 v_S_106 f_S_106 l_S_106 => ?_)
  have h4 := ti_eq (f_S_106 63 50 (fun e => absurd e (by decide)))
  have h5 := ti_eq (f_S_106 63 51 (fun e => absurd e (by decide)))
  have h6 := ti_eq (f_S_106 63 53 (fun e => absurd e (by decide)))
  have h7 : (S_106.1 91 (((S.1 63 50)).toNatClampNeg)).toInt = (x1).toInt := eq_iv rfl rfl v_S_106
  have h8 : (S_106.1 91 (((S_106.1 63 50)).toNatClampNeg)).toInt = (x1).toInt := by rw [f_S_106 63 50 (fun e => absurd e (by decide))]; exact eq_iv rfl rfl v_S_106
  have RK_S_106 := RK_fr (U := S_106) RK_S (f_S_106 63 50 (fun e => absurd e (by decide))) (fun b => f_S_106 92 b (fun e => absurd e (by decide))) (fun b => f_S_106 93 b (fun e => absurd e (by decide))) (fun b => f_S_106 94 b (fun e => absurd e (by decide)))
  have SM_S_106 := SM_fr (U := S_106) SM_S (f_S_106 63 53 (fun e => absurd e (by decide))) (fun b => f_S_106 96 b (fun e => absurd e (by decide)))
  have h9 := b_63_50 I_S_106
  refine Sf.g (ck_iv (by omega) (by omega)) ?_
  have h10 := i32 x2
  refine Sf.w I_S_106 F_S_106 rfl (i32 _).1 (i32 _).2 (fun S_116 I_S_116 F_S_116 v_S_116 f_S_116 l_S_116 => ?_)
  have h11 := ti_eq (f_S_116 63 50 (fun e => absurd e (by decide)))
  have h12 := ti_eq (f_S_116 63 51 (fun e => absurd e (by decide)))
  have h13 := ti_eq (f_S_116 63 53 (fun e => absurd e (by decide)))
  have h14 : (S_116.1 92 (((S_106.1 63 50)).toNatClampNeg)).toInt = (x2).toInt := eq_iv rfl rfl v_S_116
  have h15 : (S_116.1 92 (((S_116.1 63 50)).toNatClampNeg)).toInt = (x2).toInt := by rw [f_S_116 63 50 (fun e => absurd e (by decide))]; exact eq_iv rfl rfl v_S_116
  have SM_S_116 := SM_fr (U := S_116) SM_S_106 (f_S_116 63 53 (fun e => absurd e (by decide))) (fun b => f_S_116 96 b (fun e => absurd e (by decide)))
  have hc3 := cl_iv (b_63_50 I_S_106).1
  have RK_S_116 : RK S_116 := RK_w RK_S_106 (by omega) (Or.inl rfl) f_S_116
  have h16 : (S_116.1 91 (((S.1 63 50)).toNatClampNeg)).toInt = (S_106.1 91 (((S.1 63 50)).toNatClampNeg)).toInt := ti_eq (f_S_116 91 (((S.1 63 50)).toNatClampNeg) (fun e => absurd e (by decide)))
  have h17 : (S_116.1 91 (((S_106.1 63 50)).toNatClampNeg)).toInt = (S_106.1 91 (((S_106.1 63 50)).toNatClampNeg)).toInt := ti_eq (f_S_116 91 (((S_106.1 63 50)).toNatClampNeg) (fun e => absurd e (by decide)))
  have h18 : (S_116.1 91 (((S_116.1 63 50)).toNatClampNeg)).toInt = (S_106.1 91 (((S_106.1 63 50)).toNatClampNeg)).toInt := by rw [f_S_116 63 50 (fun e => absurd e (by decide))]; exact ti_eq (f_S_116 91 (((S_106.1 63 50)).toNatClampNeg) (fun e => absurd e (by decide)))
  have h19 := b_63_50 I_S_116
  refine Sf.g (ck_iv (by omega) (by omega)) ?_
  have h20 := b_63_53 I_S_116
  refine Sf.w I_S_116 F_S_116 rfl (show ((0) : Int) ≤ ((S_116.1 63 53)).toInt by omega) (show ((S_116.1 63 53)).toInt ≤ (10 : Int) by omega) (fun S_129 I_S_129 F_S_129 v_S_129 f_S_129 l_S_129 => ?_)
  have h21 := ti_eq (f_S_129 63 50 (fun e => absurd e (by decide)))
  have h22 := ti_eq (f_S_129 63 51 (fun e => absurd e (by decide)))
  have h23 := ti_eq (f_S_129 63 53 (fun e => absurd e (by decide)))
  have h24 : (S_129.1 93 (((S_116.1 63 50)).toNatClampNeg)).toInt = ((S_116.1 63 53)).toInt := eq_iv rfl rfl v_S_129
  have h25 : (S_129.1 93 (((S_129.1 63 50)).toNatClampNeg)).toInt = ((S_116.1 63 53)).toInt := by rw [f_S_129 63 50 (fun e => absurd e (by decide))]; exact eq_iv rfl rfl v_S_129
  have SM_S_129 := SM_fr (U := S_129) SM_S_116 (f_S_129 63 53 (fun e => absurd e (by decide))) (fun b => f_S_129 96 b (fun e => absurd e (by decide)))
  have hc4 := cl_iv (b_63_50 I_S_116).1
  have RK_S_129 : RK S_129 := RK_w RK_S_116 (by omega) (Or.inr rfl) f_S_129
  have h26 : (S_129.1 91 (((S.1 63 50)).toNatClampNeg)).toInt = (S_116.1 91 (((S.1 63 50)).toNatClampNeg)).toInt := ti_eq (f_S_129 91 (((S.1 63 50)).toNatClampNeg) (fun e => absurd e (by decide)))
  have h27 : (S_129.1 91 (((S_106.1 63 50)).toNatClampNeg)).toInt = (S_116.1 91 (((S_106.1 63 50)).toNatClampNeg)).toInt := ti_eq (f_S_129 91 (((S_106.1 63 50)).toNatClampNeg) (fun e => absurd e (by decide)))
  have h28 : (S_129.1 91 (((S_116.1 63 50)).toNatClampNeg)).toInt = (S_116.1 91 (((S_116.1 63 50)).toNatClampNeg)).toInt := ti_eq (f_S_129 91 (((S_116.1 63 50)).toNatClampNeg) (fun e => absurd e (by decide)))
  have h29 : (S_129.1 91 (((S_129.1 63 50)).toNatClampNeg)).toInt = (S_116.1 91 (((S_116.1 63 50)).toNatClampNeg)).toInt := by rw [f_S_129 63 50 (fun e => absurd e (by decide))]; exact ti_eq (f_S_129 91 (((S_116.1 63 50)).toNatClampNeg) (fun e => absurd e (by decide)))
  have h30 : (S_129.1 92 (((S_106.1 63 50)).toNatClampNeg)).toInt = (S_116.1 92 (((S_106.1 63 50)).toNatClampNeg)).toInt := ti_eq (f_S_129 92 (((S_106.1 63 50)).toNatClampNeg) (fun e => absurd e (by decide)))
  have h31 : (S_129.1 92 (((S_116.1 63 50)).toNatClampNeg)).toInt = (S_116.1 92 (((S_116.1 63 50)).toNatClampNeg)).toInt := ti_eq (f_S_129 92 (((S_116.1 63 50)).toNatClampNeg) (fun e => absurd e (by decide)))
  have h32 : (S_129.1 92 (((S_129.1 63 50)).toNatClampNeg)).toInt = (S_116.1 92 (((S_116.1 63 50)).toNatClampNeg)).toInt := by rw [f_S_129 63 50 (fun e => absurd e (by decide))]; exact ti_eq (f_S_129 92 (((S_116.1 63 50)).toNatClampNeg) (fun e => absurd e (by decide)))
  have h33 := b_63_50 I_S_129
  refine Sf.g (ck_iv (by omega) (by omega)) ?_
  refine Sf.j I_S_129 F_S_129 (fun S_148 I_S_148 F_S_148 l_S_148 => ?_)
  have h34 : (S_148.1 63 50).toInt = (S_129.1 63 50).toInt := by rw [l_S_148]
  have h35 : (S_148.1 63 51).toInt = (S_129.1 63 51).toInt := by rw [l_S_148]
  have h36 : (S_148.1 63 53).toInt = (S_129.1 63 53).toInt := by rw [l_S_148]
  have RK_S_148 := RK_fr (U := S_148) RK_S_129 (by rw [l_S_148]) (fun b => by rw [l_S_148]) (fun b => by rw [l_S_148]) (fun b => by rw [l_S_148])
  have SM_S_148 := SM_fr (U := S_148) SM_S_129 (by rw [l_S_148]) (fun b => by rw [l_S_148])
  have h37 : (S_148.1 91 (((S.1 63 50)).toNatClampNeg)).toInt = (S_129.1 91 (((S.1 63 50)).toNatClampNeg)).toInt := (by rw [l_S_148])
  have h38 : (S_148.1 91 (((S_106.1 63 50)).toNatClampNeg)).toInt = (S_129.1 91 (((S_106.1 63 50)).toNatClampNeg)).toInt := (by rw [l_S_148])
  have h39 : (S_148.1 91 (((S_116.1 63 50)).toNatClampNeg)).toInt = (S_129.1 91 (((S_116.1 63 50)).toNatClampNeg)).toInt := (by rw [l_S_148])
  have h40 : (S_148.1 91 (((S_129.1 63 50)).toNatClampNeg)).toInt = (S_129.1 91 (((S_129.1 63 50)).toNatClampNeg)).toInt := (by rw [l_S_148])
  have h41 : (S_148.1 91 (((S_148.1 63 50)).toNatClampNeg)).toInt = (S_129.1 91 (((S_129.1 63 50)).toNatClampNeg)).toInt := by rw [(show S_148.1 63 50 = S_129.1 63 50 by rw [l_S_148])]; exact (by rw [l_S_148])
  have h42 : (S_148.1 92 (((S_106.1 63 50)).toNatClampNeg)).toInt = (S_129.1 92 (((S_106.1 63 50)).toNatClampNeg)).toInt := (by rw [l_S_148])
  have h43 : (S_148.1 92 (((S_116.1 63 50)).toNatClampNeg)).toInt = (S_129.1 92 (((S_116.1 63 50)).toNatClampNeg)).toInt := (by rw [l_S_148])
  have h44 : (S_148.1 92 (((S_129.1 63 50)).toNatClampNeg)).toInt = (S_129.1 92 (((S_129.1 63 50)).toNatClampNeg)).toInt := (by rw [l_S_148])
  have h45 : (S_148.1 92 (((S_148.1 63 50)).toNatClampNeg)).toInt = (S_129.1 92 (((S_129.1 63 50)).toNatClampNeg)).toInt := by rw [(show S_148.1 63 50 = S_129.1 63 50 by rw [l_S_148])]; exact (by rw [l_S_148])
  have h46 : (S_148.1 93 (((S_116.1 63 50)).toNatClampNeg)).toInt = (S_129.1 93 (((S_116.1 63 50)).toNatClampNeg)).toInt := (by rw [l_S_148])
  have h47 : (S_148.1 93 (((S_129.1 63 50)).toNatClampNeg)).toInt = (S_129.1 93 (((S_129.1 63 50)).toNatClampNeg)).toInt := (by rw [l_S_148])
  have h48 : (S_148.1 93 (((S_148.1 63 50)).toNatClampNeg)).toInt = (S_129.1 93 (((S_129.1 63 50)).toNatClampNeg)).toInt := by rw [(show S_148.1 63 50 = S_129.1 63 50 by rw [l_S_148])]; exact (by rw [l_S_148])
  have PI_S_148 : PI ((0 : Int32)).toInt S_148 := PI_start RK_S_148 SM_S_148 (by omega) (by omega) li_0
  have h49 : ((0 : Int32)).toInt = 0 := li_0
  have h50 := b_63_50 I_S_148
  refine Sf.mono (s_fX12_puts_152 fu hfu fu (0 : Int32) S_148 I_S_148 PI_S_148 (by omega) (by omega) (by omega)) (fun U r p_h51 => ?_)
  obtain ⟨I_U, G_U, p_h51, RK_U⟩ := p_h51
  have h52 := ti_eq (G_U 63 51 rfl)
  have h53 := ti_eq (G_U 63 53 rfl)
  have SM_U := SM_fr (U := U) SM_S_148 (G_U 63 53 rfl) (fun b => G_U 96 b rfl)
  exact ⟨I_U, Fr.tr F_S_148 G_U rfl, trivial, RK_U⟩
theorem s_fX12_puts_8 (fu : Nat) (hfu : 1000000000000000000 ≤ fu) : ∀ (n : Nat) (x1 : Int32) (x2 : Int32) (x3 : Int32) (x4 : Int32) (x5 : Int32) (S : St), Inv S → RK S → SM (x2).toInt S → (-1 ≤ (x3).toInt) → ((x3).toInt < (S.1 63 50).toInt) → (0 ≤ (x4).toInt) → ((x4).toInt < 100) → (0 ≤ (x5).toInt) → (((x4).toInt < (S.1 63 50).toInt ∨ (x4).toInt = 0)) → (((x5).toInt ≤ (S.1 63 50).toInt)) → (100 - (x5).toInt).toNat < n → Sf (fX12_puts_8 fu n x1 x2 x3 x4 x5 S) (fun U r => Inv U ∧ Fr [(63, 51), (91, 0), (92, 0), (93, 0), (94, 0)] S U ∧ (True) ∧ RK U) := by
  intro n
  induction n with
  | zero => intro x1 x2 x3 x4 x5 S I_S RK_S SM_S g0 g1 g2 g3 g4 g5 g6 hm; exact absurd hm (Nat.not_lt_zero _)
  | succ n ih =>
    intro x1 x2 x3 x4 x5 S I_S RK_S SM_S g0 g1 g2 g3 g4 g5 g6 hm
    rw [fX12_puts_8_s]
    have F_S : Fr [(63, 51), (91, 0), (92, 0), (93, 0), (94, 0)] S S := Fr.refl _ _
    have h1 := b_63_50 I_S
    have h2 := b_63_50 I_S
    have h3 := b_63_50 I_S
    have h4 := b_63_50 I_S
    have h5 := i32 x5
    refine Sf.i (fun c_h6 => ?_) (fun c_h6 => ?_)
    · have h7 := le_iv rfl rfl c_h6
      have h8 := i32 x3
      refine Sf.i (fun c_h9 => ?_) (fun c_h9 => ?_)
      · have h10 := lt_iv rfl li_0 c_h9
        refine Sf.i (fun c_h11 => ?_) (fun c_h11 => ?_)
        · have h12 := eq_iv rfl li_100 c_h11
          have h13 := i32 x4
          refine Sf.b (s_fX12_drops fu hfu x4 S I_S RK_S (by omega) (by omega)) (fun S_94 r_94_ p_r_94_ => ?_)
          obtain ⟨I_S_94, G_S_94, p_r_94_, RK_S_94⟩ := p_r_94_
          have F_S_94 := Fr.tr F_S G_S_94 rfl
          have SM_S_94 := SM_fr (U := S_94) SM_S (G_S_94 63 53 rfl) (fun b => G_S_94 96 b rfl)
          have h14 := b_63_50 I_S_94
          have h15 := i32 x1
          have h16 := i32 x2
          refine Sf.mono (s_fX12_puts_97 fu hfu x1 x2 S_94 I_S_94 RK_S_94 SM_S_94 (by omega)) (fun U r p_h17 => ?_)
          obtain ⟨I_U, G_U, p_h17, RK_U⟩ := p_h17
          have SM_U := SM_fr (U := U) SM_S_94 (G_U 63 53 rfl) (fun b => G_U 96 b rfl)
          exact ⟨I_U, Fr.tr F_S_94 G_U rfl, trivial, RK_U⟩
        · have h18 := neq_iv rfl li_100 c_h11
          have h19 := i32 x1
          have h20 := i32 x2
          refine Sf.mono (s_fX12_puts_97 fu hfu x1 x2 S I_S RK_S SM_S (by omega)) (fun U r p_h21 => ?_)
          obtain ⟨I_U, G_U, p_h21, RK_U⟩ := p_h21
          have SM_U := SM_fr (U := U) SM_S (G_U 63 53 rfl) (fun b => G_U 96 b rfl)
          exact ⟨I_U, Fr.tr F_S G_U rfl, trivial, RK_U⟩
      · have h22 := nlt_iv rfl li_0 c_h9
        refine Sf.b (s_fX12_drops fu hfu x3 S I_S RK_S (by omega) (by omega)) (fun S_76 r_76_ p_r_76_ => ?_)
        obtain ⟨I_S_76, G_S_76, p_r_76_, RK_S_76⟩ := p_r_76_
        have F_S_76 := Fr.tr F_S G_S_76 rfl
        have SM_S_76 := SM_fr (U := S_76) SM_S (G_S_76 63 53 rfl) (fun b => G_S_76 96 b rfl)
        have h23 := b_63_50 I_S_76
        have h24 := i32 x1
        have h25 := i32 x2
        refine Sf.mono (s_fX12_puts_97 fu hfu x1 x2 S_76 I_S_76 RK_S_76 SM_S_76 (by omega)) (fun U r p_h26 => ?_)
        obtain ⟨I_U, G_U, p_h26, RK_U⟩ := p_h26
        have SM_U := SM_fr (U := U) SM_S_76 (G_U 63 53 rfl) (fun b => G_U 96 b rfl)
        exact ⟨I_U, Fr.tr F_S_76 G_U rfl, trivial, RK_U⟩
    · have h27 := nle_iv rfl rfl c_h6
      refine Sf.g (ck_iv (by omega) (by omega)) ?_
      have h28 := i32 x1
      refine Sf.i (fun c_h29 => ?_) (fun c_h29 => ?_)
      · have h30 := eq_iv rfl rfl c_h29
        refine Sf.g (ck_iv (by omega) (by omega)) ?_
        have h31 := i32 x2
        refine Sf.i (fun c_h32 => ?_) (fun c_h32 => ?_)
        · have h33 := eq_iv rfl rfl c_h32
          unfold fX12_puts_42
          refine Sf.g (ck_iv (by omega) (by omega)) ?_
          have h34 := i32 x4
          refine Sf.g (ck_iv (by omega) (by omega)) ?_
          refine Sf.i (fun c_h35 => ?_) (fun c_h35 => ?_)
          · have h36 := le_iv li_0 rfl c_h35
            unfold fX12_puts_64
            try have h37 : ((x5 + (1 : Int32))).toInt = (x5).toInt + (1) := add_iv rfl li_1 (by omega) (by omega)
            refine Sf.mono (ih x1 x2 x5 x4 (x5 + (1 : Int32)) S I_S RK_S SM_S (by omega) (by omega) (by omega) (by omega) (by omega) (by omega) (by omega) (by omega)) (fun U r p_h38 => ?_)
            obtain ⟨I_U, G_U, p_h38, RK_U⟩ := p_h38
            have SM_U := SM_fr (U := U) SM_S (G_U 63 53 rfl) (fun b => G_U 96 b rfl)
            exact ⟨I_U, Fr.tr F_S G_U rfl, trivial, RK_U⟩
          · have h39 := nle_iv li_0 rfl c_h35
            unfold fX12_puts_64
            try have h40 : ((x5 + (1 : Int32))).toInt = (x5).toInt + (1) := add_iv rfl li_1 (by omega) (by omega)
            refine Sf.mono (ih x1 x2 x5 x5 (x5 + (1 : Int32)) S I_S RK_S SM_S (by omega) (by omega) (by omega) (by omega) (by omega) (by omega) (by omega) (by omega)) (fun U r p_h41 => ?_)
            obtain ⟨I_U, G_U, p_h41, RK_U⟩ := p_h41
            have SM_U := SM_fr (U := U) SM_S (G_U 63 53 rfl) (fun b => G_U 96 b rfl)
            exact ⟨I_U, Fr.tr F_S G_U rfl, trivial, RK_U⟩
        · have h42 := neq_iv rfl rfl c_h32
          unfold fX12_puts_42
          refine Sf.g (ck_iv (by omega) (by omega)) ?_
          have h43 := i32 x4
          refine Sf.g (ck_iv (by omega) (by omega)) ?_
          refine Sf.i (fun c_h44 => ?_) (fun c_h44 => ?_)
          · have h45 := le_iv li_0 rfl c_h44
            unfold fX12_puts_64
            have h46 := i32 x3
            try have h47 : ((x5 + (1 : Int32))).toInt = (x5).toInt + (1) := add_iv rfl li_1 (by omega) (by omega)
            refine Sf.mono (ih x1 x2 x3 x4 (x5 + (1 : Int32)) S I_S RK_S SM_S (by omega) (by omega) (by omega) (by omega) (by omega) (by omega) (by omega) (by omega)) (fun U r p_h48 => ?_)
            obtain ⟨I_U, G_U, p_h48, RK_U⟩ := p_h48
            have SM_U := SM_fr (U := U) SM_S (G_U 63 53 rfl) (fun b => G_U 96 b rfl)
            exact ⟨I_U, Fr.tr F_S G_U rfl, trivial, RK_U⟩
          · have h49 := nle_iv li_0 rfl c_h44
            unfold fX12_puts_64
            have h50 := i32 x3
            try have h51 : ((x5 + (1 : Int32))).toInt = (x5).toInt + (1) := add_iv rfl li_1 (by omega) (by omega)
            refine Sf.mono (ih x1 x2 x3 x5 (x5 + (1 : Int32)) S I_S RK_S SM_S (by omega) (by omega) (by omega) (by omega) (by omega) (by omega) (by omega) (by omega)) (fun U r p_h52 => ?_)
            obtain ⟨I_U, G_U, p_h52, RK_U⟩ := p_h52
            have SM_U := SM_fr (U := U) SM_S (G_U 63 53 rfl) (fun b => G_U 96 b rfl)
            exact ⟨I_U, Fr.tr F_S G_U rfl, trivial, RK_U⟩
      · have h53 := neq_iv rfl rfl c_h29
        unfold fX12_puts_42
        refine Sf.g (ck_iv (by omega) (by omega)) ?_
        have h54 := i32 x4
        refine Sf.g (ck_iv (by omega) (by omega)) ?_
        refine Sf.i (fun c_h55 => ?_) (fun c_h55 => ?_)
        · have h56 := le_iv li_0 rfl c_h55
          unfold fX12_puts_64
          have h57 := i32 x2
          have h58 := i32 x3
          try have h59 : ((x5 + (1 : Int32))).toInt = (x5).toInt + (1) := add_iv rfl li_1 (by omega) (by omega)
          refine Sf.mono (ih x1 x2 x3 x4 (x5 + (1 : Int32)) S I_S RK_S SM_S (by omega) (by omega) (by omega) (by omega) (by omega) (by omega) (by omega) (by omega)) (fun U r p_h60 => ?_)
          obtain ⟨I_U, G_U, p_h60, RK_U⟩ := p_h60
          have SM_U := SM_fr (U := U) SM_S (G_U 63 53 rfl) (fun b => G_U 96 b rfl)
          exact ⟨I_U, Fr.tr F_S G_U rfl, trivial, RK_U⟩
        · have h61 := nle_iv li_0 rfl c_h55
          unfold fX12_puts_64
          have h62 := i32 x2
          have h63 := i32 x3
          try have h64 : ((x5 + (1 : Int32))).toInt = (x5).toInt + (1) := add_iv rfl li_1 (by omega) (by omega)
          refine Sf.mono (ih x1 x2 x3 x5 (x5 + (1 : Int32)) S I_S RK_S SM_S (by omega) (by omega) (by omega) (by omega) (by omega) (by omega) (by omega) (by omega)) (fun U r p_h65 => ?_)
          obtain ⟨I_U, G_U, p_h65, RK_U⟩ := p_h65
          have SM_U := SM_fr (U := U) SM_S (G_U 63 53 rfl) (fun b => G_U 96 b rfl)
          exact ⟨I_U, Fr.tr F_S G_U rfl, trivial, RK_U⟩
