theorem s_fX12_tells_6 (fu : Nat) (hfu : 1000000000000000000 ≤ fu) : ∀ (n : Nat) (x1 : Int32) (x2 : Int32) (x3 : Int32) (x4 : Int32) (x5 : Int32) (x6 : Int32) (S : St), Inv S → (0 ≤ (x6).toInt) → (150 - (x6).toInt).toNat < n → Sf (fX12_tells_6 fu n x1 x2 x3 x4 x5 x6 S) (fun U r => Inv U ∧ Fr [(84, 0)] S U ∧ (True)) := by
  intro n
  induction n with
  | zero => intro x1 x2 x3 x4 x5 x6 S I_S g0 hm; exact absurd hm (Nat.not_lt_zero _)
  | succ n ih =>
    intro x1 x2 x3 x4 x5 x6 S I_S g0 hm
    rw [fX12_tells_6_s]
    have F_S : Fr [(84, 0)] S S := Fr.refl _ _
    have h1 := b_63_20 I_S
    have h2 := i32 x6
    refine Sf.i (fun c_h3 => ?_) (fun c_h3 => ?_)
    · have h4 := le_iv rfl rfl c_h3
      exact Sf.so ⟨I_S, F_S, trivial⟩
    · have h5 := nle_iv rfl rfl c_h3
      refine Sf.g (ck_iv (by omega) (by omega)) ?_
      have h6 := a_74 I_S ((x6).toNatClampNeg)
      have h7 := i32 x1
      refine Sf.i (fun c_h8 => ?_) (fun c_h8 => ?_)
      · have h9 := eq_iv rfl rfl c_h8
        refine Sf.g (ck_iv (by omega) (by omega)) ?_
        have h10 := a_75 I_S ((x6).toNatClampNeg)
        have h11 := i32 x2
        refine Sf.i (fun c_h12 => ?_) (fun c_h12 => ?_)
        · have h13 := eq_iv rfl rfl c_h12
          refine Sf.g (ck_iv (by omega) (by omega)) ?_
          have h14 := i32 x3
          refine Sf.i (fun c_h15 => ?_) (fun c_h15 => ?_)
          · have h16 := eq_iv rfl rfl c_h15
            have h17 := i32 x5
            refine Sf.i (fun c_h18 => ?_) (fun c_h18 => ?_)
            · have h19 := eq_iv rfl li_0 c_h18
              unfold fX12_tells_64
              unfold fX12_tells_69
              refine Sf.g (ck_iv (by omega) (by omega)) ?_
              have h20 := vpb (1 : Int32)
              refine Sf.w I_S F_S rfl (show ((0) : Int) ≤ ((vp_nar .boolean (1 : Int32))).toInt by omega) (show ((vp_nar .boolean (1 : Int32))).toInt ≤ (1 : Int) by omega) (fun S_69 I_S_69 F_S_69 v_S_69 f_S_69 l_S_69 => ?_)
              have h21 := ti_eq (f_S_69 63 20 (fun e => absurd e (by decide)))
              have h22 : (S_69.1 84 ((x6).toNatClampNeg)).toInt = ((vp_nar .boolean (1 : Int32))).toInt := eq_iv rfl rfl v_S_69
              have h23 : (S_69.1 74 ((x6).toNatClampNeg)).toInt = (S.1 74 ((x6).toNatClampNeg)).toInt := ti_eq (f_S_69 74 ((x6).toNatClampNeg) (fun e => absurd e (by decide)))
              have h24 : (S_69.1 75 ((x6).toNatClampNeg)).toInt = (S.1 75 ((x6).toNatClampNeg)).toInt := ti_eq (f_S_69 75 ((x6).toNatClampNeg) (fun e => absurd e (by decide)))
              have h25 : (S_69.1 76 ((x6).toNatClampNeg)).toInt = (S.1 76 ((x6).toNatClampNeg)).toInt := ti_eq (f_S_69 76 ((x6).toNatClampNeg) (fun e => absurd e (by decide)))
              refine Sf.g (ck_iv (by omega) (by omega)) ?_
              refine Sf.i (fun c_h26 => ?_) (fun c_h26 => ?_)
              · have h27 := eq_iv rfl li_0 c_h26
                unfold fX12_tells_87
                have h28 := i32 x4
                try have h29 : ((x5 + (0 : Int32))).toInt = (x5).toInt + (0) := add_iv rfl li_0 (by omega) (by omega)
                try have h30 : ((x6 + (1 : Int32))).toInt = (x6).toInt + (1) := add_iv rfl li_1 (by omega) (by omega)
                refine Sf.mono (ih x1 x2 x3 x4 (x5 + (0 : Int32)) (x6 + (1 : Int32)) S_69 I_S_69 (by omega) (by omega)) (fun U r p_h31 => ?_)
                obtain ⟨I_U, G_U, p_h31⟩ := p_h31
                have h32 := ti_eq (G_U 63 20 rfl)
                exact ⟨I_U, Fr.tr F_S_69 G_U rfl, trivial⟩
              · have h33 := neq_iv rfl li_0 c_h26
                unfold fX12_tells_87
                have h34 := i32 x4
                try have h35 : ((x5 + (1 : Int32))).toInt = (x5).toInt + (1) := add_iv rfl li_1 (by omega) (by omega)
                try have h36 : ((x6 + (1 : Int32))).toInt = (x6).toInt + (1) := add_iv rfl li_1 (by omega) (by omega)
                refine Sf.mono (ih x1 x2 x3 x4 (x5 + (1 : Int32)) (x6 + (1 : Int32)) S_69 I_S_69 (by omega) (by omega)) (fun U r p_h37 => ?_)
                obtain ⟨I_U, G_U, p_h37⟩ := p_h37
                have h38 := ti_eq (G_U 63 20 rfl)
                exact ⟨I_U, Fr.tr F_S_69 G_U rfl, trivial⟩
            · have h39 := neq_iv rfl li_0 c_h18
              have h40 := i32 x4
              refine Sf.i (fun c_h41 => ?_) (fun c_h41 => ?_)
              · have h42 := eq_iv rfl li_0 c_h41
                unfold fX12_tells_64
                unfold fX12_tells_69
                refine Sf.g (ck_iv (by omega) (by omega)) ?_
                have h43 := vpb (1 : Int32)
                refine Sf.w I_S F_S rfl (show ((0) : Int) ≤ ((vp_nar .boolean (1 : Int32))).toInt by omega) (show ((vp_nar .boolean (1 : Int32))).toInt ≤ (1 : Int) by omega) (fun S_69 I_S_69 F_S_69 v_S_69 f_S_69 l_S_69 => ?_)
                have h44 := ti_eq (f_S_69 63 20 (fun e => absurd e (by decide)))
                have h45 : (S_69.1 84 ((x6).toNatClampNeg)).toInt = ((vp_nar .boolean (1 : Int32))).toInt := eq_iv rfl rfl v_S_69
                have h46 : (S_69.1 74 ((x6).toNatClampNeg)).toInt = (S.1 74 ((x6).toNatClampNeg)).toInt := ti_eq (f_S_69 74 ((x6).toNatClampNeg) (fun e => absurd e (by decide)))
                have h47 : (S_69.1 75 ((x6).toNatClampNeg)).toInt = (S.1 75 ((x6).toNatClampNeg)).toInt := ti_eq (f_S_69 75 ((x6).toNatClampNeg) (fun e => absurd e (by decide)))
                have h48 : (S_69.1 76 ((x6).toNatClampNeg)).toInt = (S.1 76 ((x6).toNatClampNeg)).toInt := ti_eq (f_S_69 76 ((x6).toNatClampNeg) (fun e => absurd e (by decide)))
                refine Sf.g (ck_iv (by omega) (by omega)) ?_
                refine Sf.i (fun c_h49 => ?_) (fun c_h49 => ?_)
                · have h50 := eq_iv rfl li_0 c_h49
                  unfold fX12_tells_87
                  try have h51 : ((x5 + (0 : Int32))).toInt = (x5).toInt + (0) := add_iv rfl li_0 (by omega) (by omega)
                  try have h52 : ((x6 + (1 : Int32))).toInt = (x6).toInt + (1) := add_iv rfl li_1 (by omega) (by omega)
                  refine Sf.mono (ih x1 x2 x3 x4 (x5 + (0 : Int32)) (x6 + (1 : Int32)) S_69 I_S_69 (by omega) (by omega)) (fun U r p_h53 => ?_)
                  obtain ⟨I_U, G_U, p_h53⟩ := p_h53
                  have h54 := ti_eq (G_U 63 20 rfl)
                  exact ⟨I_U, Fr.tr F_S_69 G_U rfl, trivial⟩
                · have h55 := neq_iv rfl li_0 c_h49
                  unfold fX12_tells_87
                  try have h56 : ((x5 + (1 : Int32))).toInt = (x5).toInt + (1) := add_iv rfl li_1 (by omega) (by omega)
                  try have h57 : ((x6 + (1 : Int32))).toInt = (x6).toInt + (1) := add_iv rfl li_1 (by omega) (by omega)
                  refine Sf.mono (ih x1 x2 x3 x4 (x5 + (1 : Int32)) (x6 + (1 : Int32)) S_69 I_S_69 (by omega) (by omega)) (fun U r p_h58 => ?_)
                  obtain ⟨I_U, G_U, p_h58⟩ := p_h58
                  have h59 := ti_eq (G_U 63 20 rfl)
                  exact ⟨I_U, Fr.tr F_S_69 G_U rfl, trivial⟩
              · have h60 := neq_iv rfl li_0 c_h41
                unfold fX12_tells_68
                unfold fX12_tells_69
                refine Sf.g (ck_iv (by omega) (by omega)) ?_
                have h61 := vpb (0 : Int32)
                refine Sf.w I_S F_S rfl (show ((0) : Int) ≤ ((vp_nar .boolean (0 : Int32))).toInt by omega) (show ((vp_nar .boolean (0 : Int32))).toInt ≤ (1 : Int) by omega) (fun S_69 I_S_69 F_S_69 v_S_69 f_S_69 l_S_69 => ?_)
                have h62 := ti_eq (f_S_69 63 20 (fun e => absurd e (by decide)))
                have h63 : (S_69.1 84 ((x6).toNatClampNeg)).toInt = ((vp_nar .boolean (0 : Int32))).toInt := eq_iv rfl rfl v_S_69
                have h64 : (S_69.1 74 ((x6).toNatClampNeg)).toInt = (S.1 74 ((x6).toNatClampNeg)).toInt := ti_eq (f_S_69 74 ((x6).toNatClampNeg) (fun e => absurd e (by decide)))
                have h65 : (S_69.1 75 ((x6).toNatClampNeg)).toInt = (S.1 75 ((x6).toNatClampNeg)).toInt := ti_eq (f_S_69 75 ((x6).toNatClampNeg) (fun e => absurd e (by decide)))
                have h66 : (S_69.1 76 ((x6).toNatClampNeg)).toInt = (S.1 76 ((x6).toNatClampNeg)).toInt := ti_eq (f_S_69 76 ((x6).toNatClampNeg) (fun e => absurd e (by decide)))
                refine Sf.g (ck_iv (by omega) (by omega)) ?_
                refine Sf.i (fun c_h67 => ?_) (fun c_h67 => ?_)
                · have h68 := eq_iv rfl li_0 c_h67
                  unfold fX12_tells_87
                  try have h69 : ((x5 + (0 : Int32))).toInt = (x5).toInt + (0) := add_iv rfl li_0 (by omega) (by omega)
                  try have h70 : ((x6 + (1 : Int32))).toInt = (x6).toInt + (1) := add_iv rfl li_1 (by omega) (by omega)
                  refine Sf.mono (ih x1 x2 x3 x4 (x5 + (0 : Int32)) (x6 + (1 : Int32)) S_69 I_S_69 (by omega) (by omega)) (fun U r p_h71 => ?_)
                  obtain ⟨I_U, G_U, p_h71⟩ := p_h71
                  have h72 := ti_eq (G_U 63 20 rfl)
                  exact ⟨I_U, Fr.tr F_S_69 G_U rfl, trivial⟩
                · have h73 := neq_iv rfl li_0 c_h67
                  unfold fX12_tells_87
                  try have h74 : ((x5 + (1 : Int32))).toInt = (x5).toInt + (1) := add_iv rfl li_1 (by omega) (by omega)
                  try have h75 : ((x6 + (1 : Int32))).toInt = (x6).toInt + (1) := add_iv rfl li_1 (by omega) (by omega)
                  refine Sf.mono (ih x1 x2 x3 x4 (x5 + (1 : Int32)) (x6 + (1 : Int32)) S_69 I_S_69 (by omega) (by omega)) (fun U r p_h76 => ?_)
                  obtain ⟨I_U, G_U, p_h76⟩ := p_h76
                  have h77 := ti_eq (G_U 63 20 rfl)
                  exact ⟨I_U, Fr.tr F_S_69 G_U rfl, trivial⟩
          · have h78 := neq_iv rfl rfl c_h15
            unfold fX12_tells_68
            unfold fX12_tells_69
            refine Sf.g (ck_iv (by omega) (by omega)) ?_
            have h79 := vpb (0 : Int32)
            refine Sf.w I_S F_S rfl (show ((0) : Int) ≤ ((vp_nar .boolean (0 : Int32))).toInt by omega) (show ((vp_nar .boolean (0 : Int32))).toInt ≤ (1 : Int) by omega) (fun S_69 I_S_69 F_S_69 v_S_69 f_S_69 l_S_69 => ?_)
            have h80 := ti_eq (f_S_69 63 20 (fun e => absurd e (by decide)))
            have h81 : (S_69.1 84 ((x6).toNatClampNeg)).toInt = ((vp_nar .boolean (0 : Int32))).toInt := eq_iv rfl rfl v_S_69
            have h82 : (S_69.1 74 ((x6).toNatClampNeg)).toInt = (S.1 74 ((x6).toNatClampNeg)).toInt := ti_eq (f_S_69 74 ((x6).toNatClampNeg) (fun e => absurd e (by decide)))
            have h83 : (S_69.1 75 ((x6).toNatClampNeg)).toInt = (S.1 75 ((x6).toNatClampNeg)).toInt := ti_eq (f_S_69 75 ((x6).toNatClampNeg) (fun e => absurd e (by decide)))
            have h84 : (S_69.1 76 ((x6).toNatClampNeg)).toInt = (S.1 76 ((x6).toNatClampNeg)).toInt := ti_eq (f_S_69 76 ((x6).toNatClampNeg) (fun e => absurd e (by decide)))
            refine Sf.g (ck_iv (by omega) (by omega)) ?_
            refine Sf.i (fun c_h85 => ?_) (fun c_h85 => ?_)
            · have h86 := eq_iv rfl li_0 c_h85
              unfold fX12_tells_87
              have h87 := i32 x4
              have h88 := i32 x5
              try have h89 : ((x5 + (0 : Int32))).toInt = (x5).toInt + (0) := add_iv rfl li_0 (by omega) (by omega)
              try have h90 : ((x6 + (1 : Int32))).toInt = (x6).toInt + (1) := add_iv rfl li_1 (by omega) (by omega)
              refine Sf.mono (ih x1 x2 x3 x4 (x5 + (0 : Int32)) (x6 + (1 : Int32)) S_69 I_S_69 (by omega) (by omega)) (fun U r p_h91 => ?_)
              obtain ⟨I_U, G_U, p_h91⟩ := p_h91
              have h92 := ti_eq (G_U 63 20 rfl)
              exact ⟨I_U, Fr.tr F_S_69 G_U rfl, trivial⟩
            · have h93 := neq_iv rfl li_0 c_h85
              unfold fX12_tells_87
              have h94 := i32 x4
              have h95 := i32 x5
              try have h96 : ((x5 + (1 : Int32))).toInt = (x5).toInt + (1) := add_iv rfl li_1 (by omega) (by omega)
              try have h97 : ((x6 + (1 : Int32))).toInt = (x6).toInt + (1) := add_iv rfl li_1 (by omega) (by omega)
              refine Sf.mono (ih x1 x2 x3 x4 (x5 + (1 : Int32)) (x6 + (1 : Int32)) S_69 I_S_69 (by omega) (by omega)) (fun U r p_h98 => ?_)
              obtain ⟨I_U, G_U, p_h98⟩ := p_h98
              have h99 := ti_eq (G_U 63 20 rfl)
              exact ⟨I_U, Fr.tr F_S_69 G_U rfl, trivial⟩
        · have h100 := neq_iv rfl rfl c_h12
          unfold fX12_tells_68
          unfold fX12_tells_69
          refine Sf.g (ck_iv (by omega) (by omega)) ?_
          have h101 := vpb (0 : Int32)
          refine Sf.w I_S F_S rfl (show ((0) : Int) ≤ ((vp_nar .boolean (0 : Int32))).toInt by omega) (show ((vp_nar .boolean (0 : Int32))).toInt ≤ (1 : Int) by omega) (fun S_69 I_S_69 F_S_69 v_S_69 f_S_69 l_S_69 => ?_)
          have h102 := ti_eq (f_S_69 63 20 (fun e => absurd e (by decide)))
          have h103 : (S_69.1 84 ((x6).toNatClampNeg)).toInt = ((vp_nar .boolean (0 : Int32))).toInt := eq_iv rfl rfl v_S_69
          have h104 : (S_69.1 74 ((x6).toNatClampNeg)).toInt = (S.1 74 ((x6).toNatClampNeg)).toInt := ti_eq (f_S_69 74 ((x6).toNatClampNeg) (fun e => absurd e (by decide)))
          have h105 : (S_69.1 75 ((x6).toNatClampNeg)).toInt = (S.1 75 ((x6).toNatClampNeg)).toInt := ti_eq (f_S_69 75 ((x6).toNatClampNeg) (fun e => absurd e (by decide)))
          refine Sf.g (ck_iv (by omega) (by omega)) ?_
          refine Sf.i (fun c_h106 => ?_) (fun c_h106 => ?_)
          · have h107 := eq_iv rfl li_0 c_h106
            unfold fX12_tells_87
            have h108 := i32 x3
            have h109 := i32 x4
            have h110 := i32 x5
            try have h111 : ((x5 + (0 : Int32))).toInt = (x5).toInt + (0) := add_iv rfl li_0 (by omega) (by omega)
            try have h112 : ((x6 + (1 : Int32))).toInt = (x6).toInt + (1) := add_iv rfl li_1 (by omega) (by omega)
            refine Sf.mono (ih x1 x2 x3 x4 (x5 + (0 : Int32)) (x6 + (1 : Int32)) S_69 I_S_69 (by omega) (by omega)) (fun U r p_h113 => ?_)
            obtain ⟨I_U, G_U, p_h113⟩ := p_h113
            have h114 := ti_eq (G_U 63 20 rfl)
            exact ⟨I_U, Fr.tr F_S_69 G_U rfl, trivial⟩
          · have h115 := neq_iv rfl li_0 c_h106
            unfold fX12_tells_87
            have h116 := i32 x3
            have h117 := i32 x4
            have h118 := i32 x5
            try have h119 : ((x5 + (1 : Int32))).toInt = (x5).toInt + (1) := add_iv rfl li_1 (by omega) (by omega)
            try have h120 : ((x6 + (1 : Int32))).toInt = (x6).toInt + (1) := add_iv rfl li_1 (by omega) (by omega)
            refine Sf.mono (ih x1 x2 x3 x4 (x5 + (1 : Int32)) (x6 + (1 : Int32)) S_69 I_S_69 (by omega) (by omega)) (fun U r p_h121 => ?_)
            obtain ⟨I_U, G_U, p_h121⟩ := p_h121
            have h122 := ti_eq (G_U 63 20 rfl)
            exact ⟨I_U, Fr.tr F_S_69 G_U rfl, trivial⟩
      · have h123 := neq_iv rfl rfl c_h8
        unfold fX12_tells_68
        unfold fX12_tells_69
        refine Sf.g (ck_iv (by omega) (by omega)) ?_
        have h124 := vpb (0 : Int32)
        refine Sf.w I_S F_S rfl (show ((0) : Int) ≤ ((vp_nar .boolean (0 : Int32))).toInt by omega) (show ((vp_nar .boolean (0 : Int32))).toInt ≤ (1 : Int) by omega) (fun S_69 I_S_69 F_S_69 v_S_69 f_S_69 l_S_69 => ?_)
        have h125 := ti_eq (f_S_69 63 20 (fun e => absurd e (by decide)))
        have h126 : (S_69.1 84 ((x6).toNatClampNeg)).toInt = ((vp_nar .boolean (0 : Int32))).toInt := eq_iv rfl rfl v_S_69
        have h127 : (S_69.1 74 ((x6).toNatClampNeg)).toInt = (S.1 74 ((x6).toNatClampNeg)).toInt := ti_eq (f_S_69 74 ((x6).toNatClampNeg) (fun e => absurd e (by decide)))
        refine Sf.g (ck_iv (by omega) (by omega)) ?_
        refine Sf.i (fun c_h128 => ?_) (fun c_h128 => ?_)
        · have h129 := eq_iv rfl li_0 c_h128
          unfold fX12_tells_87
          have h130 := i32 x2
          have h131 := i32 x3
          have h132 := i32 x4
          have h133 := i32 x5
          try have h134 : ((x5 + (0 : Int32))).toInt = (x5).toInt + (0) := add_iv rfl li_0 (by omega) (by omega)
          try have h135 : ((x6 + (1 : Int32))).toInt = (x6).toInt + (1) := add_iv rfl li_1 (by omega) (by omega)
          refine Sf.mono (ih x1 x2 x3 x4 (x5 + (0 : Int32)) (x6 + (1 : Int32)) S_69 I_S_69 (by omega) (by omega)) (fun U r p_h136 => ?_)
          obtain ⟨I_U, G_U, p_h136⟩ := p_h136
          have h137 := ti_eq (G_U 63 20 rfl)
          exact ⟨I_U, Fr.tr F_S_69 G_U rfl, trivial⟩
        · have h138 := neq_iv rfl li_0 c_h128
          unfold fX12_tells_87
          have h139 := i32 x2
          have h140 := i32 x3
          have h141 := i32 x4
          have h142 := i32 x5
          try have h143 : ((x5 + (1 : Int32))).toInt = (x5).toInt + (1) := add_iv rfl li_1 (by omega) (by omega)
          try have h144 : ((x6 + (1 : Int32))).toInt = (x6).toInt + (1) := add_iv rfl li_1 (by omega) (by omega)
          refine Sf.mono (ih x1 x2 x3 x4 (x5 + (1 : Int32)) (x6 + (1 : Int32)) S_69 I_S_69 (by omega) (by omega)) (fun U r p_h145 => ?_)
          obtain ⟨I_U, G_U, p_h145⟩ := p_h145
          have h146 := ti_eq (G_U 63 20 rfl)
          exact ⟨I_U, Fr.tr F_S_69 G_U rfl, trivial⟩
theorem s_fX12_tells (fu : Nat) (hfu : 1000000000000000000 ≤ fu) (x1 : Int32) (x2 : Int32) (x3 : Int32) (x4 : Int32) (S : St) (I_S : Inv S) : Sf (fX12_tells fu x1 x2 x3 x4 S) (fun U r => Inv U ∧ Fr [(84, 0)] S U ∧ (True)) := by
  unfold fX12_tells
  have F_S : Fr [(84, 0)] S S := Fr.refl _ _
  have h1 := i32 x1
  have h2 := i32 x2
  have h3 := i32 x3
  have h4 := i32 x4
  have h5 : ((0 : Int32)).toInt = 0 := li_0
  refine Sf.mono (s_fX12_tells_6 fu hfu fu x1 x2 x3 x4 (0 : Int32) (0 : Int32) S I_S (by omega) (by omega)) (fun U r p_h6 => ?_)
  obtain ⟨I_U, G_U, p_h6⟩ := p_h6
  have h7 := ti_eq (G_U 63 20 rfl)
  exact ⟨I_U, Fr.tr F_S G_U rfl, trivial⟩
theorem s_fX12_hasBelow_19 (fu : Nat) (hfu : 1000000000000000000 ≤ fu) : ∀ (n : Nat) (x1 : Int32) (x2 : Int32) (x3 : Int32) (x4 : Int32) (S : St), Inv S → (0 ≤ (x2).toInt) → ((x2).toInt ≤ 299) → (0 ≤ (x3).toInt) → ((x3).toInt ≤ 1) → (0 ≤ (x4).toInt) → (150 - (x4).toInt).toNat < n → Sp (fX12_hasBelow_19 fu n x1 x2 x3 x4 S) S (fun r => (0 ≤ r.toInt) ∧ (r.toInt ≤ 1)) := by
  intro n
  induction n with
  | zero => intro x1 x2 x3 x4 S I_S g0 g1 g2 g3 g4 hm; exact absurd hm (Nat.not_lt_zero _)
  | succ n ih =>
    intro x1 x2 x3 x4 S I_S g0 g1 g2 g3 g4 hm
    rw [fX12_hasBelow_19_s]
    have h1 := b_63_20 I_S
    have h2 := i32 x4
    refine Sp.i (fun c_h3 => ?_) (fun c_h3 => ?_)
    · have h4 := le_iv rfl rfl c_h3
      have h5 := i32 x3
      refine Sp.g (isB_iv (by omega) (by omega)) ?_
      exact Sp.so (by omega)
    · have h6 := nle_iv rfl rfl c_h3
      have h7 := i32 x3
      refine Sp.i (fun c_h8 => ?_) (fun c_h8 => ?_)
      · have h9 := eq_iv rfl li_0 c_h8
        refine Sp.g (ck_iv (by omega) (by omega)) ?_
        have h10 := a_74 I_S ((x4).toNatClampNeg)
        have h11 := i32 x1
        refine Sp.i (fun c_h12 => ?_) (fun c_h12 => ?_)
        · have h13 := eq_iv rfl rfl c_h12
          refine Sp.g (ck_iv (by omega) (by omega)) ?_
          have h14 := a_75 I_S ((x4).toNatClampNeg)
          have h15 := i32 x2
          refine Sp.b (s_fX12_isIn fu hfu (S.1 75 ((x4).toNatClampNeg)) x2 S I_S (by omega) (by omega) (by omega) (by omega)) (fun r_52 p_r_52 => ?_)
          have h16 := i32 r_52
          refine Sp.i (fun c_h17 => ?_) (fun c_h17 => ?_)
          · have h18 := eq_iv rfl li_0 c_h17
            unfold fX12_hasBelow_62
            unfold fX12_hasBelow_63
            have h19 : ((0 : Int32)).toInt = 0 := li_0
            try have h20 : ((x4 + (1 : Int32))).toInt = (x4).toInt + (1) := add_iv rfl li_1 (by omega) (by omega)
            refine Sp.mono (ih x1 x2 (0 : Int32) (x4 + (1 : Int32)) S I_S (by omega) (by omega) (by omega) (by omega) (by omega) (by omega)) (fun r p_h21 => ?_)
            exact by omega
          · have h22 := neq_iv rfl li_0 c_h17
            unfold fX12_hasBelow_58
            unfold fX12_hasBelow_63
            have h23 : ((1 : Int32)).toInt = 1 := li_1
            try have h24 : ((x4 + (1 : Int32))).toInt = (x4).toInt + (1) := add_iv rfl li_1 (by omega) (by omega)
            refine Sp.mono (ih x1 x2 (1 : Int32) (x4 + (1 : Int32)) S I_S (by omega) (by omega) (by omega) (by omega) (by omega) (by omega)) (fun r p_h25 => ?_)
            exact by omega
        · have h26 := neq_iv rfl rfl c_h12
          unfold fX12_hasBelow_62
          unfold fX12_hasBelow_63
          have h27 := i32 x2
          have h28 : ((0 : Int32)).toInt = 0 := li_0
          try have h29 : ((x4 + (1 : Int32))).toInt = (x4).toInt + (1) := add_iv rfl li_1 (by omega) (by omega)
          refine Sp.mono (ih x1 x2 (0 : Int32) (x4 + (1 : Int32)) S I_S (by omega) (by omega) (by omega) (by omega) (by omega) (by omega)) (fun r p_h30 => ?_)
          exact by omega
      · have h31 := neq_iv rfl li_0 c_h8
        unfold fX12_hasBelow_58
        unfold fX12_hasBelow_63
        have h32 := i32 x1
        have h33 := i32 x2
        have h34 : ((1 : Int32)).toInt = 1 := li_1
        try have h35 : ((x4 + (1 : Int32))).toInt = (x4).toInt + (1) := add_iv rfl li_1 (by omega) (by omega)
        refine Sp.mono (ih x1 x2 (1 : Int32) (x4 + (1 : Int32)) S I_S (by omega) (by omega) (by omega) (by omega) (by omega) (by omega)) (fun r p_h36 => ?_)
        exact by omega
theorem s_fX12_hasBelow (fu : Nat) (hfu : 1000000000000000000 ≤ fu) (x1 : Int32) (x2 : Int32) (S : St) (I_S : Inv S) (g0 : 0 ≤ (x1).toInt) (g1 : (x1).toInt < 12) (g2 : 0 ≤ (x2).toInt) (g3 : (x2).toInt ≤ 299) : Sp (fX12_hasBelow fu x1 x2 S) S (fun r => (0 ≤ r.toInt) ∧ (r.toInt ≤ 1)) := by
  unfold fX12_hasBelow
  have h1 := i32 x1
  refine Sp.g (ck_iv (by omega) (by omega)) ?_
  have h2 := a_72 I_S ((x1).toNatClampNeg)
  have h3 := i32 x2
  refine Sp.i (fun c_h4 => ?_) (fun c_h4 => ?_)
  · have h5 := eq_iv rfl rfl c_h4
    unfold fX12_hasBelow_15
    have h6 : ((1 : Int32)).toInt = 1 := li_1
    have h7 : ((0 : Int32)).toInt = 0 := li_0
    refine Sp.mono (s_fX12_hasBelow_19 fu hfu fu x1 x2 (1 : Int32) (0 : Int32) S I_S (by omega) (by omega) (by omega) (by omega) (by omega) (by omega)) (fun r p_h8 => ?_)
    exact by omega
  · have h9 := neq_iv rfl rfl c_h4
    unfold fX12_hasBelow_15
    have h10 : ((0 : Int32)).toInt = 0 := li_0
    refine Sp.mono (s_fX12_hasBelow_19 fu hfu fu x1 x2 (0 : Int32) (0 : Int32) S I_S (by omega) (by omega) (by omega) (by omega) (by omega) (by omega)) (fun r p_h11 => ?_)
    exact by omega
theorem s_fX12_put (fu : Nat) (hfu : 1000000000000000000 ≤ fu) (x1 : Int32) (S : St) (I_S : Inv S) (g0 : (S.1 63 27).toInt < 2000000000) : Sf (fX12_put fu x1 S) (fun U r => Inv U ∧ Fr [(63, 28), (82, 0)] S U ∧ (((U.1 63 27).toInt = (S.1 63 27).toInt + 1))) := by
  unfold fX12_put
  have F_S : Fr [(63, 28), (82, 0)] S S := Fr.refl _ _
  have h1 := b_63_27 I_S
  have h2 := b_63_27 I_S
  refine Sf.i (fun c_h3 => ?_) (fun c_h3 => ?_)
  · have h4 := le_iv li_1000 rfl c_h3
    unfold fX12_put_21
    try have h5 : (((S.1 63 27) + (1 : Int32))).toInt = ((S.1 63 27)).toInt + (1) := add_iv rfl li_1 (by omega) (by omega)
    refine Sf.w I_S F_S rfl (show ((0) : Int) ≤ (((S.1 63 27) + (1 : Int32))).toInt by omega) (show (((S.1 63 27) + (1 : Int32))).toInt ≤ (2000000000 : Int) by omega) (fun S_28 I_S_28 F_S_28 v_S_28 f_S_28 l_S_28 => ?_)
    have h6 := eq_iv rfl rfl v_S_28
    have h7 := b_63_27 I_S_28
    have h8 := b_63_27 I_S
    have h9 : ((0 : Int32)).toInt = 0 := li_0
    exact Sf.so ⟨I_S_28, F_S_28, by omega⟩
  · have h10 := nle_iv li_1000 rfl c_h3
    refine Sf.g (ck_iv (by omega) (by omega)) ?_
    have h11 := vpy ((x1).toInt8.toInt32)
    refine Sf.w I_S F_S rfl (i32 _).1 (i32 _).2 (fun S_20 I_S_20 F_S_20 v_S_20 f_S_20 l_S_20 => ?_)
    have h12 := ti_eq (f_S_20 63 27 (fun e => absurd e (by decide)))
    have h13 : (S_20.1 82 (((S.1 63 27)).toNatClampNeg)).toInt = ((vp_nar .byte ((x1).toInt8.toInt32))).toInt := eq_iv rfl rfl v_S_20
    have h14 : (S_20.1 82 (((S_20.1 63 27)).toNatClampNeg)).toInt = ((vp_nar .byte ((x1).toInt8.toInt32))).toInt := by rw [f_S_20 63 27 (fun e => absurd e (by decide))]; exact eq_iv rfl rfl v_S_20
    unfold fX12_put_21
    have h15 := b_63_27 I_S_20
    try have h16 : (((S_20.1 63 27) + (1 : Int32))).toInt = ((S_20.1 63 27)).toInt + (1) := add_iv rfl li_1 (by omega) (by omega)
    refine Sf.w I_S_20 F_S_20 rfl (show ((0) : Int) ≤ (((S_20.1 63 27) + (1 : Int32))).toInt by omega) (show (((S_20.1 63 27) + (1 : Int32))).toInt ≤ (2000000000 : Int) by omega) (fun S_28 I_S_28 F_S_28 v_S_28 f_S_28 l_S_28 => ?_)
    have h17 := eq_iv rfl rfl v_S_28
    have h18 : (S_28.1 82 (((S.1 63 27)).toNatClampNeg)).toInt = (S_20.1 82 (((S.1 63 27)).toNatClampNeg)).toInt := ti_eq (f_S_28 82 (((S.1 63 27)).toNatClampNeg) (fun e => absurd e (by decide)))
    have h19 : (S_28.1 82 (((S_20.1 63 27)).toNatClampNeg)).toInt = (S_20.1 82 (((S_20.1 63 27)).toNatClampNeg)).toInt := ti_eq (f_S_28 82 (((S_20.1 63 27)).toNatClampNeg) (fun e => absurd e (by decide)))
    have h20 := b_63_27 I_S_28
    have h21 := b_63_27 I_S
    have h22 : ((0 : Int32)).toInt = 0 := li_0
    exact Sf.so ⟨I_S_28, F_S_28, by omega⟩
theorem s_fX12_put2 (fu : Nat) (hfu : 1000000000000000000 ≤ fu) (x1 : Int32) (S : St) (I_S : Inv S) (g0 : (S.1 63 27).toInt + 2 ≤ 2000000000) : Sf (fX12_put2 fu x1 S) (fun U r => Inv U ∧ Fr [(63, 28), (82, 0)] S U ∧ (((U.1 63 27).toInt = (S.1 63 27).toInt + 2))) := by
  unfold fX12_put2
  have F_S : Fr [(63, 28), (82, 0)] S S := Fr.refl _ _
  have h1 := b_63_27 I_S
  have h2 := i32 x1
  have h3 := and_31 ((8 : Int32))
  have h4 := b_63_27 I_S
  refine Sf.b (s_fX12_put fu hfu (x1 >>> ((8 : Int32) &&& 31)) S I_S (by omega)) (fun S_5 r_5_ p_r_5_ => ?_)
  obtain ⟨I_S_5, G_S_5, p_r_5_⟩ := p_r_5_
  have F_S_5 := Fr.tr F_S G_S_5 rfl
  have h5 := b_63_27 I_S_5
  refine Sf.b (s_fX12_put fu hfu x1 S_5 I_S_5 (by omega)) (fun S_10 r_10_ p_r_10_ => ?_)
  obtain ⟨I_S_10, G_S_10, p_r_10_⟩ := p_r_10_
  have F_S_10 := Fr.tr F_S_5 G_S_10 rfl
  have h6 := b_63_27 I_S_10
  have h7 := b_63_27 I_S_10
  have h8 := b_63_27 I_S
  have h9 : ((0 : Int32)).toInt = 0 := li_0
  exact Sf.so ⟨I_S_10, F_S_10, by omega⟩
theorem s_fX12_putName_38 (fu : Nat) (hfu : 1000000000000000000 ≤ fu) (k_2 : Int32 → St → Option (St × Int32)) (N : Nat) (hk_k_2 : ∀ (x2 : Int32) (S : St), Inv S → (0 ≤ (x2).toInt) → ((x2).toInt ≤ 299) → ((S.1 63 27).toInt + 11 * (x2).toInt + 2 ≤ 2000000000) → ((x2).toInt).toNat < N → Sf (k_2 x2 S) (fun U r => Inv U ∧ Fr [(63, 28), (82, 0), (83, 0)] S U ∧ (((U.1 63 27).toInt ≤ (S.1 63 27).toInt + 11 * (x2).toInt + 2)))) : ∀ (n : Nat) (x2 : Int32) (x3 : Int32) (S : St), Inv S → (1 ≤ (x2).toInt) → ((x2).toInt ≤ 299) → (0 ≤ (x3).toInt) → ((x3).toInt ≤ 10) → ((S.1 63 27).toInt + (10 - (x3).toInt) + 11 * ((x2).toInt - 1) + 2 ≤ 2000000000) → (((x2).toInt).toNat ≤ N) → (10 - (x3).toInt).toNat < n → Sf (fX12_putName_38 fu k_2 n x2 x3 S) (fun U r => Inv U ∧ Fr [(63, 28), (82, 0), (83, 0)] S U ∧ (((U.1 63 27).toInt ≤ (S.1 63 27).toInt + (10 - (x3).toInt) + 11 * ((x2).toInt - 1) + 2))) := by
  intro n
  induction n with
  | zero => intro x2 x3 S I_S g0 g1 g2 g3 g4 g5 hm; exact absurd hm (Nat.not_lt_zero _)
  | succ n ih =>
    intro x2 x3 S I_S g0 g1 g2 g3 g4 g5 hm
    rw [fX12_putName_38_s]
    have F_S : Fr [(63, 28), (82, 0), (83, 0)] S S := Fr.refl _ _
    have h1 := b_63_27 I_S
    have h2 := i32 x2
    refine Sf.g (ck_iv (by omega) (by omega)) ?_
    have h3 := a_66 I_S ((x2).toNatClampNeg)
    have h4 := i32 x3
    refine Sf.i (fun c_h5 => ?_) (fun c_h5 => ?_)
    · have h6 := le_iv rfl rfl c_h5
      refine Sf.g (ck_iv (by omega) (by omega)) ?_
      try have h7 := cl_iv (x := x2) (by omega)
      have h8 := a_64 I_S ((x2).toNatClampNeg)
      have h9 := b_63_27 I_S
      refine Sf.mono (hk_k_2 (S.1 64 ((x2).toNatClampNeg)) S I_S (by omega) (by omega) (by omega) (by omega)) (fun U r p_h10 => ?_)
      obtain ⟨I_U, G_U, p_h10⟩ := p_h10
      have h11 := b_63_27 I_U
      have h12 := b_63_27 I_S
      exact ⟨I_U, Fr.tr F_S G_U rfl, by omega⟩
    · have h13 := nle_iv rfl rfl c_h5
      try have h14 : (((10 : Int32) * x2)).toInt = (10) * (x2).toInt := mul_iv li_10 rfl (by omega) (by omega)
      try have h15 : ((((10 : Int32) * x2) + x3)).toInt = (((10 : Int32) * x2)).toInt + (x3).toInt := add_iv rfl rfl (by omega) (by omega)
      refine Sf.g (ck_iv (by omega) (by omega)) ?_
      have h16 := b_63_27 I_S
      refine Sf.b (s_fX12_put fu hfu (S.1 65 (((((10 : Int32) * x2) + x3)).toNatClampNeg)) S I_S (by omega)) (fun S_60 r_60_ p_r_60_ => ?_)
      obtain ⟨I_S_60, G_S_60, p_r_60_⟩ := p_r_60_
      have F_S_60 := Fr.tr F_S G_S_60 rfl
      have h17 := b_63_27 I_S_60
      have h18 : (S_60.1 65 (((((10 : Int32) * x2) + x3)).toNatClampNeg)).toInt = (S.1 65 (((((10 : Int32) * x2) + x3)).toNatClampNeg)).toInt := ti_eq (G_S_60 65 (((((10 : Int32) * x2) + x3)).toNatClampNeg) rfl)
      have h19 : (S_60.1 66 ((x2).toNatClampNeg)).toInt = (S.1 66 ((x2).toNatClampNeg)).toInt := ti_eq (G_S_60 66 ((x2).toNatClampNeg) rfl)
      try have h20 : ((x3 + (1 : Int32))).toInt = (x3).toInt + (1) := add_iv rfl li_1 (by omega) (by omega)
      refine Sf.mono (ih x2 (x3 + (1 : Int32)) S_60 I_S_60 (by omega) (by omega) (by omega) (by omega) (by omega) (by omega) (by omega)) (fun U r p_h21 => ?_)
      obtain ⟨I_U, G_U, p_h21⟩ := p_h21
      have h22 := b_63_27 I_U
      have h23 := b_63_27 I_S
      exact ⟨I_U, Fr.tr F_S_60 G_U rfl, by omega⟩
theorem s_fX12_putName_2 (fu : Nat) (hfu : 1000000000000000000 ≤ fu) : ∀ (n : Nat) (x2 : Int32) (S : St), Inv S → (0 ≤ (x2).toInt) → ((x2).toInt ≤ 299) → ((S.1 63 27).toInt + 11 * (x2).toInt + 2 ≤ 2000000000) → ((x2).toInt).toNat < n → Sf (fX12_putName_2 fu n x2 S) (fun U r => Inv U ∧ Fr [(63, 28), (82, 0), (83, 0)] S U ∧ (((U.1 63 27).toInt ≤ (S.1 63 27).toInt + 11 * (x2).toInt + 2))) := by
  intro n
  induction n with
  | zero => intro x2 S I_S g0 g1 g2 hm; exact absurd hm (Nat.not_lt_zero _)
  | succ n ih =>
    intro x2 S I_S g0 g1 g2 hm
    rw [fX12_putName_2_s]
    have F_S : Fr [(63, 28), (82, 0), (83, 0)] S S := Fr.refl _ _
    have h1 := b_63_27 I_S
    have h2 := i32 x2
    refine Sf.i (fun c_h3 => ?_) (fun c_h3 => ?_)
    · have h4 := le_iv rfl li_0 c_h3
      unfold fX12_putName_79
      refine Sf.i (fun c_h5 => ?_) (fun c_h5 => ?_)
      · have h6 := eq_iv rfl li_0 c_h5
        have h7 : ((0 : Int32)).toInt = 0 := li_0
        have h8 := b_63_27 I_S
        refine Sf.b (s_fX12_put fu hfu (0 : Int32) S I_S (by omega)) (fun S_85 r_85_ p_r_85_ => ?_)
        obtain ⟨I_S_85, G_S_85, p_r_85_⟩ := p_r_85_
        have F_S_85 := Fr.tr F_S G_S_85 rfl
        have h9 := b_63_27 I_S_85
        have h10 := b_63_27 I_S_85
        have h11 := b_63_27 I_S
        have h12 : ((0 : Int32)).toInt = 0 := li_0
        exact Sf.so ⟨I_S_85, F_S_85, by omega⟩
      · have h13 := neq_iv rfl li_0 c_h5
        refine Sf.g (ck_iv (by omega) (by omega)) ?_
        have h14 := b_63_27 I_S
        refine Sf.b (s_fX12_put2 fu hfu ((49152 : Int32) ||| (S.1 83 ((x2).toNatClampNeg))) S I_S (by omega)) (fun S_101 r_101_ p_r_101_ => ?_)
        obtain ⟨I_S_101, G_S_101, p_r_101_⟩ := p_r_101_
        have F_S_101 := Fr.tr F_S G_S_101 rfl
        have h15 := b_63_27 I_S_101
        have h16 : (S_101.1 83 ((x2).toNatClampNeg)).toInt = (S.1 83 ((x2).toNatClampNeg)).toInt := ti_eq (G_S_101 83 ((x2).toNatClampNeg) rfl)
        have h17 := b_63_27 I_S_101
        have h18 := b_63_27 I_S
        have h19 : ((0 : Int32)).toInt = 0 := li_0
        exact Sf.so ⟨I_S_101, F_S_101, by omega⟩
    · have h20 := nle_iv rfl li_0 c_h3
      refine Sf.g (ck_iv (by omega) (by omega)) ?_
      refine Sf.i (fun c_h21 => ?_) (fun c_h21 => ?_)
      · have h22 := eq_iv rfl li_m1 c_h21
        refine Sf.g (ck_iv (by omega) (by omega)) ?_
        have h23 := b_63_27 I_S
        refine Sf.w I_S F_S rfl (i32 _).1 (i32 _).2 (fun S_25 I_S_25 F_S_25 v_S_25 f_S_25 l_S_25 => ?_)
        have h24 := ti_eq (f_S_25 63 27 (fun e => absurd e (by decide)))
        have h25 : (S_25.1 83 ((x2).toNatClampNeg)).toInt = ((S.1 63 27)).toInt := eq_iv rfl rfl v_S_25
        refine Sf.g (ck_iv (by omega) (by omega)) ?_
        have h26 := a_66 I_S_25 ((x2).toNatClampNeg)
        have h27 := b_63_27 I_S_25
        refine Sf.b (s_fX12_put fu hfu (S_25.1 66 ((x2).toNatClampNeg)) S_25 I_S_25 (by omega)) (fun S_33 r_33_ p_r_33_ => ?_)
        obtain ⟨I_S_33, G_S_33, p_r_33_⟩ := p_r_33_
        have F_S_33 := Fr.tr F_S_25 G_S_33 rfl
        have h28 := b_63_27 I_S_33
        have h29 : (S_33.1 66 ((x2).toNatClampNeg)).toInt = (S_25.1 66 ((x2).toNatClampNeg)).toInt := ti_eq (G_S_33 66 ((x2).toNatClampNeg) rfl)
        have h30 : (S_33.1 83 ((x2).toNatClampNeg)).toInt = (S_25.1 83 ((x2).toNatClampNeg)).toInt := ti_eq (G_S_33 83 ((x2).toNatClampNeg) rfl)
        have h31 : ((0 : Int32)).toInt = 0 := li_0
        refine Sf.mono (s_fX12_putName_38 fu hfu _ _ ih fu x2 (0 : Int32) S_33 I_S_33 (by omega) (by omega) (by omega) (by omega) (by omega) (by omega) (by omega)) (fun U r p_h32 => ?_)
        obtain ⟨I_U, G_U, p_h32⟩ := p_h32
        have h33 := b_63_27 I_U
        have h34 := b_63_27 I_S
        exact ⟨I_U, Fr.tr F_S_33 G_U rfl, by omega⟩
      · have h35 := neq_iv rfl li_m1 c_h21
        unfold fX12_putName_79
        refine Sf.i (fun c_h36 => ?_) (fun c_h36 => ?_)
        · have h37 := eq_iv rfl li_0 c_h36
          have h38 : ((0 : Int32)).toInt = 0 := li_0
          have h39 := b_63_27 I_S
          refine Sf.b (s_fX12_put fu hfu (0 : Int32) S I_S (by omega)) (fun S_85 r_85_ p_r_85_ => ?_)
          obtain ⟨I_S_85, G_S_85, p_r_85_⟩ := p_r_85_
          have F_S_85 := Fr.tr F_S G_S_85 rfl
          have h40 := b_63_27 I_S_85
          have h41 : (S_85.1 83 ((x2).toNatClampNeg)).toInt = (S.1 83 ((x2).toNatClampNeg)).toInt := ti_eq (G_S_85 83 ((x2).toNatClampNeg) rfl)
          have h42 := b_63_27 I_S_85
          have h43 := b_63_27 I_S
          have h44 : ((0 : Int32)).toInt = 0 := li_0
          exact Sf.so ⟨I_S_85, F_S_85, by omega⟩
        · have h45 := neq_iv rfl li_0 c_h36
          refine Sf.g (ck_iv (by omega) (by omega)) ?_
          have h46 := b_63_27 I_S
          refine Sf.b (s_fX12_put2 fu hfu ((49152 : Int32) ||| (S.1 83 ((x2).toNatClampNeg))) S I_S (by omega)) (fun S_101 r_101_ p_r_101_ => ?_)
          obtain ⟨I_S_101, G_S_101, p_r_101_⟩ := p_r_101_
          have F_S_101 := Fr.tr F_S G_S_101 rfl
          have h47 := b_63_27 I_S_101
          have h48 : (S_101.1 83 ((x2).toNatClampNeg)).toInt = (S.1 83 ((x2).toNatClampNeg)).toInt := ti_eq (G_S_101 83 ((x2).toNatClampNeg) rfl)
          have h49 := b_63_27 I_S_101
          have h50 := b_63_27 I_S
          have h51 : ((0 : Int32)).toInt = 0 := li_0
          exact Sf.so ⟨I_S_101, F_S_101, by omega⟩
