theorem s_fX12_readInner_82_1000 (fu : Nat) (hfu : 1000000000000000000 ≤ fu) (x2 : Int32) (S : St) (I_S : Inv S) (g0 : (x2).toInt ≤ 1000) : Sf (fX12_readInner fu 82 1000 x2 S) (fun U r => Inv U ∧ Fr [(63, 6), (63, 9), (63, 31), (63, 32), (64, 0), (65, 0), (66, 0), (67, 0), (68, 0), (69, 0)] S U ∧ (((S.1 63 31).toInt ≤ (U.1 63 31).toInt) ∧ (((U.1 63 31).toInt ≤ (x2).toInt ∨ (U.1 63 31).toInt = (S.1 63 31).toInt)) ∧ (-1 ≤ r.toInt) ∧ (r.toInt ≤ 299) ∧ ((r.toInt < 0 → 0 < (U.1 63 30).toInt)) ∧ ((0 ≤ r.toInt → (U.1 63 30).toInt = (S.1 63 30).toInt ∧ (S.1 63 31).toInt + 1 ≤ (U.1 63 31).toInt ∧ (U.1 63 31).toInt ≤ (x2).toInt)))) := by
  unfold fX12_readInner
  try simp only [Nat.reduceAdd]
  have F_S : Fr [(63, 6), (63, 9), (63, 31), (63, 32), (64, 0), (65, 0), (66, 0), (67, 0), (68, 0), (69, 0)] S S := Fr.refl _ _
  have h1 := i32 x2
  have h2 := b_63_31 I_S
  have h3 := b_63_30 I_S
  refine Sf.b (s_fX12_readName_82_1000 fu hfu x2 S I_S (by omega)) (fun S_3 r_3 p_r_3 => ?_)
  obtain ⟨I_S_3, G_S_3, p_r_3⟩ := p_r_3
  have F_S_3 := Fr.tr F_S G_S_3 rfl
  have h4 := b_63_31 I_S_3
  have h5 := b_63_30 I_S_3
  have h6 := i32 r_3
  refine Sf.i (fun c_h7 => ?_) (fun c_h7 => ?_)
  · have h8 := le_iv li_0 rfl c_h7
    have h9 := b_63_31 I_S_3
    have h10 := b_63_31 I_S
    have h11 := b_63_31 I_S_3
    have h12 := b_63_31 I_S_3
    have h13 := b_63_31 I_S
    have h14 := b_63_30 I_S_3
    have h15 := b_63_30 I_S_3
    have h16 := b_63_31 I_S_3
    have h17 := b_63_31 I_S_3
    have h18 := b_63_30 I_S
    have h19 := b_63_31 I_S
    exact Sf.so ⟨I_S_3, F_S_3, by omega⟩
  · have h20 := nle_iv li_0 rfl c_h7
    refine Sf.i (fun c_h21 => ?_) (fun c_h21 => ?_)
    · have h22 := eq_iv rfl li_6 c_h21
      have h23 := b_63_31 I_S_3
      have h24 := b_63_31 I_S
      have h25 := b_63_31 I_S_3
      have h26 := b_63_31 I_S_3
      have h27 := b_63_31 I_S
      have h28 := b_63_30 I_S_3
      have h29 := b_63_30 I_S_3
      have h30 := b_63_31 I_S_3
      have h31 := b_63_31 I_S_3
      have h32 := b_63_30 I_S
      have h33 := b_63_31 I_S
      exact Sf.so ⟨I_S_3, F_S_3, by omega⟩
    · have h34 := neq_iv rfl li_6 c_h21
      refine Sf.w I_S_3 F_S_3 rfl (show ((0) : Int) ≤ ((4 : Int32)).toInt by rw [li_4]; omega) (show ((4 : Int32)).toInt ≤ (6 : Int) by rw [li_4]; omega) (fun S_22 I_S_22 F_S_22 v_S_22 f_S_22 l_S_22 => ?_)
      have h35 := eq_iv rfl li_4 v_S_22
      have h36 := ti_eq (f_S_22 63 31 (fun _ e => absurd e (by decide)))
      have h37 := b_63_31 I_S_22
      have h38 := b_63_31 I_S
      have h39 := b_63_31 I_S_22
      have h40 := b_63_31 I_S_22
      have h41 := b_63_31 I_S
      have h42 := b_63_30 I_S_22
      have h43 := b_63_30 I_S_22
      have h44 := b_63_31 I_S_22
      have h45 := b_63_31 I_S_22
      have h46 := b_63_30 I_S
      have h47 := b_63_31 I_S
      exact Sf.so ⟨I_S_22, F_S_22, by omega⟩
theorem s_fX12_readData_82_1000 (fu : Nat) (hfu : 1000000000000000000 ≤ fu) (x2 : Int32) (x3 : Int32) (x4 : Int32) (S : St) (I_S : Inv S) (g0 : (x2).toInt ≤ 1000) (g1 : 0 ≤ (x4).toInt) (g2 : (S.1 63 30).toInt = 0) (g3 : (x4).toInt ≤ 100000) : Sf (fX12_readData fu 82 1000 x2 x3 x4 S) (fun U r => Inv U ∧ Fr [(63, 6), (63, 9), (63, 31), (63, 32), (64, 0), (65, 0), (66, 0), (67, 0), (68, 0), (69, 0)] S U ∧ (((S.1 63 31).toInt ≤ (U.1 63 31).toInt) ∧ (((U.1 63 30).toInt = 0 → (U.1 63 31).toInt ≤ (x2).toInt)) ∧ (((U.1 63 30).toInt = 0 ∧ ((x3).toInt = 2 ∨ (x3).toInt = 5) → 0 ≤ r.toInt ∧ r.toInt ≤ 299)))) := by
  unfold fX12_readData
  try simp only [Nat.reduceAdd]
  have F_S : Fr [(63, 6), (63, 9), (63, 31), (63, 32), (64, 0), (65, 0), (66, 0), (67, 0), (68, 0), (69, 0)] S S := Fr.refl _ _
  have h1 := b_63_30 I_S
  have h2 := b_63_31 I_S
  have h3 := i32 x4
  have h4 := i32 x2
  try have h5 : (((S.1 63 31) + x4)).toInt = ((S.1 63 31)).toInt + (x4).toInt := add_iv rfl rfl (by omega) (by omega)
  refine Sf.i (fun c_h6 => ?_) (fun c_h6 => ?_)
  · have h7 := le_iv rfl rfl c_h6
    have h8 := i32 x3
    refine Sf.i (fun c_h9 => ?_) (fun c_h9 => ?_)
    · have h10 := eq_iv rfl li_1 c_h9
      refine Sf.i (fun c_h11 => ?_) (fun c_h11 => ?_)
      · have h12 := eq_iv rfl li_4 c_h11
        unfold fX12_readData_34
        try simp only [Nat.reduceAdd]
        refine Sf.i (fun c_h13 => ?_) (fun c_h13 => ?_)
        · have h14 := eq_iv rfl li_16 c_h13
          refine Sf.i (fun c_h15 => ?_) (fun c_h15 => ?_)
          · have h16 := eq_iv rfl li_5 c_h15
            unfold fX12_readData_52
            try simp only [Nat.reduceAdd]
            refine Sf.i (fun c_h17 => ?_) (fun c_h17 => ?_)
            · have h18 := eq_iv rfl li_1 c_h17
              try have h19 : (((S.1 63 31) + (4 : Int32))).toInt = ((S.1 63 31)).toInt + (4) := add_iv rfl li_4 (by omega) (by omega)
              refine Sf.w I_S F_S rfl (show ((0) : Int) ≤ (((S.1 63 31) + (4 : Int32))).toInt by omega) (show (((S.1 63 31) + (4 : Int32))).toInt ≤ (1100 : Int) by omega) (fun S_64 I_S_64 F_S_64 v_S_64 f_S_64 l_S_64 => ?_)
              have h20 := ti_eq (f_S_64 63 30 (fun _ e => absurd e (by decide)))
              have h21 := eq_iv rfl rfl v_S_64
              refine Sf.bp (s_fX12_four_82_1000 fu hfu (S.1 63 31) S_64 I_S_64 (by omega) (by omega)) (fun r_70 p_r_70 => ?_)
              have h22 := i32 r_70
              have h23 := b_63_31 I_S_64
              have h24 := b_63_31 I_S
              have h25 := b_63_30 I_S_64
              have h26 := b_63_31 I_S_64
              have h27 := b_63_30 I_S_64
              exact Sf.so ⟨I_S_64, F_S_64, by omega⟩
            · have h28 := neq_iv rfl li_1 c_h17
              refine Sf.i (fun c_h29 => ?_) (fun c_h29 => ?_)
              · have h30 := eq_iv rfl li_16 c_h29
                refine Sf.g (ck_iv (by omega) (by omega)) ?_
                refine Sf.i (fun c_h31 => ?_) (fun c_h31 => ?_)
                · have h32 := eq_iv rfl li_4 c_h31
                  try have h33 : (((S.1 63 31) + (5 : Int32))).toInt = ((S.1 63 31)).toInt + (5) := add_iv rfl li_5 (by omega) (by omega)
                  refine Sf.w I_S F_S rfl (show ((0) : Int) ≤ (((S.1 63 31) + (5 : Int32))).toInt by omega) (show (((S.1 63 31) + (5 : Int32))).toInt ≤ (1100 : Int) by omega) (fun S_101 I_S_101 F_S_101 v_S_101 f_S_101 l_S_101 => ?_)
                  have h34 := ti_eq (f_S_101 63 30 (fun _ e => absurd e (by decide)))
                  have h35 := eq_iv rfl rfl v_S_101
                  have h36 : (S_101.1 82 (((S.1 63 31)).toNatClampNeg)).toInt = (S.1 82 (((S.1 63 31)).toNatClampNeg)).toInt := ti_eq (f_S_101 82 (((S.1 63 31)).toNatClampNeg) (fun e => absurd e (by decide)))
                  try have h37 : (((S.1 63 31) + (1 : Int32))).toInt = ((S.1 63 31)).toInt + (1) := add_iv rfl li_1 (by omega) (by omega)
                  refine Sf.bp (s_fX12_four_82_1000 fu hfu ((S.1 63 31) + (1 : Int32)) S_101 I_S_101 (by omega) (by omega)) (fun r_109 p_r_109 => ?_)
                  have h38 := i32 r_109
                  have h39 := b_63_31 I_S_101
                  have h40 := b_63_31 I_S
                  have h41 := b_63_30 I_S_101
                  have h42 := b_63_31 I_S_101
                  have h43 := b_63_30 I_S_101
                  exact Sf.so ⟨I_S_101, F_S_101, by omega⟩
                · have h44 := neq_iv rfl li_4 c_h31
                  have h45 : ((4 : Int32)).toInt = 4 := li_4
                  refine Sf.b (s_fX12_wrong fu hfu (4 : Int32) S I_S (by omega) (by omega)) (fun S_90 r_90 p_r_90 => ?_)
                  obtain ⟨I_S_90, G_S_90, p_r_90⟩ := p_r_90
                  have F_S_90 := Fr.tr F_S G_S_90 rfl
                  have h46 := b_63_30 I_S_90
                  have h47 := ti_eq (G_S_90 63 31 rfl)
                  have h48 : (S_90.1 82 (((S.1 63 31)).toNatClampNeg)).toInt = (S.1 82 (((S.1 63 31)).toNatClampNeg)).toInt := ti_eq (G_S_90 82 (((S.1 63 31)).toNatClampNeg) rfl)
                  have h49 : (S_90.1 82 (((S_90.1 63 31)).toNatClampNeg)).toInt = (S.1 82 (((S.1 63 31)).toNatClampNeg)).toInt := by rw [G_S_90 63 31 rfl]; exact ti_eq (G_S_90 82 (((S.1 63 31)).toNatClampNeg) rfl)
                  have h50 := i32 r_90
                  have h51 := b_63_31 I_S_90
                  have h52 := b_63_31 I_S
                  have h53 := b_63_30 I_S_90
                  have h54 := b_63_31 I_S_90
                  have h55 := b_63_30 I_S_90
                  exact Sf.so ⟨I_S_90, F_S_90, by omega⟩
              · have h56 := neq_iv rfl li_16 c_h29
                refine Sf.i (fun c_h57 => ?_) (fun c_h57 => ?_)
                · have h58 := eq_iv rfl li_2 c_h57
                  unfold fX12_readData_142
                  try simp only [Nat.reduceAdd]
                  have h59 := b_63_30 I_S
                  refine Sf.b (s_fX12_readInner_82_1000 fu hfu x2 S I_S (by omega)) (fun S_145 r_145 p_r_145 => ?_)
                  obtain ⟨I_S_145, G_S_145, p_r_145⟩ := p_r_145
                  have F_S_145 := Fr.tr F_S G_S_145 rfl
                  have h60 := b_63_31 I_S_145
                  have h61 := b_63_30 I_S_145
                  refine Sf.i (fun c_h62 => ?_) (fun c_h62 => ?_)
                  · have h63 := eq_iv rfl li_0 c_h62
                    refine Sf.i (fun c_h64 => ?_) (fun c_h64 => ?_)
                    · have h65 := eq_iv rfl li_6 c_h64
                      refine Sf.b (s_fX12_readInner_82_1000 fu hfu x2 S_145 I_S_145 (by omega)) (fun S_166 r_166 p_r_166 => ?_)
                      obtain ⟨I_S_166, G_S_166, p_r_166⟩ := p_r_166
                      have F_S_166 := Fr.tr F_S_145 G_S_166 rfl
                      have h66 := b_63_31 I_S_166
                      have h67 := b_63_30 I_S_166
                      try have h68 : (((S_166.1 63 31) + (20 : Int32))).toInt = ((S_166.1 63 31)).toInt + (20) := add_iv rfl li_20 (by omega) (by omega)
                      refine Sf.w I_S_166 F_S_166 rfl (show ((0) : Int) ≤ (((S_166.1 63 31) + (20 : Int32))).toInt by omega) (show (((S_166.1 63 31) + (20 : Int32))).toInt ≤ (1100 : Int) by omega) (fun S_179 I_S_179 F_S_179 v_S_179 f_S_179 l_S_179 => ?_)
                      have h69 := ti_eq (f_S_179 63 30 (fun _ e => absurd e (by decide)))
                      have h70 := eq_iv rfl rfl v_S_179
                      unfold fX12_readData_182
                      try simp only [Nat.reduceAdd]
                      have h71 := b_63_30 I_S_179
                      refine Sf.i (fun c_h72 => ?_) (fun c_h72 => ?_)
                      · have h73 := le_iv rfl li_0 c_h72
                        have h74 := b_63_31 I_S_179
                        refine Sf.i (fun c_h75 => ?_) (fun c_h75 => ?_)
                        · have h76 := eq_iv rfl rfl c_h75
                          refine Sf.i (fun c_h77 => ?_) (fun c_h77 => ?_)
                          · have h78 := eq_iv rfl li_6 c_h77
                            try have h79 : (((S_179.1 63 31) - (4 : Int32))).toInt = ((S_179.1 63 31)).toInt - (4) := sub_iv rfl li_4 (by omega) (by omega)
                            refine Sf.bp (s_fX12_four_82_1000 fu hfu ((S_179.1 63 31) - (4 : Int32)) S_179 I_S_179 (by omega) (by omega)) (fun r_222 p_r_222 => ?_)
                            have h80 := i32 r_222
                            have h81 := b_63_31 I_S_179
                            have h82 := b_63_31 I_S
                            have h83 := b_63_30 I_S_179
                            have h84 := b_63_31 I_S_179
                            have h85 := b_63_30 I_S_179
                            exact Sf.so ⟨I_S_179, F_S_179, by omega⟩
                          · have h86 := neq_iv rfl li_6 c_h77
                            have h87 := i32 r_145
                            have h88 := b_63_31 I_S_179
                            have h89 := b_63_31 I_S
                            have h90 := b_63_30 I_S_179
                            have h91 := b_63_31 I_S_179
                            have h92 := b_63_30 I_S_179
                            exact Sf.so ⟨I_S_179, F_S_179, by omega⟩
                        · have h93 := neq_iv rfl rfl c_h75
                          have h94 : ((4 : Int32)).toInt = 4 := li_4
                          refine Sf.b (s_fX12_wrong fu hfu (4 : Int32) S_179 I_S_179 (by omega) (by omega)) (fun S_205 r_205 p_r_205 => ?_)
                          obtain ⟨I_S_205, G_S_205, p_r_205⟩ := p_r_205
                          have F_S_205 := Fr.tr F_S_179 G_S_205 rfl
                          have h95 := b_63_30 I_S_205
                          have h96 := ti_eq (G_S_205 63 31 rfl)
                          have h97 := i32 r_205
                          have h98 := b_63_31 I_S_205
                          have h99 := b_63_31 I_S
                          have h100 := b_63_30 I_S_205
                          have h101 := b_63_31 I_S_205
                          have h102 := b_63_30 I_S_205
                          exact Sf.so ⟨I_S_205, F_S_205, by omega⟩
                      · have h103 := nle_iv rfl li_0 c_h72
                        have h104 := b_63_31 I_S_179
                        have h105 := b_63_31 I_S
                        have h106 := b_63_30 I_S_179
                        have h107 := b_63_31 I_S_179
                        have h108 := b_63_30 I_S_179
                        have h109 : ((-1 : Int32)).toInt = -1 := li_m1
                        exact Sf.so ⟨I_S_179, F_S_179, by omega⟩
                    · have h110 := neq_iv rfl li_6 c_h64
                      unfold fX12_readData_182
                      try simp only [Nat.reduceAdd]
                      refine Sf.i (fun c_h111 => ?_) (fun c_h111 => ?_)
                      · have h112 := le_iv rfl li_0 c_h111
                        refine Sf.i (fun c_h113 => ?_) (fun c_h113 => ?_)
                        · have h114 := eq_iv rfl rfl c_h113
                          refine Sf.i (fun c_h115 => ?_) (fun c_h115 => ?_)
                          · have h116 := eq_iv rfl li_6 c_h115
                            try have h117 : (((S_145.1 63 31) - (4 : Int32))).toInt = ((S_145.1 63 31)).toInt - (4) := sub_iv rfl li_4 (by omega) (by omega)
                            refine Sf.bp (s_fX12_four_82_1000 fu hfu ((S_145.1 63 31) - (4 : Int32)) S_145 I_S_145 (by omega) (by omega)) (fun r_222 p_r_222 => ?_)
                            have h118 := i32 r_222
                            have h119 := b_63_31 I_S_145
                            have h120 := b_63_31 I_S
                            have h121 := b_63_30 I_S_145
                            have h122 := b_63_31 I_S_145
                            have h123 := b_63_30 I_S_145
                            exact Sf.so ⟨I_S_145, F_S_145, by omega⟩
                          · have h124 := neq_iv rfl li_6 c_h115
                            have h125 := i32 r_145
                            have h126 := b_63_31 I_S_145
                            have h127 := b_63_31 I_S
                            have h128 := b_63_30 I_S_145
                            have h129 := b_63_31 I_S_145
                            have h130 := b_63_30 I_S_145
                            exact Sf.so ⟨I_S_145, F_S_145, by omega⟩
                        · have h131 := neq_iv rfl rfl c_h113
                          have h132 : ((4 : Int32)).toInt = 4 := li_4
                          refine Sf.b (s_fX12_wrong fu hfu (4 : Int32) S_145 I_S_145 (by omega) (by omega)) (fun S_205 r_205 p_r_205 => ?_)
                          obtain ⟨I_S_205, G_S_205, p_r_205⟩ := p_r_205
                          have F_S_205 := Fr.tr F_S_145 G_S_205 rfl
                          have h133 := b_63_30 I_S_205
                          have h134 := ti_eq (G_S_205 63 31 rfl)
                          have h135 := i32 r_205
                          have h136 := b_63_31 I_S_205
                          have h137 := b_63_31 I_S
                          have h138 := b_63_30 I_S_205
                          have h139 := b_63_31 I_S_205
                          have h140 := b_63_30 I_S_205
                          exact Sf.so ⟨I_S_205, F_S_205, by omega⟩
                      · have h141 := nle_iv rfl li_0 c_h111
                        have h142 := b_63_31 I_S_145
                        have h143 := b_63_31 I_S
                        have h144 := b_63_30 I_S_145
                        have h145 := b_63_31 I_S_145
                        have h146 := b_63_30 I_S_145
                        have h147 : ((-1 : Int32)).toInt = -1 := li_m1
                        exact Sf.so ⟨I_S_145, F_S_145, by omega⟩
                  · have h148 := neq_iv rfl li_0 c_h62
                    unfold fX12_readData_182
                    try simp only [Nat.reduceAdd]
                    refine Sf.i (fun c_h149 => ?_) (fun c_h149 => ?_)
                    · have h150 := le_iv rfl li_0 c_h149
                      refine Sf.i (fun c_h151 => ?_) (fun c_h151 => ?_)
                      · have h152 := eq_iv rfl rfl c_h151
                        refine Sf.i (fun c_h153 => ?_) (fun c_h153 => ?_)
                        · have h154 := eq_iv rfl li_6 c_h153
                          try have h155 : (((S_145.1 63 31) - (4 : Int32))).toInt = ((S_145.1 63 31)).toInt - (4) := sub_iv rfl li_4 (by omega) (by omega)
                          refine Sf.bp (s_fX12_four_82_1000 fu hfu ((S_145.1 63 31) - (4 : Int32)) S_145 I_S_145 (by omega) (by omega)) (fun r_222 p_r_222 => ?_)
                          have h156 := i32 r_222
                          have h157 := b_63_31 I_S_145
                          have h158 := b_63_31 I_S
                          have h159 := b_63_30 I_S_145
                          have h160 := b_63_31 I_S_145
                          have h161 := b_63_30 I_S_145
                          exact Sf.so ⟨I_S_145, F_S_145, by omega⟩
                        · have h162 := neq_iv rfl li_6 c_h153
                          have h163 := i32 r_145
                          have h164 := b_63_31 I_S_145
                          have h165 := b_63_31 I_S
                          have h166 := b_63_30 I_S_145
                          have h167 := b_63_31 I_S_145
                          have h168 := b_63_30 I_S_145
                          exact Sf.so ⟨I_S_145, F_S_145, by omega⟩
                      · have h169 := neq_iv rfl rfl c_h151
                        have h170 : ((4 : Int32)).toInt = 4 := li_4
                        refine Sf.b (s_fX12_wrong fu hfu (4 : Int32) S_145 I_S_145 (by omega) (by omega)) (fun S_205 r_205 p_r_205 => ?_)
                        obtain ⟨I_S_205, G_S_205, p_r_205⟩ := p_r_205
                        have F_S_205 := Fr.tr F_S_145 G_S_205 rfl
                        have h171 := b_63_30 I_S_205
                        have h172 := ti_eq (G_S_205 63 31 rfl)
                        have h173 := i32 r_205
                        have h174 := b_63_31 I_S_205
                        have h175 := b_63_31 I_S
                        have h176 := b_63_30 I_S_205
                        have h177 := b_63_31 I_S_205
                        have h178 := b_63_30 I_S_205
                        exact Sf.so ⟨I_S_205, F_S_205, by omega⟩
                    · have h179 := nle_iv rfl li_0 c_h149
                      have h180 := b_63_31 I_S_145
                      have h181 := b_63_31 I_S
                      have h182 := b_63_30 I_S_145
                      have h183 := b_63_31 I_S_145
                      have h184 := b_63_30 I_S_145
                      have h185 : ((-1 : Int32)).toInt = -1 := li_m1
                      exact Sf.so ⟨I_S_145, F_S_145, by omega⟩
                · have h186 := neq_iv rfl li_2 c_h57
                  refine Sf.i (fun c_h187 => ?_) (fun c_h187 => ?_)
                  · have h188 := eq_iv rfl li_5 c_h187
                    unfold fX12_readData_142
                    try simp only [Nat.reduceAdd]
                    have h189 := b_63_30 I_S
                    refine Sf.b (s_fX12_readInner_82_1000 fu hfu x2 S I_S (by omega)) (fun S_145 r_145 p_r_145 => ?_)
                    obtain ⟨I_S_145, G_S_145, p_r_145⟩ := p_r_145
                    have F_S_145 := Fr.tr F_S G_S_145 rfl
                    have h190 := b_63_31 I_S_145
                    have h191 := b_63_30 I_S_145
                    refine Sf.i (fun c_h192 => ?_) (fun c_h192 => ?_)
                    · have h193 := eq_iv rfl li_0 c_h192
                      refine Sf.i (fun c_h194 => ?_) (fun c_h194 => ?_)
                      · have h195 := eq_iv rfl li_6 c_h194
                        refine Sf.b (s_fX12_readInner_82_1000 fu hfu x2 S_145 I_S_145 (by omega)) (fun S_166 r_166 p_r_166 => ?_)
                        obtain ⟨I_S_166, G_S_166, p_r_166⟩ := p_r_166
                        have F_S_166 := Fr.tr F_S_145 G_S_166 rfl
                        have h196 := b_63_31 I_S_166
                        have h197 := b_63_30 I_S_166
                        try have h198 : (((S_166.1 63 31) + (20 : Int32))).toInt = ((S_166.1 63 31)).toInt + (20) := add_iv rfl li_20 (by omega) (by omega)
                        refine Sf.w I_S_166 F_S_166 rfl (show ((0) : Int) ≤ (((S_166.1 63 31) + (20 : Int32))).toInt by omega) (show (((S_166.1 63 31) + (20 : Int32))).toInt ≤ (1100 : Int) by omega) (fun S_179 I_S_179 F_S_179 v_S_179 f_S_179 l_S_179 => ?_)
                        have h199 := ti_eq (f_S_179 63 30 (fun _ e => absurd e (by decide)))
                        have h200 := eq_iv rfl rfl v_S_179
                        unfold fX12_readData_182
                        try simp only [Nat.reduceAdd]
                        have h201 := b_63_30 I_S_179
                        refine Sf.i (fun c_h202 => ?_) (fun c_h202 => ?_)
                        · have h203 := le_iv rfl li_0 c_h202
                          have h204 := b_63_31 I_S_179
                          refine Sf.i (fun c_h205 => ?_) (fun c_h205 => ?_)
                          · have h206 := eq_iv rfl rfl c_h205
                            refine Sf.i (fun c_h207 => ?_) (fun c_h207 => ?_)
                            · have h208 := eq_iv rfl li_6 c_h207
                              try have h209 : (((S_179.1 63 31) - (4 : Int32))).toInt = ((S_179.1 63 31)).toInt - (4) := sub_iv rfl li_4 (by omega) (by omega)
                              refine Sf.bp (s_fX12_four_82_1000 fu hfu ((S_179.1 63 31) - (4 : Int32)) S_179 I_S_179 (by omega) (by omega)) (fun r_222 p_r_222 => ?_)
                              have h210 := i32 r_222
                              have h211 := b_63_31 I_S_179
                              have h212 := b_63_31 I_S
                              have h213 := b_63_30 I_S_179
                              have h214 := b_63_31 I_S_179
                              have h215 := b_63_30 I_S_179
                              exact Sf.so ⟨I_S_179, F_S_179, by omega⟩
                            · have h216 := neq_iv rfl li_6 c_h207
                              have h217 := i32 r_145
                              have h218 := b_63_31 I_S_179
                              have h219 := b_63_31 I_S
                              have h220 := b_63_30 I_S_179
                              have h221 := b_63_31 I_S_179
                              have h222 := b_63_30 I_S_179
                              exact Sf.so ⟨I_S_179, F_S_179, by omega⟩
                          · have h223 := neq_iv rfl rfl c_h205
                            have h224 : ((4 : Int32)).toInt = 4 := li_4
                            refine Sf.b (s_fX12_wrong fu hfu (4 : Int32) S_179 I_S_179 (by omega) (by omega)) (fun S_205 r_205 p_r_205 => ?_)
                            obtain ⟨I_S_205, G_S_205, p_r_205⟩ := p_r_205
                            have F_S_205 := Fr.tr F_S_179 G_S_205 rfl
                            have h225 := b_63_30 I_S_205
                            have h226 := ti_eq (G_S_205 63 31 rfl)
                            have h227 := i32 r_205
                            have h228 := b_63_31 I_S_205
                            have h229 := b_63_31 I_S
                            have h230 := b_63_30 I_S_205
                            have h231 := b_63_31 I_S_205
                            have h232 := b_63_30 I_S_205
                            exact Sf.so ⟨I_S_205, F_S_205, by omega⟩
                        · have h233 := nle_iv rfl li_0 c_h202
                          have h234 := b_63_31 I_S_179
                          have h235 := b_63_31 I_S
                          have h236 := b_63_30 I_S_179
                          have h237 := b_63_31 I_S_179
                          have h238 := b_63_30 I_S_179
                          have h239 : ((-1 : Int32)).toInt = -1 := li_m1
                          exact Sf.so ⟨I_S_179, F_S_179, by omega⟩
                      · have h240 := neq_iv rfl li_6 c_h194
                        unfold fX12_readData_182
                        try simp only [Nat.reduceAdd]
                        refine Sf.i (fun c_h241 => ?_) (fun c_h241 => ?_)
                        · have h242 := le_iv rfl li_0 c_h241
                          refine Sf.i (fun c_h243 => ?_) (fun c_h243 => ?_)
                          · have h244 := eq_iv rfl rfl c_h243
                            refine Sf.i (fun c_h245 => ?_) (fun c_h245 => ?_)
                            · have h246 := eq_iv rfl li_6 c_h245
                              try have h247 : (((S_145.1 63 31) - (4 : Int32))).toInt = ((S_145.1 63 31)).toInt - (4) := sub_iv rfl li_4 (by omega) (by omega)
                              refine Sf.bp (s_fX12_four_82_1000 fu hfu ((S_145.1 63 31) - (4 : Int32)) S_145 I_S_145 (by omega) (by omega)) (fun r_222 p_r_222 => ?_)
                              have h248 := i32 r_222
                              have h249 := b_63_31 I_S_145
                              have h250 := b_63_31 I_S
                              have h251 := b_63_30 I_S_145
                              have h252 := b_63_31 I_S_145
                              have h253 := b_63_30 I_S_145
                              exact Sf.so ⟨I_S_145, F_S_145, by omega⟩
                            · have h254 := neq_iv rfl li_6 c_h245
                              have h255 := i32 r_145
                              have h256 := b_63_31 I_S_145
                              have h257 := b_63_31 I_S
                              have h258 := b_63_30 I_S_145
                              have h259 := b_63_31 I_S_145
                              have h260 := b_63_30 I_S_145
                              exact Sf.so ⟨I_S_145, F_S_145, by omega⟩
                          · have h261 := neq_iv rfl rfl c_h243
                            have h262 : ((4 : Int32)).toInt = 4 := li_4
                            refine Sf.b (s_fX12_wrong fu hfu (4 : Int32) S_145 I_S_145 (by omega) (by omega)) (fun S_205 r_205 p_r_205 => ?_)
                            obtain ⟨I_S_205, G_S_205, p_r_205⟩ := p_r_205
                            have F_S_205 := Fr.tr F_S_145 G_S_205 rfl
                            have h263 := b_63_30 I_S_205
                            have h264 := ti_eq (G_S_205 63 31 rfl)
                            have h265 := i32 r_205
                            have h266 := b_63_31 I_S_205
                            have h267 := b_63_31 I_S
                            have h268 := b_63_30 I_S_205
                            have h269 := b_63_31 I_S_205
                            have h270 := b_63_30 I_S_205
                            exact Sf.so ⟨I_S_205, F_S_205, by omega⟩
                        · have h271 := nle_iv rfl li_0 c_h241
                          have h272 := b_63_31 I_S_145
                          have h273 := b_63_31 I_S
                          have h274 := b_63_30 I_S_145
                          have h275 := b_63_31 I_S_145
                          have h276 := b_63_30 I_S_145
                          have h277 : ((-1 : Int32)).toInt = -1 := li_m1
                          exact Sf.so ⟨I_S_145, F_S_145, by omega⟩
                    · have h278 := neq_iv rfl li_0 c_h192
                      unfold fX12_readData_182
                      try simp only [Nat.reduceAdd]
                      refine Sf.i (fun c_h279 => ?_) (fun c_h279 => ?_)
                      · have h280 := le_iv rfl li_0 c_h279
                        refine Sf.i (fun c_h281 => ?_) (fun c_h281 => ?_)
                        · have h282 := eq_iv rfl rfl c_h281
                          refine Sf.i (fun c_h283 => ?_) (fun c_h283 => ?_)
                          · have h284 := eq_iv rfl li_6 c_h283
                            try have h285 : (((S_145.1 63 31) - (4 : Int32))).toInt = ((S_145.1 63 31)).toInt - (4) := sub_iv rfl li_4 (by omega) (by omega)
                            refine Sf.bp (s_fX12_four_82_1000 fu hfu ((S_145.1 63 31) - (4 : Int32)) S_145 I_S_145 (by omega) (by omega)) (fun r_222 p_r_222 => ?_)
                            have h286 := i32 r_222
                            have h287 := b_63_31 I_S_145
                            have h288 := b_63_31 I_S
                            have h289 := b_63_30 I_S_145
                            have h290 := b_63_31 I_S_145
                            have h291 := b_63_30 I_S_145
                            exact Sf.so ⟨I_S_145, F_S_145, by omega⟩
                          · have h292 := neq_iv rfl li_6 c_h283
                            have h293 := i32 r_145
                            have h294 := b_63_31 I_S_145
                            have h295 := b_63_31 I_S
                            have h296 := b_63_30 I_S_145
                            have h297 := b_63_31 I_S_145
                            have h298 := b_63_30 I_S_145
                            exact Sf.so ⟨I_S_145, F_S_145, by omega⟩
                        · have h299 := neq_iv rfl rfl c_h281
                          have h300 : ((4 : Int32)).toInt = 4 := li_4
                          refine Sf.b (s_fX12_wrong fu hfu (4 : Int32) S_145 I_S_145 (by omega) (by omega)) (fun S_205 r_205 p_r_205 => ?_)
                          obtain ⟨I_S_205, G_S_205, p_r_205⟩ := p_r_205
                          have F_S_205 := Fr.tr F_S_145 G_S_205 rfl
                          have h301 := b_63_30 I_S_205
                          have h302 := ti_eq (G_S_205 63 31 rfl)
                          have h303 := i32 r_205
                          have h304 := b_63_31 I_S_205
                          have h305 := b_63_31 I_S
                          have h306 := b_63_30 I_S_205
                          have h307 := b_63_31 I_S_205
                          have h308 := b_63_30 I_S_205
                          exact Sf.so ⟨I_S_205, F_S_205, by omega⟩
                      · have h309 := nle_iv rfl li_0 c_h279
                        have h310 := b_63_31 I_S_145
                        have h311 := b_63_31 I_S
                        have h312 := b_63_30 I_S_145
                        have h313 := b_63_31 I_S_145
                        have h314 := b_63_30 I_S_145
                        have h315 : ((-1 : Int32)).toInt = -1 := li_m1
                        exact Sf.so ⟨I_S_145, F_S_145, by omega⟩
                  · have h316 := neq_iv rfl li_5 c_h187
                    refine Sf.i (fun c_h317 => ?_) (fun c_h317 => ?_)
                    · have h318 := eq_iv rfl li_6 c_h317
                      unfold fX12_readData_142
                      try simp only [Nat.reduceAdd]
                      have h319 := b_63_30 I_S
                      refine Sf.b (s_fX12_readInner_82_1000 fu hfu x2 S I_S (by omega)) (fun S_145 r_145 p_r_145 => ?_)
                      obtain ⟨I_S_145, G_S_145, p_r_145⟩ := p_r_145
                      have F_S_145 := Fr.tr F_S G_S_145 rfl
                      have h320 := b_63_31 I_S_145
                      have h321 := b_63_30 I_S_145
                      refine Sf.i (fun c_h322 => ?_) (fun c_h322 => ?_)
                      · have h323 := eq_iv rfl li_0 c_h322
                        refine Sf.i (fun c_h324 => ?_) (fun c_h324 => ?_)
                        · have h325 := eq_iv rfl li_6 c_h324
                          refine Sf.b (s_fX12_readInner_82_1000 fu hfu x2 S_145 I_S_145 (by omega)) (fun S_166 r_166 p_r_166 => ?_)
                          obtain ⟨I_S_166, G_S_166, p_r_166⟩ := p_r_166
                          have F_S_166 := Fr.tr F_S_145 G_S_166 rfl
                          have h326 := b_63_31 I_S_166
                          have h327 := b_63_30 I_S_166
                          try have h328 : (((S_166.1 63 31) + (20 : Int32))).toInt = ((S_166.1 63 31)).toInt + (20) := add_iv rfl li_20 (by omega) (by omega)
                          refine Sf.w I_S_166 F_S_166 rfl (show ((0) : Int) ≤ (((S_166.1 63 31) + (20 : Int32))).toInt by omega) (show (((S_166.1 63 31) + (20 : Int32))).toInt ≤ (1100 : Int) by omega) (fun S_179 I_S_179 F_S_179 v_S_179 f_S_179 l_S_179 => ?_)
                          have h329 := ti_eq (f_S_179 63 30 (fun _ e => absurd e (by decide)))
                          have h330 := eq_iv rfl rfl v_S_179
                          unfold fX12_readData_182
                          try simp only [Nat.reduceAdd]
                          have h331 := b_63_30 I_S_179
                          refine Sf.i (fun c_h332 => ?_) (fun c_h332 => ?_)
                          · have h333 := le_iv rfl li_0 c_h332
                            have h334 := b_63_31 I_S_179
                            refine Sf.i (fun c_h335 => ?_) (fun c_h335 => ?_)
                            · have h336 := eq_iv rfl rfl c_h335
                              refine Sf.i (fun c_h337 => ?_) (fun c_h337 => ?_)
                              · have h338 := eq_iv rfl li_6 c_h337
                                try have h339 : (((S_179.1 63 31) - (4 : Int32))).toInt = ((S_179.1 63 31)).toInt - (4) := sub_iv rfl li_4 (by omega) (by omega)
                                refine Sf.bp (s_fX12_four_82_1000 fu hfu ((S_179.1 63 31) - (4 : Int32)) S_179 I_S_179 (by omega) (by omega)) (fun r_222 p_r_222 => ?_)
                                have h340 := i32 r_222
                                have h341 := b_63_31 I_S_179
                                have h342 := b_63_31 I_S
                                have h343 := b_63_30 I_S_179
                                have h344 := b_63_31 I_S_179
                                have h345 := b_63_30 I_S_179
                                exact Sf.so ⟨I_S_179, F_S_179, by omega⟩
                              · have h346 := neq_iv rfl li_6 c_h337
                                have h347 := i32 r_145
                                have h348 := b_63_31 I_S_179
                                have h349 := b_63_31 I_S
                                have h350 := b_63_30 I_S_179
                                have h351 := b_63_31 I_S_179
                                have h352 := b_63_30 I_S_179
                                exact Sf.so ⟨I_S_179, F_S_179, by omega⟩
                            · have h353 := neq_iv rfl rfl c_h335
                              have h354 : ((4 : Int32)).toInt = 4 := li_4
                              refine Sf.b (s_fX12_wrong fu hfu (4 : Int32) S_179 I_S_179 (by omega) (by omega)) (fun S_205 r_205 p_r_205 => ?_)
                              obtain ⟨I_S_205, G_S_205, p_r_205⟩ := p_r_205
                              have F_S_205 := Fr.tr F_S_179 G_S_205 rfl
                              have h355 := b_63_30 I_S_205
                              have h356 := ti_eq (G_S_205 63 31 rfl)
                              have h357 := i32 r_205
                              have h358 := b_63_31 I_S_205
                              have h359 := b_63_31 I_S
                              have h360 := b_63_30 I_S_205
                              have h361 := b_63_31 I_S_205
                              have h362 := b_63_30 I_S_205
                              exact Sf.so ⟨I_S_205, F_S_205, by omega⟩
                          · have h363 := nle_iv rfl li_0 c_h332
                            have h364 := b_63_31 I_S_179
                            have h365 := b_63_31 I_S
                            have h366 := b_63_30 I_S_179
                            have h367 := b_63_31 I_S_179
                            have h368 := b_63_30 I_S_179
                            have h369 : ((-1 : Int32)).toInt = -1 := li_m1
                            exact Sf.so ⟨I_S_179, F_S_179, by omega⟩
                        · have h370 := neq_iv rfl li_6 c_h324
                          unfold fX12_readData_182
                          try simp only [Nat.reduceAdd]
                          refine Sf.i (fun c_h371 => ?_) (fun c_h371 => ?_)
                          · have h372 := le_iv rfl li_0 c_h371
                            refine Sf.i (fun c_h373 => ?_) (fun c_h373 => ?_)
                            · have h374 := eq_iv rfl rfl c_h373
                              refine Sf.i (fun c_h375 => ?_) (fun c_h375 => ?_)
                              · have h376 := eq_iv rfl li_6 c_h375
                                try have h377 : (((S_145.1 63 31) - (4 : Int32))).toInt = ((S_145.1 63 31)).toInt - (4) := sub_iv rfl li_4 (by omega) (by omega)
                                refine Sf.bp (s_fX12_four_82_1000 fu hfu ((S_145.1 63 31) - (4 : Int32)) S_145 I_S_145 (by omega) (by omega)) (fun r_222 p_r_222 => ?_)
                                have h378 := i32 r_222
                                have h379 := b_63_31 I_S_145
                                have h380 := b_63_31 I_S
                                have h381 := b_63_30 I_S_145
                                have h382 := b_63_31 I_S_145
                                have h383 := b_63_30 I_S_145
                                exact Sf.so ⟨I_S_145, F_S_145, by omega⟩
                              · have h384 := neq_iv rfl li_6 c_h375
                                have h385 := i32 r_145
                                have h386 := b_63_31 I_S_145
                                have h387 := b_63_31 I_S
                                have h388 := b_63_30 I_S_145
                                have h389 := b_63_31 I_S_145
                                have h390 := b_63_30 I_S_145
                                exact Sf.so ⟨I_S_145, F_S_145, by omega⟩
                            · have h391 := neq_iv rfl rfl c_h373
                              have h392 : ((4 : Int32)).toInt = 4 := li_4
                              refine Sf.b (s_fX12_wrong fu hfu (4 : Int32) S_145 I_S_145 (by omega) (by omega)) (fun S_205 r_205 p_r_205 => ?_)
                              obtain ⟨I_S_205, G_S_205, p_r_205⟩ := p_r_205
                              have F_S_205 := Fr.tr F_S_145 G_S_205 rfl
                              have h393 := b_63_30 I_S_205
                              have h394 := ti_eq (G_S_205 63 31 rfl)
                              have h395 := i32 r_205
                              have h396 := b_63_31 I_S_205
                              have h397 := b_63_31 I_S
                              have h398 := b_63_30 I_S_205
                              have h399 := b_63_31 I_S_205
                              have h400 := b_63_30 I_S_205
                              exact Sf.so ⟨I_S_205, F_S_205, by omega⟩
                          · have h401 := nle_iv rfl li_0 c_h371
                            have h402 := b_63_31 I_S_145
                            have h403 := b_63_31 I_S
                            have h404 := b_63_30 I_S_145
                            have h405 := b_63_31 I_S_145
                            have h406 := b_63_30 I_S_145
                            have h407 : ((-1 : Int32)).toInt = -1 := li_m1
                            exact Sf.so ⟨I_S_145, F_S_145, by omega⟩
                      · have h408 := neq_iv rfl li_0 c_h322
                        unfold fX12_readData_182
                        try simp only [Nat.reduceAdd]
                        refine Sf.i (fun c_h409 => ?_) (fun c_h409 => ?_)
                        · have h410 := le_iv rfl li_0 c_h409
                          refine Sf.i (fun c_h411 => ?_) (fun c_h411 => ?_)
                          · have h412 := eq_iv rfl rfl c_h411
                            refine Sf.i (fun c_h413 => ?_) (fun c_h413 => ?_)
                            · have h414 := eq_iv rfl li_6 c_h413
                              try have h415 : (((S_145.1 63 31) - (4 : Int32))).toInt = ((S_145.1 63 31)).toInt - (4) := sub_iv rfl li_4 (by omega) (by omega)
                              refine Sf.bp (s_fX12_four_82_1000 fu hfu ((S_145.1 63 31) - (4 : Int32)) S_145 I_S_145 (by omega) (by omega)) (fun r_222 p_r_222 => ?_)
                              have h416 := i32 r_222
                              have h417 := b_63_31 I_S_145
                              have h418 := b_63_31 I_S
                              have h419 := b_63_30 I_S_145
                              have h420 := b_63_31 I_S_145
                              have h421 := b_63_30 I_S_145
                              exact Sf.so ⟨I_S_145, F_S_145, by omega⟩
                            · have h422 := neq_iv rfl li_6 c_h413
                              have h423 := i32 r_145
                              have h424 := b_63_31 I_S_145
                              have h425 := b_63_31 I_S
                              have h426 := b_63_30 I_S_145
                              have h427 := b_63_31 I_S_145
                              have h428 := b_63_30 I_S_145
                              exact Sf.so ⟨I_S_145, F_S_145, by omega⟩
                          · have h429 := neq_iv rfl rfl c_h411
                            have h430 : ((4 : Int32)).toInt = 4 := li_4
                            refine Sf.b (s_fX12_wrong fu hfu (4 : Int32) S_145 I_S_145 (by omega) (by omega)) (fun S_205 r_205 p_r_205 => ?_)
                            obtain ⟨I_S_205, G_S_205, p_r_205⟩ := p_r_205
                            have F_S_205 := Fr.tr F_S_145 G_S_205 rfl
                            have h431 := b_63_30 I_S_205
                            have h432 := ti_eq (G_S_205 63 31 rfl)
                            have h433 := i32 r_205
                            have h434 := b_63_31 I_S_205
                            have h435 := b_63_31 I_S
                            have h436 := b_63_30 I_S_205
                            have h437 := b_63_31 I_S_205
                            have h438 := b_63_30 I_S_205
                            exact Sf.so ⟨I_S_205, F_S_205, by omega⟩
                        · have h439 := nle_iv rfl li_0 c_h409
                          have h440 := b_63_31 I_S_145
                          have h441 := b_63_31 I_S
                          have h442 := b_63_30 I_S_145
                          have h443 := b_63_31 I_S_145
                          have h444 := b_63_30 I_S_145
                          have h445 : ((-1 : Int32)).toInt = -1 := li_m1
                          exact Sf.so ⟨I_S_145, F_S_145, by omega⟩
                    · have h446 := neq_iv rfl li_6 c_h317
                      refine Sf.w I_S F_S rfl (show ((0) : Int) ≤ (((S.1 63 31) + x4)).toInt by omega) (show (((S.1 63 31) + x4)).toInt ≤ (1100 : Int) by omega) (fun S_137 I_S_137 F_S_137 v_S_137 f_S_137 l_S_137 => ?_)
                      have h447 := ti_eq (f_S_137 63 30 (fun _ e => absurd e (by decide)))
                      have h448 := eq_iv rfl rfl v_S_137
                      have h449 := b_63_31 I_S_137
                      have h450 := b_63_31 I_S
                      have h451 := b_63_30 I_S_137
                      have h452 := b_63_31 I_S_137
                      have h453 := b_63_30 I_S_137
                      have h454 : ((0 : Int32)).toInt = 0 := li_0
                      exact Sf.so ⟨I_S_137, F_S_137, by omega⟩
          · have h455 := neq_iv rfl li_5 c_h15
            unfold fX12_readData_46
            try simp only [Nat.reduceAdd]
            have h456 : ((4 : Int32)).toInt = 4 := li_4
            refine Sf.b (s_fX12_wrong fu hfu (4 : Int32) S I_S (by omega) (by omega)) (fun S_48 r_48 p_r_48 => ?_)
            obtain ⟨I_S_48, G_S_48, p_r_48⟩ := p_r_48
            have F_S_48 := Fr.tr F_S G_S_48 rfl
            have h457 := b_63_30 I_S_48
            have h458 := ti_eq (G_S_48 63 31 rfl)
            have h459 := i32 r_48
            have h460 := b_63_31 I_S_48
            have h461 := b_63_31 I_S
            have h462 := b_63_30 I_S_48
            have h463 := b_63_31 I_S_48
            have h464 := b_63_30 I_S_48
            exact Sf.so ⟨I_S_48, F_S_48, by omega⟩
        · have h465 := neq_iv rfl li_16 c_h13
          unfold fX12_readData_52
          try simp only [Nat.reduceAdd]
          refine Sf.i (fun c_h466 => ?_) (fun c_h466 => ?_)
          · have h467 := eq_iv rfl li_1 c_h466
            try have h468 : (((S.1 63 31) + (4 : Int32))).toInt = ((S.1 63 31)).toInt + (4) := add_iv rfl li_4 (by omega) (by omega)
            refine Sf.w I_S F_S rfl (show ((0) : Int) ≤ (((S.1 63 31) + (4 : Int32))).toInt by omega) (show (((S.1 63 31) + (4 : Int32))).toInt ≤ (1100 : Int) by omega) (fun S_64 I_S_64 F_S_64 v_S_64 f_S_64 l_S_64 => ?_)
            have h469 := ti_eq (f_S_64 63 30 (fun _ e => absurd e (by decide)))
            have h470 := eq_iv rfl rfl v_S_64
            refine Sf.bp (s_fX12_four_82_1000 fu hfu (S.1 63 31) S_64 I_S_64 (by omega) (by omega)) (fun r_70 p_r_70 => ?_)
            have h471 := i32 r_70
            have h472 := b_63_31 I_S_64
            have h473 := b_63_31 I_S
            have h474 := b_63_30 I_S_64
            have h475 := b_63_31 I_S_64
            have h476 := b_63_30 I_S_64
            exact Sf.so ⟨I_S_64, F_S_64, by omega⟩
          · have h477 := neq_iv rfl li_1 c_h466
            refine Sf.i (fun c_h478 => ?_) (fun c_h478 => ?_)
            · have h479 := eq_iv rfl li_16 c_h478
              refine Sf.g (ck_iv (by omega) (by omega)) ?_
              refine Sf.i (fun c_h480 => ?_) (fun c_h480 => ?_)
              · have h481 := eq_iv rfl li_4 c_h480
                try have h482 : (((S.1 63 31) + (5 : Int32))).toInt = ((S.1 63 31)).toInt + (5) := add_iv rfl li_5 (by omega) (by omega)
                refine Sf.w I_S F_S rfl (show ((0) : Int) ≤ (((S.1 63 31) + (5 : Int32))).toInt by omega) (show (((S.1 63 31) + (5 : Int32))).toInt ≤ (1100 : Int) by omega) (fun S_101 I_S_101 F_S_101 v_S_101 f_S_101 l_S_101 => ?_)
                have h483 := ti_eq (f_S_101 63 30 (fun _ e => absurd e (by decide)))
                have h484 := eq_iv rfl rfl v_S_101
                have h485 : (S_101.1 82 (((S.1 63 31)).toNatClampNeg)).toInt = (S.1 82 (((S.1 63 31)).toNatClampNeg)).toInt := ti_eq (f_S_101 82 (((S.1 63 31)).toNatClampNeg) (fun e => absurd e (by decide)))
                try have h486 : (((S.1 63 31) + (1 : Int32))).toInt = ((S.1 63 31)).toInt + (1) := add_iv rfl li_1 (by omega) (by omega)
                refine Sf.bp (s_fX12_four_82_1000 fu hfu ((S.1 63 31) + (1 : Int32)) S_101 I_S_101 (by omega) (by omega)) (fun r_109 p_r_109 => ?_)
                have h487 := i32 r_109
                have h488 := b_63_31 I_S_101
                have h489 := b_63_31 I_S
                have h490 := b_63_30 I_S_101
                have h491 := b_63_31 I_S_101
                have h492 := b_63_30 I_S_101
                exact Sf.so ⟨I_S_101, F_S_101, by omega⟩
              · have h493 := neq_iv rfl li_4 c_h480
                have h494 : ((4 : Int32)).toInt = 4 := li_4
                refine Sf.b (s_fX12_wrong fu hfu (4 : Int32) S I_S (by omega) (by omega)) (fun S_90 r_90 p_r_90 => ?_)
                obtain ⟨I_S_90, G_S_90, p_r_90⟩ := p_r_90
                have F_S_90 := Fr.tr F_S G_S_90 rfl
                have h495 := b_63_30 I_S_90
                have h496 := ti_eq (G_S_90 63 31 rfl)
                have h497 : (S_90.1 82 (((S.1 63 31)).toNatClampNeg)).toInt = (S.1 82 (((S.1 63 31)).toNatClampNeg)).toInt := ti_eq (G_S_90 82 (((S.1 63 31)).toNatClampNeg) rfl)
                have h498 : (S_90.1 82 (((S_90.1 63 31)).toNatClampNeg)).toInt = (S.1 82 (((S.1 63 31)).toNatClampNeg)).toInt := by rw [G_S_90 63 31 rfl]; exact ti_eq (G_S_90 82 (((S.1 63 31)).toNatClampNeg) rfl)
                have h499 := i32 r_90
                have h500 := b_63_31 I_S_90
                have h501 := b_63_31 I_S
                have h502 := b_63_30 I_S_90
                have h503 := b_63_31 I_S_90
                have h504 := b_63_30 I_S_90
                exact Sf.so ⟨I_S_90, F_S_90, by omega⟩
            · have h505 := neq_iv rfl li_16 c_h478
              refine Sf.i (fun c_h506 => ?_) (fun c_h506 => ?_)
              · have h507 := eq_iv rfl li_2 c_h506
                unfold fX12_readData_142
                try simp only [Nat.reduceAdd]
                have h508 := b_63_30 I_S
                refine Sf.b (s_fX12_readInner_82_1000 fu hfu x2 S I_S (by omega)) (fun S_145 r_145 p_r_145 => ?_)
                obtain ⟨I_S_145, G_S_145, p_r_145⟩ := p_r_145
                have F_S_145 := Fr.tr F_S G_S_145 rfl
                have h509 := b_63_31 I_S_145
                have h510 := b_63_30 I_S_145
                refine Sf.i (fun c_h511 => ?_) (fun c_h511 => ?_)
                · have h512 := eq_iv rfl li_0 c_h511
                  refine Sf.i (fun c_h513 => ?_) (fun c_h513 => ?_)
                  · have h514 := eq_iv rfl li_6 c_h513
                    refine Sf.b (s_fX12_readInner_82_1000 fu hfu x2 S_145 I_S_145 (by omega)) (fun S_166 r_166 p_r_166 => ?_)
                    obtain ⟨I_S_166, G_S_166, p_r_166⟩ := p_r_166
                    have F_S_166 := Fr.tr F_S_145 G_S_166 rfl
                    have h515 := b_63_31 I_S_166
                    have h516 := b_63_30 I_S_166
                    try have h517 : (((S_166.1 63 31) + (20 : Int32))).toInt = ((S_166.1 63 31)).toInt + (20) := add_iv rfl li_20 (by omega) (by omega)
                    refine Sf.w I_S_166 F_S_166 rfl (show ((0) : Int) ≤ (((S_166.1 63 31) + (20 : Int32))).toInt by omega) (show (((S_166.1 63 31) + (20 : Int32))).toInt ≤ (1100 : Int) by omega) (fun S_179 I_S_179 F_S_179 v_S_179 f_S_179 l_S_179 => ?_)
                    have h518 := ti_eq (f_S_179 63 30 (fun _ e => absurd e (by decide)))
                    have h519 := eq_iv rfl rfl v_S_179
                    unfold fX12_readData_182
                    try simp only [Nat.reduceAdd]
                    have h520 := b_63_30 I_S_179
                    refine Sf.i (fun c_h521 => ?_) (fun c_h521 => ?_)
                    · have h522 := le_iv rfl li_0 c_h521
                      have h523 := b_63_31 I_S_179
                      refine Sf.i (fun c_h524 => ?_) (fun c_h524 => ?_)
                      · have h525 := eq_iv rfl rfl c_h524
                        refine Sf.i (fun c_h526 => ?_) (fun c_h526 => ?_)
                        · have h527 := eq_iv rfl li_6 c_h526
                          try have h528 : (((S_179.1 63 31) - (4 : Int32))).toInt = ((S_179.1 63 31)).toInt - (4) := sub_iv rfl li_4 (by omega) (by omega)
                          refine Sf.bp (s_fX12_four_82_1000 fu hfu ((S_179.1 63 31) - (4 : Int32)) S_179 I_S_179 (by omega) (by omega)) (fun r_222 p_r_222 => ?_)
                          have h529 := i32 r_222
                          have h530 := b_63_31 I_S_179
                          have h531 := b_63_31 I_S
                          have h532 := b_63_30 I_S_179
                          have h533 := b_63_31 I_S_179
                          have h534 := b_63_30 I_S_179
                          exact Sf.so ⟨I_S_179, F_S_179, by omega⟩
                        · have h535 := neq_iv rfl li_6 c_h526
                          have h536 := i32 r_145
                          have h537 := b_63_31 I_S_179
                          have h538 := b_63_31 I_S
                          have h539 := b_63_30 I_S_179
                          have h540 := b_63_31 I_S_179
                          have h541 := b_63_30 I_S_179
                          exact Sf.so ⟨I_S_179, F_S_179, by omega⟩
                      · have h542 := neq_iv rfl rfl c_h524
                        have h543 : ((4 : Int32)).toInt = 4 := li_4
                        refine Sf.b (s_fX12_wrong fu hfu (4 : Int32) S_179 I_S_179 (by omega) (by omega)) (fun S_205 r_205 p_r_205 => ?_)
                        obtain ⟨I_S_205, G_S_205, p_r_205⟩ := p_r_205
                        have F_S_205 := Fr.tr F_S_179 G_S_205 rfl
                        have h544 := b_63_30 I_S_205
                        have h545 := ti_eq (G_S_205 63 31 rfl)
                        have h546 := i32 r_205
                        have h547 := b_63_31 I_S_205
                        have h548 := b_63_31 I_S
                        have h549 := b_63_30 I_S_205
                        have h550 := b_63_31 I_S_205
                        have h551 := b_63_30 I_S_205
                        exact Sf.so ⟨I_S_205, F_S_205, by omega⟩
                    · have h552 := nle_iv rfl li_0 c_h521
                      have h553 := b_63_31 I_S_179
                      have h554 := b_63_31 I_S
                      have h555 := b_63_30 I_S_179
                      have h556 := b_63_31 I_S_179
                      have h557 := b_63_30 I_S_179
                      have h558 : ((-1 : Int32)).toInt = -1 := li_m1
                      exact Sf.so ⟨I_S_179, F_S_179, by omega⟩
                  · have h559 := neq_iv rfl li_6 c_h513
                    unfold fX12_readData_182
                    try simp only [Nat.reduceAdd]
                    refine Sf.i (fun c_h560 => ?_) (fun c_h560 => ?_)
                    · have h561 := le_iv rfl li_0 c_h560
                      refine Sf.i (fun c_h562 => ?_) (fun c_h562 => ?_)
                      · have h563 := eq_iv rfl rfl c_h562
                        refine Sf.i (fun c_h564 => ?_) (fun c_h564 => ?_)
                        · have h565 := eq_iv rfl li_6 c_h564
                          try have h566 : (((S_145.1 63 31) - (4 : Int32))).toInt = ((S_145.1 63 31)).toInt - (4) := sub_iv rfl li_4 (by omega) (by omega)
                          refine Sf.bp (s_fX12_four_82_1000 fu hfu ((S_145.1 63 31) - (4 : Int32)) S_145 I_S_145 (by omega) (by omega)) (fun r_222 p_r_222 => ?_)
                          have h567 := i32 r_222
                          have h568 := b_63_31 I_S_145
                          have h569 := b_63_31 I_S
                          have h570 := b_63_30 I_S_145
                          have h571 := b_63_31 I_S_145
                          have h572 := b_63_30 I_S_145
                          exact Sf.so ⟨I_S_145, F_S_145, by omega⟩
                        · have h573 := neq_iv rfl li_6 c_h564
                          have h574 := i32 r_145
                          have h575 := b_63_31 I_S_145
                          have h576 := b_63_31 I_S
                          have h577 := b_63_30 I_S_145
                          have h578 := b_63_31 I_S_145
                          have h579 := b_63_30 I_S_145
                          exact Sf.so ⟨I_S_145, F_S_145, by omega⟩
                      · have h580 := neq_iv rfl rfl c_h562
                        have h581 : ((4 : Int32)).toInt = 4 := li_4
                        refine Sf.b (s_fX12_wrong fu hfu (4 : Int32) S_145 I_S_145 (by omega) (by omega)) (fun S_205 r_205 p_r_205 => ?_)
                        obtain ⟨I_S_205, G_S_205, p_r_205⟩ := p_r_205
                        have F_S_205 := Fr.tr F_S_145 G_S_205 rfl
                        have h582 := b_63_30 I_S_205
                        have h583 := ti_eq (G_S_205 63 31 rfl)
                        have h584 := i32 r_205
                        have h585 := b_63_31 I_S_205
                        have h586 := b_63_31 I_S
                        have h587 := b_63_30 I_S_205
                        have h588 := b_63_31 I_S_205
                        have h589 := b_63_30 I_S_205
                        exact Sf.so ⟨I_S_205, F_S_205, by omega⟩
                    · have h590 := nle_iv rfl li_0 c_h560
                      have h591 := b_63_31 I_S_145
                      have h592 := b_63_31 I_S
                      have h593 := b_63_30 I_S_145
                      have h594 := b_63_31 I_S_145
                      have h595 := b_63_30 I_S_145
                      have h596 : ((-1 : Int32)).toInt = -1 := li_m1
                      exact Sf.so ⟨I_S_145, F_S_145, by omega⟩
                · have h597 := neq_iv rfl li_0 c_h511
                  unfold fX12_readData_182
                  try simp only [Nat.reduceAdd]
                  refine Sf.i (fun c_h598 => ?_) (fun c_h598 => ?_)
                  · have h599 := le_iv rfl li_0 c_h598
                    refine Sf.i (fun c_h600 => ?_) (fun c_h600 => ?_)
                    · have h601 := eq_iv rfl rfl c_h600
                      refine Sf.i (fun c_h602 => ?_) (fun c_h602 => ?_)
                      · have h603 := eq_iv rfl li_6 c_h602
                        try have h604 : (((S_145.1 63 31) - (4 : Int32))).toInt = ((S_145.1 63 31)).toInt - (4) := sub_iv rfl li_4 (by omega) (by omega)
                        refine Sf.bp (s_fX12_four_82_1000 fu hfu ((S_145.1 63 31) - (4 : Int32)) S_145 I_S_145 (by omega) (by omega)) (fun r_222 p_r_222 => ?_)
                        have h605 := i32 r_222
                        have h606 := b_63_31 I_S_145
                        have h607 := b_63_31 I_S
                        have h608 := b_63_30 I_S_145
                        have h609 := b_63_31 I_S_145
                        have h610 := b_63_30 I_S_145
                        exact Sf.so ⟨I_S_145, F_S_145, by omega⟩
                      · have h611 := neq_iv rfl li_6 c_h602
                        have h612 := i32 r_145
                        have h613 := b_63_31 I_S_145
                        have h614 := b_63_31 I_S
                        have h615 := b_63_30 I_S_145
                        have h616 := b_63_31 I_S_145
                        have h617 := b_63_30 I_S_145
                        exact Sf.so ⟨I_S_145, F_S_145, by omega⟩
                    · have h618 := neq_iv rfl rfl c_h600
                      have h619 : ((4 : Int32)).toInt = 4 := li_4
                      refine Sf.b (s_fX12_wrong fu hfu (4 : Int32) S_145 I_S_145 (by omega) (by omega)) (fun S_205 r_205 p_r_205 => ?_)
                      obtain ⟨I_S_205, G_S_205, p_r_205⟩ := p_r_205
                      have F_S_205 := Fr.tr F_S_145 G_S_205 rfl
                      have h620 := b_63_30 I_S_205
                      have h621 := ti_eq (G_S_205 63 31 rfl)
                      have h622 := i32 r_205
                      have h623 := b_63_31 I_S_205
                      have h624 := b_63_31 I_S
                      have h625 := b_63_30 I_S_205
                      have h626 := b_63_31 I_S_205
                      have h627 := b_63_30 I_S_205
                      exact Sf.so ⟨I_S_205, F_S_205, by omega⟩
                  · have h628 := nle_iv rfl li_0 c_h598
                    have h629 := b_63_31 I_S_145
                    have h630 := b_63_31 I_S
                    have h631 := b_63_30 I_S_145
                    have h632 := b_63_31 I_S_145
                    have h633 := b_63_30 I_S_145
                    have h634 : ((-1 : Int32)).toInt = -1 := li_m1
                    exact Sf.so ⟨I_S_145, F_S_145, by omega⟩
              · have h635 := neq_iv rfl li_2 c_h506
                refine Sf.i (fun c_h636 => ?_) (fun c_h636 => ?_)
                · have h637 := eq_iv rfl li_5 c_h636
                  unfold fX12_readData_142
                  try simp only [Nat.reduceAdd]
                  have h638 := b_63_30 I_S
                  refine Sf.b (s_fX12_readInner_82_1000 fu hfu x2 S I_S (by omega)) (fun S_145 r_145 p_r_145 => ?_)
                  obtain ⟨I_S_145, G_S_145, p_r_145⟩ := p_r_145
                  have F_S_145 := Fr.tr F_S G_S_145 rfl
                  have h639 := b_63_31 I_S_145
                  have h640 := b_63_30 I_S_145
                  refine Sf.i (fun c_h641 => ?_) (fun c_h641 => ?_)
                  · have h642 := eq_iv rfl li_0 c_h641
                    refine Sf.i (fun c_h643 => ?_) (fun c_h643 => ?_)
                    · have h644 := eq_iv rfl li_6 c_h643
                      refine Sf.b (s_fX12_readInner_82_1000 fu hfu x2 S_145 I_S_145 (by omega)) (fun S_166 r_166 p_r_166 => ?_)
                      obtain ⟨I_S_166, G_S_166, p_r_166⟩ := p_r_166
                      have F_S_166 := Fr.tr F_S_145 G_S_166 rfl
                      have h645 := b_63_31 I_S_166
                      have h646 := b_63_30 I_S_166
                      try have h647 : (((S_166.1 63 31) + (20 : Int32))).toInt = ((S_166.1 63 31)).toInt + (20) := add_iv rfl li_20 (by omega) (by omega)
                      refine Sf.w I_S_166 F_S_166 rfl (show ((0) : Int) ≤ (((S_166.1 63 31) + (20 : Int32))).toInt by omega) (show (((S_166.1 63 31) + (20 : Int32))).toInt ≤ (1100 : Int) by omega) (fun S_179 I_S_179 F_S_179 v_S_179 f_S_179 l_S_179 => ?_)
                      have h648 := ti_eq (f_S_179 63 30 (fun _ e => absurd e (by decide)))
                      have h649 := eq_iv rfl rfl v_S_179
                      unfold fX12_readData_182
                      try simp only [Nat.reduceAdd]
                      have h650 := b_63_30 I_S_179
                      refine Sf.i (fun c_h651 => ?_) (fun c_h651 => ?_)
                      · have h652 := le_iv rfl li_0 c_h651
                        have h653 := b_63_31 I_S_179
                        refine Sf.i (fun c_h654 => ?_) (fun c_h654 => ?_)
                        · have h655 := eq_iv rfl rfl c_h654
                          refine Sf.i (fun c_h656 => ?_) (fun c_h656 => ?_)
                          · have h657 := eq_iv rfl li_6 c_h656
                            try have h658 : (((S_179.1 63 31) - (4 : Int32))).toInt = ((S_179.1 63 31)).toInt - (4) := sub_iv rfl li_4 (by omega) (by omega)
                            refine Sf.bp (s_fX12_four_82_1000 fu hfu ((S_179.1 63 31) - (4 : Int32)) S_179 I_S_179 (by omega) (by omega)) (fun r_222 p_r_222 => ?_)
                            have h659 := i32 r_222
                            have h660 := b_63_31 I_S_179
                            have h661 := b_63_31 I_S
                            have h662 := b_63_30 I_S_179
                            have h663 := b_63_31 I_S_179
                            have h664 := b_63_30 I_S_179
                            exact Sf.so ⟨I_S_179, F_S_179, by omega⟩
                          · have h665 := neq_iv rfl li_6 c_h656
                            have h666 := i32 r_145
                            have h667 := b_63_31 I_S_179
                            have h668 := b_63_31 I_S
                            have h669 := b_63_30 I_S_179
                            have h670 := b_63_31 I_S_179
                            have h671 := b_63_30 I_S_179
                            exact Sf.so ⟨I_S_179, F_S_179, by omega⟩
                        · have h672 := neq_iv rfl rfl c_h654
                          have h673 : ((4 : Int32)).toInt = 4 := li_4
                          refine Sf.b (s_fX12_wrong fu hfu (4 : Int32) S_179 I_S_179 (by omega) (by omega)) (fun S_205 r_205 p_r_205 => ?_)
                          obtain ⟨I_S_205, G_S_205, p_r_205⟩ := p_r_205
                          have F_S_205 := Fr.tr F_S_179 G_S_205 rfl
                          have h674 := b_63_30 I_S_205
                          have h675 := ti_eq (G_S_205 63 31 rfl)
                          have h676 := i32 r_205
                          have h677 := b_63_31 I_S_205
                          have h678 := b_63_31 I_S
                          have h679 := b_63_30 I_S_205
                          have h680 := b_63_31 I_S_205
                          have h681 := b_63_30 I_S_205
                          exact Sf.so ⟨I_S_205, F_S_205, by omega⟩
                      · have h682 := nle_iv rfl li_0 c_h651
                        have h683 := b_63_31 I_S_179
                        have h684 := b_63_31 I_S
                        have h685 := b_63_30 I_S_179
                        have h686 := b_63_31 I_S_179
                        have h687 := b_63_30 I_S_179
                        have h688 : ((-1 : Int32)).toInt = -1 := li_m1
                        exact Sf.so ⟨I_S_179, F_S_179, by omega⟩
                    · have h689 := neq_iv rfl li_6 c_h643
                      unfold fX12_readData_182
                      try simp only [Nat.reduceAdd]
                      refine Sf.i (fun c_h690 => ?_) (fun c_h690 => ?_)
                      · have h691 := le_iv rfl li_0 c_h690
                        refine Sf.i (fun c_h692 => ?_) (fun c_h692 => ?_)
                        · have h693 := eq_iv rfl rfl c_h692
                          refine Sf.i (fun c_h694 => ?_) (fun c_h694 => ?_)
                          · have h695 := eq_iv rfl li_6 c_h694
                            try have h696 : (((S_145.1 63 31) - (4 : Int32))).toInt = ((S_145.1 63 31)).toInt - (4) := sub_iv rfl li_4 (by omega) (by omega)
                            refine Sf.bp (s_fX12_four_82_1000 fu hfu ((S_145.1 63 31) - (4 : Int32)) S_145 I_S_145 (by omega) (by omega)) (fun r_222 p_r_222 => ?_)
                            have h697 := i32 r_222
                            have h698 := b_63_31 I_S_145
                            have h699 := b_63_31 I_S
                            have h700 := b_63_30 I_S_145
                            have h701 := b_63_31 I_S_145
                            have h702 := b_63_30 I_S_145
                            exact Sf.so ⟨I_S_145, F_S_145, by omega⟩
                          · have h703 := neq_iv rfl li_6 c_h694
                            have h704 := i32 r_145
                            have h705 := b_63_31 I_S_145
                            have h706 := b_63_31 I_S
                            have h707 := b_63_30 I_S_145
                            have h708 := b_63_31 I_S_145
                            have h709 := b_63_30 I_S_145
                            exact Sf.so ⟨I_S_145, F_S_145, by omega⟩
                        · have h710 := neq_iv rfl rfl c_h692
                          have h711 : ((4 : Int32)).toInt = 4 := li_4
                          refine Sf.b (s_fX12_wrong fu hfu (4 : Int32) S_145 I_S_145 (by omega) (by omega)) (fun S_205 r_205 p_r_205 => ?_)
                          obtain ⟨I_S_205, G_S_205, p_r_205⟩ := p_r_205
                          have F_S_205 := Fr.tr F_S_145 G_S_205 rfl
                          have h712 := b_63_30 I_S_205
                          have h713 := ti_eq (G_S_205 63 31 rfl)
                          have h714 := i32 r_205
                          have h715 := b_63_31 I_S_205
                          have h716 := b_63_31 I_S
                          have h717 := b_63_30 I_S_205
                          have h718 := b_63_31 I_S_205
                          have h719 := b_63_30 I_S_205
                          exact Sf.so ⟨I_S_205, F_S_205, by omega⟩
                      · have h720 := nle_iv rfl li_0 c_h690
                        have h721 := b_63_31 I_S_145
                        have h722 := b_63_31 I_S
                        have h723 := b_63_30 I_S_145
                        have h724 := b_63_31 I_S_145
                        have h725 := b_63_30 I_S_145
                        have h726 : ((-1 : Int32)).toInt = -1 := li_m1
                        exact Sf.so ⟨I_S_145, F_S_145, by omega⟩
                  · have h727 := neq_iv rfl li_0 c_h641
                    unfold fX12_readData_182
                    try simp only [Nat.reduceAdd]
                    refine Sf.i (fun c_h728 => ?_) (fun c_h728 => ?_)
                    · have h729 := le_iv rfl li_0 c_h728
                      refine Sf.i (fun c_h730 => ?_) (fun c_h730 => ?_)
                      · have h731 := eq_iv rfl rfl c_h730
                        refine Sf.i (fun c_h732 => ?_) (fun c_h732 => ?_)
                        · have h733 := eq_iv rfl li_6 c_h732
                          try have h734 : (((S_145.1 63 31) - (4 : Int32))).toInt = ((S_145.1 63 31)).toInt - (4) := sub_iv rfl li_4 (by omega) (by omega)
                          refine Sf.bp (s_fX12_four_82_1000 fu hfu ((S_145.1 63 31) - (4 : Int32)) S_145 I_S_145 (by omega) (by omega)) (fun r_222 p_r_222 => ?_)
                          have h735 := i32 r_222
                          have h736 := b_63_31 I_S_145
                          have h737 := b_63_31 I_S
                          have h738 := b_63_30 I_S_145
                          have h739 := b_63_31 I_S_145
                          have h740 := b_63_30 I_S_145
                          exact Sf.so ⟨I_S_145, F_S_145, by omega⟩
                        · have h741 := neq_iv rfl li_6 c_h732
                          have h742 := i32 r_145
                          have h743 := b_63_31 I_S_145
                          have h744 := b_63_31 I_S
                          have h745 := b_63_30 I_S_145
                          have h746 := b_63_31 I_S_145
                          have h747 := b_63_30 I_S_145
                          exact Sf.so ⟨I_S_145, F_S_145, by omega⟩
                      · have h748 := neq_iv rfl rfl c_h730
                        have h749 : ((4 : Int32)).toInt = 4 := li_4
                        refine Sf.b (s_fX12_wrong fu hfu (4 : Int32) S_145 I_S_145 (by omega) (by omega)) (fun S_205 r_205 p_r_205 => ?_)
                        obtain ⟨I_S_205, G_S_205, p_r_205⟩ := p_r_205
                        have F_S_205 := Fr.tr F_S_145 G_S_205 rfl
                        have h750 := b_63_30 I_S_205
                        have h751 := ti_eq (G_S_205 63 31 rfl)
                        have h752 := i32 r_205
                        have h753 := b_63_31 I_S_205
                        have h754 := b_63_31 I_S
                        have h755 := b_63_30 I_S_205
                        have h756 := b_63_31 I_S_205
                        have h757 := b_63_30 I_S_205
                        exact Sf.so ⟨I_S_205, F_S_205, by omega⟩
                    · have h758 := nle_iv rfl li_0 c_h728
                      have h759 := b_63_31 I_S_145
                      have h760 := b_63_31 I_S
                      have h761 := b_63_30 I_S_145
                      have h762 := b_63_31 I_S_145
                      have h763 := b_63_30 I_S_145
                      have h764 : ((-1 : Int32)).toInt = -1 := li_m1
                      exact Sf.so ⟨I_S_145, F_S_145, by omega⟩
                · have h765 := neq_iv rfl li_5 c_h636
                  refine Sf.i (fun c_h766 => ?_) (fun c_h766 => ?_)
                  · have h767 := eq_iv rfl li_6 c_h766
                    unfold fX12_readData_142
                    try simp only [Nat.reduceAdd]
                    have h768 := b_63_30 I_S
                    refine Sf.b (s_fX12_readInner_82_1000 fu hfu x2 S I_S (by omega)) (fun S_145 r_145 p_r_145 => ?_)
                    obtain ⟨I_S_145, G_S_145, p_r_145⟩ := p_r_145
                    have F_S_145 := Fr.tr F_S G_S_145 rfl
                    have h769 := b_63_31 I_S_145
                    have h770 := b_63_30 I_S_145
                    refine Sf.i (fun c_h771 => ?_) (fun c_h771 => ?_)
                    · have h772 := eq_iv rfl li_0 c_h771
                      refine Sf.i (fun c_h773 => ?_) (fun c_h773 => ?_)
                      · have h774 := eq_iv rfl li_6 c_h773
                        refine Sf.b (s_fX12_readInner_82_1000 fu hfu x2 S_145 I_S_145 (by omega)) (fun S_166 r_166 p_r_166 => ?_)
                        obtain ⟨I_S_166, G_S_166, p_r_166⟩ := p_r_166
                        have F_S_166 := Fr.tr F_S_145 G_S_166 rfl
                        have h775 := b_63_31 I_S_166
                        have h776 := b_63_30 I_S_166
                        try have h777 : (((S_166.1 63 31) + (20 : Int32))).toInt = ((S_166.1 63 31)).toInt + (20) := add_iv rfl li_20 (by omega) (by omega)
                        refine Sf.w I_S_166 F_S_166 rfl (show ((0) : Int) ≤ (((S_166.1 63 31) + (20 : Int32))).toInt by omega) (show (((S_166.1 63 31) + (20 : Int32))).toInt ≤ (1100 : Int) by omega) (fun S_179 I_S_179 F_S_179 v_S_179 f_S_179 l_S_179 => ?_)
                        have h778 := ti_eq (f_S_179 63 30 (fun _ e => absurd e (by decide)))
                        have h779 := eq_iv rfl rfl v_S_179
                        unfold fX12_readData_182
                        try simp only [Nat.reduceAdd]
                        have h780 := b_63_30 I_S_179
                        refine Sf.i (fun c_h781 => ?_) (fun c_h781 => ?_)
                        · have h782 := le_iv rfl li_0 c_h781
                          have h783 := b_63_31 I_S_179
                          refine Sf.i (fun c_h784 => ?_) (fun c_h784 => ?_)
                          · have h785 := eq_iv rfl rfl c_h784
                            refine Sf.i (fun c_h786 => ?_) (fun c_h786 => ?_)
                            · have h787 := eq_iv rfl li_6 c_h786
                              try have h788 : (((S_179.1 63 31) - (4 : Int32))).toInt = ((S_179.1 63 31)).toInt - (4) := sub_iv rfl li_4 (by omega) (by omega)
                              refine Sf.bp (s_fX12_four_82_1000 fu hfu ((S_179.1 63 31) - (4 : Int32)) S_179 I_S_179 (by omega) (by omega)) (fun r_222 p_r_222 => ?_)
                              have h789 := i32 r_222
                              have h790 := b_63_31 I_S_179
                              have h791 := b_63_31 I_S
                              have h792 := b_63_30 I_S_179
                              have h793 := b_63_31 I_S_179
                              have h794 := b_63_30 I_S_179
                              exact Sf.so ⟨I_S_179, F_S_179, by omega⟩
                            · have h795 := neq_iv rfl li_6 c_h786
                              have h796 := i32 r_145
                              have h797 := b_63_31 I_S_179
                              have h798 := b_63_31 I_S
                              have h799 := b_63_30 I_S_179
                              have h800 := b_63_31 I_S_179
                              have h801 := b_63_30 I_S_179
                              exact Sf.so ⟨I_S_179, F_S_179, by omega⟩
                          · have h802 := neq_iv rfl rfl c_h784
                            have h803 : ((4 : Int32)).toInt = 4 := li_4
                            refine Sf.b (s_fX12_wrong fu hfu (4 : Int32) S_179 I_S_179 (by omega) (by omega)) (fun S_205 r_205 p_r_205 => ?_)
                            obtain ⟨I_S_205, G_S_205, p_r_205⟩ := p_r_205
                            have F_S_205 := Fr.tr F_S_179 G_S_205 rfl
                            have h804 := b_63_30 I_S_205
                            have h805 := ti_eq (G_S_205 63 31 rfl)
                            have h806 := i32 r_205
                            have h807 := b_63_31 I_S_205
                            have h808 := b_63_31 I_S
                            have h809 := b_63_30 I_S_205
                            have h810 := b_63_31 I_S_205
                            have h811 := b_63_30 I_S_205
                            exact Sf.so ⟨I_S_205, F_S_205, by omega⟩
                        · have h812 := nle_iv rfl li_0 c_h781
                          have h813 := b_63_31 I_S_179
                          have h814 := b_63_31 I_S
                          have h815 := b_63_30 I_S_179
                          have h816 := b_63_31 I_S_179
                          have h817 := b_63_30 I_S_179
                          have h818 : ((-1 : Int32)).toInt = -1 := li_m1
                          exact Sf.so ⟨I_S_179, F_S_179, by omega⟩
                      · have h819 := neq_iv rfl li_6 c_h773
                        unfold fX12_readData_182
                        try simp only [Nat.reduceAdd]
                        refine Sf.i (fun c_h820 => ?_) (fun c_h820 => ?_)
                        · have h821 := le_iv rfl li_0 c_h820
                          refine Sf.i (fun c_h822 => ?_) (fun c_h822 => ?_)
                          · have h823 := eq_iv rfl rfl c_h822
                            refine Sf.i (fun c_h824 => ?_) (fun c_h824 => ?_)
                            · have h825 := eq_iv rfl li_6 c_h824
                              try have h826 : (((S_145.1 63 31) - (4 : Int32))).toInt = ((S_145.1 63 31)).toInt - (4) := sub_iv rfl li_4 (by omega) (by omega)
                              refine Sf.bp (s_fX12_four_82_1000 fu hfu ((S_145.1 63 31) - (4 : Int32)) S_145 I_S_145 (by omega) (by omega)) (fun r_222 p_r_222 => ?_)
                              have h827 := i32 r_222
                              have h828 := b_63_31 I_S_145
                              have h829 := b_63_31 I_S
                              have h830 := b_63_30 I_S_145
                              have h831 := b_63_31 I_S_145
                              have h832 := b_63_30 I_S_145
                              exact Sf.so ⟨I_S_145, F_S_145, by omega⟩
                            · have h833 := neq_iv rfl li_6 c_h824
                              have h834 := i32 r_145
                              have h835 := b_63_31 I_S_145
                              have h836 := b_63_31 I_S
                              have h837 := b_63_30 I_S_145
                              have h838 := b_63_31 I_S_145
                              have h839 := b_63_30 I_S_145
                              exact Sf.so ⟨I_S_145, F_S_145, by omega⟩
                          · have h840 := neq_iv rfl rfl c_h822
                            have h841 : ((4 : Int32)).toInt = 4 := li_4
                            refine Sf.b (s_fX12_wrong fu hfu (4 : Int32) S_145 I_S_145 (by omega) (by omega)) (fun S_205 r_205 p_r_205 => ?_)
                            obtain ⟨I_S_205, G_S_205, p_r_205⟩ := p_r_205
                            have F_S_205 := Fr.tr F_S_145 G_S_205 rfl
                            have h842 := b_63_30 I_S_205
                            have h843 := ti_eq (G_S_205 63 31 rfl)
                            have h844 := i32 r_205
                            have h845 := b_63_31 I_S_205
                            have h846 := b_63_31 I_S
                            have h847 := b_63_30 I_S_205
                            have h848 := b_63_31 I_S_205
                            have h849 := b_63_30 I_S_205
                            exact Sf.so ⟨I_S_205, F_S_205, by omega⟩
                        · have h850 := nle_iv rfl li_0 c_h820
                          have h851 := b_63_31 I_S_145
                          have h852 := b_63_31 I_S
                          have h853 := b_63_30 I_S_145
                          have h854 := b_63_31 I_S_145
                          have h855 := b_63_30 I_S_145
                          have h856 : ((-1 : Int32)).toInt = -1 := li_m1
                          exact Sf.so ⟨I_S_145, F_S_145, by omega⟩
                    · have h857 := neq_iv rfl li_0 c_h771
                      unfold fX12_readData_182
                      try simp only [Nat.reduceAdd]
                      refine Sf.i (fun c_h858 => ?_) (fun c_h858 => ?_)
                      · have h859 := le_iv rfl li_0 c_h858
                        refine Sf.i (fun c_h860 => ?_) (fun c_h860 => ?_)
                        · have h861 := eq_iv rfl rfl c_h860
                          refine Sf.i (fun c_h862 => ?_) (fun c_h862 => ?_)
                          · have h863 := eq_iv rfl li_6 c_h862
                            try have h864 : (((S_145.1 63 31) - (4 : Int32))).toInt = ((S_145.1 63 31)).toInt - (4) := sub_iv rfl li_4 (by omega) (by omega)
                            refine Sf.bp (s_fX12_four_82_1000 fu hfu ((S_145.1 63 31) - (4 : Int32)) S_145 I_S_145 (by omega) (by omega)) (fun r_222 p_r_222 => ?_)
                            have h865 := i32 r_222
                            have h866 := b_63_31 I_S_145
                            have h867 := b_63_31 I_S
                            have h868 := b_63_30 I_S_145
                            have h869 := b_63_31 I_S_145
                            have h870 := b_63_30 I_S_145
                            exact Sf.so ⟨I_S_145, F_S_145, by omega⟩
                          · have h871 := neq_iv rfl li_6 c_h862
                            have h872 := i32 r_145
                            have h873 := b_63_31 I_S_145
                            have h874 := b_63_31 I_S
                            have h875 := b_63_30 I_S_145
                            have h876 := b_63_31 I_S_145
                            have h877 := b_63_30 I_S_145
                            exact Sf.so ⟨I_S_145, F_S_145, by omega⟩
                        · have h878 := neq_iv rfl rfl c_h860
                          have h879 : ((4 : Int32)).toInt = 4 := li_4
                          refine Sf.b (s_fX12_wrong fu hfu (4 : Int32) S_145 I_S_145 (by omega) (by omega)) (fun S_205 r_205 p_r_205 => ?_)
                          obtain ⟨I_S_205, G_S_205, p_r_205⟩ := p_r_205
                          have F_S_205 := Fr.tr F_S_145 G_S_205 rfl
                          have h880 := b_63_30 I_S_205
                          have h881 := ti_eq (G_S_205 63 31 rfl)
                          have h882 := i32 r_205
                          have h883 := b_63_31 I_S_205
                          have h884 := b_63_31 I_S
                          have h885 := b_63_30 I_S_205
                          have h886 := b_63_31 I_S_205
                          have h887 := b_63_30 I_S_205
                          exact Sf.so ⟨I_S_205, F_S_205, by omega⟩
                      · have h888 := nle_iv rfl li_0 c_h858
                        have h889 := b_63_31 I_S_145
                        have h890 := b_63_31 I_S
                        have h891 := b_63_30 I_S_145
                        have h892 := b_63_31 I_S_145
                        have h893 := b_63_30 I_S_145
                        have h894 : ((-1 : Int32)).toInt = -1 := li_m1
                        exact Sf.so ⟨I_S_145, F_S_145, by omega⟩
                  · have h895 := neq_iv rfl li_6 c_h766
                    refine Sf.w I_S F_S rfl (show ((0) : Int) ≤ (((S.1 63 31) + x4)).toInt by omega) (show (((S.1 63 31) + x4)).toInt ≤ (1100 : Int) by omega) (fun S_137 I_S_137 F_S_137 v_S_137 f_S_137 l_S_137 => ?_)
                    have h896 := ti_eq (f_S_137 63 30 (fun _ e => absurd e (by decide)))
                    have h897 := eq_iv rfl rfl v_S_137
                    have h898 := b_63_31 I_S_137
                    have h899 := b_63_31 I_S
                    have h900 := b_63_30 I_S_137
                    have h901 := b_63_31 I_S_137
                    have h902 := b_63_30 I_S_137
                    have h903 : ((0 : Int32)).toInt = 0 := li_0
                    exact Sf.so ⟨I_S_137, F_S_137, by omega⟩
      · have h904 := neq_iv rfl li_4 c_h11
        unfold fX12_readData_46
        try simp only [Nat.reduceAdd]
        have h905 : ((4 : Int32)).toInt = 4 := li_4
        refine Sf.b (s_fX12_wrong fu hfu (4 : Int32) S I_S (by omega) (by omega)) (fun S_48 r_48 p_r_48 => ?_)
        obtain ⟨I_S_48, G_S_48, p_r_48⟩ := p_r_48
        have F_S_48 := Fr.tr F_S G_S_48 rfl
        have h906 := b_63_30 I_S_48
        have h907 := ti_eq (G_S_48 63 31 rfl)
        have h908 := i32 r_48
        have h909 := b_63_31 I_S_48
        have h910 := b_63_31 I_S
        have h911 := b_63_30 I_S_48
        have h912 := b_63_31 I_S_48
        have h913 := b_63_30 I_S_48
        exact Sf.so ⟨I_S_48, F_S_48, by omega⟩
    · have h914 := neq_iv rfl li_1 c_h9
      unfold fX12_readData_34
      try simp only [Nat.reduceAdd]
      refine Sf.i (fun c_h915 => ?_) (fun c_h915 => ?_)
      · have h916 := eq_iv rfl li_16 c_h915
        refine Sf.i (fun c_h917 => ?_) (fun c_h917 => ?_)
        · have h918 := eq_iv rfl li_5 c_h917
          unfold fX12_readData_52
          try simp only [Nat.reduceAdd]
          refine Sf.i (fun c_h919 => ?_) (fun c_h919 => ?_)
          · have h920 := eq_iv rfl li_1 c_h919
            try have h921 : (((S.1 63 31) + (4 : Int32))).toInt = ((S.1 63 31)).toInt + (4) := add_iv rfl li_4 (by omega) (by omega)
            refine Sf.w I_S F_S rfl (show ((0) : Int) ≤ (((S.1 63 31) + (4 : Int32))).toInt by omega) (show (((S.1 63 31) + (4 : Int32))).toInt ≤ (1100 : Int) by omega) (fun S_64 I_S_64 F_S_64 v_S_64 f_S_64 l_S_64 => ?_)
            have h922 := ti_eq (f_S_64 63 30 (fun _ e => absurd e (by decide)))
            have h923 := eq_iv rfl rfl v_S_64
            refine Sf.bp (s_fX12_four_82_1000 fu hfu (S.1 63 31) S_64 I_S_64 (by omega) (by omega)) (fun r_70 p_r_70 => ?_)
            have h924 := i32 r_70
            have h925 := b_63_31 I_S_64
            have h926 := b_63_31 I_S
            have h927 := b_63_30 I_S_64
            have h928 := b_63_31 I_S_64
            have h929 := b_63_30 I_S_64
            exact Sf.so ⟨I_S_64, F_S_64, by omega⟩
          · have h930 := neq_iv rfl li_1 c_h919
            refine Sf.i (fun c_h931 => ?_) (fun c_h931 => ?_)
            · have h932 := eq_iv rfl li_16 c_h931
              refine Sf.g (ck_iv (by omega) (by omega)) ?_
              refine Sf.i (fun c_h933 => ?_) (fun c_h933 => ?_)
              · have h934 := eq_iv rfl li_4 c_h933
                try have h935 : (((S.1 63 31) + (5 : Int32))).toInt = ((S.1 63 31)).toInt + (5) := add_iv rfl li_5 (by omega) (by omega)
                refine Sf.w I_S F_S rfl (show ((0) : Int) ≤ (((S.1 63 31) + (5 : Int32))).toInt by omega) (show (((S.1 63 31) + (5 : Int32))).toInt ≤ (1100 : Int) by omega) (fun S_101 I_S_101 F_S_101 v_S_101 f_S_101 l_S_101 => ?_)
                have h936 := ti_eq (f_S_101 63 30 (fun _ e => absurd e (by decide)))
                have h937 := eq_iv rfl rfl v_S_101
                have h938 : (S_101.1 82 (((S.1 63 31)).toNatClampNeg)).toInt = (S.1 82 (((S.1 63 31)).toNatClampNeg)).toInt := ti_eq (f_S_101 82 (((S.1 63 31)).toNatClampNeg) (fun e => absurd e (by decide)))
                try have h939 : (((S.1 63 31) + (1 : Int32))).toInt = ((S.1 63 31)).toInt + (1) := add_iv rfl li_1 (by omega) (by omega)
                refine Sf.bp (s_fX12_four_82_1000 fu hfu ((S.1 63 31) + (1 : Int32)) S_101 I_S_101 (by omega) (by omega)) (fun r_109 p_r_109 => ?_)
                have h940 := i32 r_109
                have h941 := b_63_31 I_S_101
                have h942 := b_63_31 I_S
                have h943 := b_63_30 I_S_101
                have h944 := b_63_31 I_S_101
                have h945 := b_63_30 I_S_101
                exact Sf.so ⟨I_S_101, F_S_101, by omega⟩
              · have h946 := neq_iv rfl li_4 c_h933
                have h947 : ((4 : Int32)).toInt = 4 := li_4
                refine Sf.b (s_fX12_wrong fu hfu (4 : Int32) S I_S (by omega) (by omega)) (fun S_90 r_90 p_r_90 => ?_)
                obtain ⟨I_S_90, G_S_90, p_r_90⟩ := p_r_90
                have F_S_90 := Fr.tr F_S G_S_90 rfl
                have h948 := b_63_30 I_S_90
                have h949 := ti_eq (G_S_90 63 31 rfl)
                have h950 : (S_90.1 82 (((S.1 63 31)).toNatClampNeg)).toInt = (S.1 82 (((S.1 63 31)).toNatClampNeg)).toInt := ti_eq (G_S_90 82 (((S.1 63 31)).toNatClampNeg) rfl)
                have h951 : (S_90.1 82 (((S_90.1 63 31)).toNatClampNeg)).toInt = (S.1 82 (((S.1 63 31)).toNatClampNeg)).toInt := by rw [G_S_90 63 31 rfl]; exact ti_eq (G_S_90 82 (((S.1 63 31)).toNatClampNeg) rfl)
                have h952 := i32 r_90
                have h953 := b_63_31 I_S_90
                have h954 := b_63_31 I_S
                have h955 := b_63_30 I_S_90
                have h956 := b_63_31 I_S_90
                have h957 := b_63_30 I_S_90
                exact Sf.so ⟨I_S_90, F_S_90, by omega⟩
            · have h958 := neq_iv rfl li_16 c_h931
              refine Sf.i (fun c_h959 => ?_) (fun c_h959 => ?_)
              · have h960 := eq_iv rfl li_2 c_h959
                unfold fX12_readData_142
                try simp only [Nat.reduceAdd]
                have h961 := b_63_30 I_S
                refine Sf.b (s_fX12_readInner_82_1000 fu hfu x2 S I_S (by omega)) (fun S_145 r_145 p_r_145 => ?_)
                obtain ⟨I_S_145, G_S_145, p_r_145⟩ := p_r_145
                have F_S_145 := Fr.tr F_S G_S_145 rfl
                have h962 := b_63_31 I_S_145
                have h963 := b_63_30 I_S_145
                refine Sf.i (fun c_h964 => ?_) (fun c_h964 => ?_)
                · have h965 := eq_iv rfl li_0 c_h964
                  refine Sf.i (fun c_h966 => ?_) (fun c_h966 => ?_)
                  · have h967 := eq_iv rfl li_6 c_h966
                    refine Sf.b (s_fX12_readInner_82_1000 fu hfu x2 S_145 I_S_145 (by omega)) (fun S_166 r_166 p_r_166 => ?_)
                    obtain ⟨I_S_166, G_S_166, p_r_166⟩ := p_r_166
                    have F_S_166 := Fr.tr F_S_145 G_S_166 rfl
                    have h968 := b_63_31 I_S_166
                    have h969 := b_63_30 I_S_166
                    try have h970 : (((S_166.1 63 31) + (20 : Int32))).toInt = ((S_166.1 63 31)).toInt + (20) := add_iv rfl li_20 (by omega) (by omega)
                    refine Sf.w I_S_166 F_S_166 rfl (show ((0) : Int) ≤ (((S_166.1 63 31) + (20 : Int32))).toInt by omega) (show (((S_166.1 63 31) + (20 : Int32))).toInt ≤ (1100 : Int) by omega) (fun S_179 I_S_179 F_S_179 v_S_179 f_S_179 l_S_179 => ?_)
                    have h971 := ti_eq (f_S_179 63 30 (fun _ e => absurd e (by decide)))
                    have h972 := eq_iv rfl rfl v_S_179
                    unfold fX12_readData_182
                    try simp only [Nat.reduceAdd]
                    have h973 := b_63_30 I_S_179
                    refine Sf.i (fun c_h974 => ?_) (fun c_h974 => ?_)
                    · have h975 := le_iv rfl li_0 c_h974
                      have h976 := b_63_31 I_S_179
                      refine Sf.i (fun c_h977 => ?_) (fun c_h977 => ?_)
                      · have h978 := eq_iv rfl rfl c_h977
                        refine Sf.i (fun c_h979 => ?_) (fun c_h979 => ?_)
                        · have h980 := eq_iv rfl li_6 c_h979
                          try have h981 : (((S_179.1 63 31) - (4 : Int32))).toInt = ((S_179.1 63 31)).toInt - (4) := sub_iv rfl li_4 (by omega) (by omega)
                          refine Sf.bp (s_fX12_four_82_1000 fu hfu ((S_179.1 63 31) - (4 : Int32)) S_179 I_S_179 (by omega) (by omega)) (fun r_222 p_r_222 => ?_)
                          have h982 := i32 r_222
                          have h983 := b_63_31 I_S_179
                          have h984 := b_63_31 I_S
                          have h985 := b_63_30 I_S_179
                          have h986 := b_63_31 I_S_179
                          have h987 := b_63_30 I_S_179
                          exact Sf.so ⟨I_S_179, F_S_179, by omega⟩
                        · have h988 := neq_iv rfl li_6 c_h979
                          have h989 := i32 r_145
                          have h990 := b_63_31 I_S_179
                          have h991 := b_63_31 I_S
                          have h992 := b_63_30 I_S_179
                          have h993 := b_63_31 I_S_179
                          have h994 := b_63_30 I_S_179
                          exact Sf.so ⟨I_S_179, F_S_179, by omega⟩
                      · have h995 := neq_iv rfl rfl c_h977
                        have h996 : ((4 : Int32)).toInt = 4 := li_4
                        refine Sf.b (s_fX12_wrong fu hfu (4 : Int32) S_179 I_S_179 (by omega) (by omega)) (fun S_205 r_205 p_r_205 => ?_)
                        obtain ⟨I_S_205, G_S_205, p_r_205⟩ := p_r_205
                        have F_S_205 := Fr.tr F_S_179 G_S_205 rfl
                        have h997 := b_63_30 I_S_205
                        have h998 := ti_eq (G_S_205 63 31 rfl)
                        have h999 := i32 r_205
                        have h1000 := b_63_31 I_S_205
                        have h1001 := b_63_31 I_S
                        have h1002 := b_63_30 I_S_205
                        have h1003 := b_63_31 I_S_205
                        have h1004 := b_63_30 I_S_205
                        exact Sf.so ⟨I_S_205, F_S_205, by omega⟩
                    · have h1005 := nle_iv rfl li_0 c_h974
                      have h1006 := b_63_31 I_S_179
                      have h1007 := b_63_31 I_S
                      have h1008 := b_63_30 I_S_179
                      have h1009 := b_63_31 I_S_179
                      have h1010 := b_63_30 I_S_179
                      have h1011 : ((-1 : Int32)).toInt = -1 := li_m1
                      exact Sf.so ⟨I_S_179, F_S_179, by omega⟩
                  · have h1012 := neq_iv rfl li_6 c_h966
                    unfold fX12_readData_182
                    try simp only [Nat.reduceAdd]
                    refine Sf.i (fun c_h1013 => ?_) (fun c_h1013 => ?_)
                    · have h1014 := le_iv rfl li_0 c_h1013
                      refine Sf.i (fun c_h1015 => ?_) (fun c_h1015 => ?_)
                      · have h1016 := eq_iv rfl rfl c_h1015
                        refine Sf.i (fun c_h1017 => ?_) (fun c_h1017 => ?_)
                        · have h1018 := eq_iv rfl li_6 c_h1017
                          try have h1019 : (((S_145.1 63 31) - (4 : Int32))).toInt = ((S_145.1 63 31)).toInt - (4) := sub_iv rfl li_4 (by omega) (by omega)
                          refine Sf.bp (s_fX12_four_82_1000 fu hfu ((S_145.1 63 31) - (4 : Int32)) S_145 I_S_145 (by omega) (by omega)) (fun r_222 p_r_222 => ?_)
                          have h1020 := i32 r_222
                          have h1021 := b_63_31 I_S_145
                          have h1022 := b_63_31 I_S
                          have h1023 := b_63_30 I_S_145
                          have h1024 := b_63_31 I_S_145
                          have h1025 := b_63_30 I_S_145
                          exact Sf.so ⟨I_S_145, F_S_145, by omega⟩
                        · have h1026 := neq_iv rfl li_6 c_h1017
                          have h1027 := i32 r_145
                          have h1028 := b_63_31 I_S_145
                          have h1029 := b_63_31 I_S
                          have h1030 := b_63_30 I_S_145
                          have h1031 := b_63_31 I_S_145
                          have h1032 := b_63_30 I_S_145
                          exact Sf.so ⟨I_S_145, F_S_145, by omega⟩
                      · have h1033 := neq_iv rfl rfl c_h1015
                        have h1034 : ((4 : Int32)).toInt = 4 := li_4
                        refine Sf.b (s_fX12_wrong fu hfu (4 : Int32) S_145 I_S_145 (by omega) (by omega)) (fun S_205 r_205 p_r_205 => ?_)
                        obtain ⟨I_S_205, G_S_205, p_r_205⟩ := p_r_205
                        have F_S_205 := Fr.tr F_S_145 G_S_205 rfl
                        have h1035 := b_63_30 I_S_205
                        have h1036 := ti_eq (G_S_205 63 31 rfl)
                        have h1037 := i32 r_205
                        have h1038 := b_63_31 I_S_205
                        have h1039 := b_63_31 I_S
                        have h1040 := b_63_30 I_S_205
                        have h1041 := b_63_31 I_S_205
                        have h1042 := b_63_30 I_S_205
                        exact Sf.so ⟨I_S_205, F_S_205, by omega⟩
                    · have h1043 := nle_iv rfl li_0 c_h1013
                      have h1044 := b_63_31 I_S_145
                      have h1045 := b_63_31 I_S
                      have h1046 := b_63_30 I_S_145
                      have h1047 := b_63_31 I_S_145
                      have h1048 := b_63_30 I_S_145
                      have h1049 : ((-1 : Int32)).toInt = -1 := li_m1
                      exact Sf.so ⟨I_S_145, F_S_145, by omega⟩
                · have h1050 := neq_iv rfl li_0 c_h964
                  unfold fX12_readData_182
                  try simp only [Nat.reduceAdd]
                  refine Sf.i (fun c_h1051 => ?_) (fun c_h1051 => ?_)
                  · have h1052 := le_iv rfl li_0 c_h1051
                    refine Sf.i (fun c_h1053 => ?_) (fun c_h1053 => ?_)
                    · have h1054 := eq_iv rfl rfl c_h1053
                      refine Sf.i (fun c_h1055 => ?_) (fun c_h1055 => ?_)
                      · have h1056 := eq_iv rfl li_6 c_h1055
                        try have h1057 : (((S_145.1 63 31) - (4 : Int32))).toInt = ((S_145.1 63 31)).toInt - (4) := sub_iv rfl li_4 (by omega) (by omega)
                        refine Sf.bp (s_fX12_four_82_1000 fu hfu ((S_145.1 63 31) - (4 : Int32)) S_145 I_S_145 (by omega) (by omega)) (fun r_222 p_r_222 => ?_)
                        have h1058 := i32 r_222
                        have h1059 := b_63_31 I_S_145
                        have h1060 := b_63_31 I_S
                        have h1061 := b_63_30 I_S_145
                        have h1062 := b_63_31 I_S_145
                        have h1063 := b_63_30 I_S_145
                        exact Sf.so ⟨I_S_145, F_S_145, by omega⟩
                      · have h1064 := neq_iv rfl li_6 c_h1055
                        have h1065 := i32 r_145
                        have h1066 := b_63_31 I_S_145
                        have h1067 := b_63_31 I_S
                        have h1068 := b_63_30 I_S_145
                        have h1069 := b_63_31 I_S_145
                        have h1070 := b_63_30 I_S_145
                        exact Sf.so ⟨I_S_145, F_S_145, by omega⟩
                    · have h1071 := neq_iv rfl rfl c_h1053
                      have h1072 : ((4 : Int32)).toInt = 4 := li_4
                      refine Sf.b (s_fX12_wrong fu hfu (4 : Int32) S_145 I_S_145 (by omega) (by omega)) (fun S_205 r_205 p_r_205 => ?_)
                      obtain ⟨I_S_205, G_S_205, p_r_205⟩ := p_r_205
                      have F_S_205 := Fr.tr F_S_145 G_S_205 rfl
                      have h1073 := b_63_30 I_S_205
                      have h1074 := ti_eq (G_S_205 63 31 rfl)
                      have h1075 := i32 r_205
                      have h1076 := b_63_31 I_S_205
                      have h1077 := b_63_31 I_S
                      have h1078 := b_63_30 I_S_205
                      have h1079 := b_63_31 I_S_205
                      have h1080 := b_63_30 I_S_205
                      exact Sf.so ⟨I_S_205, F_S_205, by omega⟩
                  · have h1081 := nle_iv rfl li_0 c_h1051
                    have h1082 := b_63_31 I_S_145
                    have h1083 := b_63_31 I_S
                    have h1084 := b_63_30 I_S_145
                    have h1085 := b_63_31 I_S_145
                    have h1086 := b_63_30 I_S_145
                    have h1087 : ((-1 : Int32)).toInt = -1 := li_m1
                    exact Sf.so ⟨I_S_145, F_S_145, by omega⟩
              · have h1088 := neq_iv rfl li_2 c_h959
                refine Sf.i (fun c_h1089 => ?_) (fun c_h1089 => ?_)
                · have h1090 := eq_iv rfl li_5 c_h1089
                  unfold fX12_readData_142
                  try simp only [Nat.reduceAdd]
                  have h1091 := b_63_30 I_S
                  refine Sf.b (s_fX12_readInner_82_1000 fu hfu x2 S I_S (by omega)) (fun S_145 r_145 p_r_145 => ?_)
                  obtain ⟨I_S_145, G_S_145, p_r_145⟩ := p_r_145
                  have F_S_145 := Fr.tr F_S G_S_145 rfl
                  have h1092 := b_63_31 I_S_145
                  have h1093 := b_63_30 I_S_145
                  refine Sf.i (fun c_h1094 => ?_) (fun c_h1094 => ?_)
                  · have h1095 := eq_iv rfl li_0 c_h1094
                    refine Sf.i (fun c_h1096 => ?_) (fun c_h1096 => ?_)
                    · have h1097 := eq_iv rfl li_6 c_h1096
                      refine Sf.b (s_fX12_readInner_82_1000 fu hfu x2 S_145 I_S_145 (by omega)) (fun S_166 r_166 p_r_166 => ?_)
                      obtain ⟨I_S_166, G_S_166, p_r_166⟩ := p_r_166
                      have F_S_166 := Fr.tr F_S_145 G_S_166 rfl
                      have h1098 := b_63_31 I_S_166
                      have h1099 := b_63_30 I_S_166
                      try have h1100 : (((S_166.1 63 31) + (20 : Int32))).toInt = ((S_166.1 63 31)).toInt + (20) := add_iv rfl li_20 (by omega) (by omega)
                      refine Sf.w I_S_166 F_S_166 rfl (show ((0) : Int) ≤ (((S_166.1 63 31) + (20 : Int32))).toInt by omega) (show (((S_166.1 63 31) + (20 : Int32))).toInt ≤ (1100 : Int) by omega) (fun S_179 I_S_179 F_S_179 v_S_179 f_S_179 l_S_179 => ?_)
                      have h1101 := ti_eq (f_S_179 63 30 (fun _ e => absurd e (by decide)))
                      have h1102 := eq_iv rfl rfl v_S_179
                      unfold fX12_readData_182
                      try simp only [Nat.reduceAdd]
                      have h1103 := b_63_30 I_S_179
                      refine Sf.i (fun c_h1104 => ?_) (fun c_h1104 => ?_)
                      · have h1105 := le_iv rfl li_0 c_h1104
                        have h1106 := b_63_31 I_S_179
                        refine Sf.i (fun c_h1107 => ?_) (fun c_h1107 => ?_)
                        · have h1108 := eq_iv rfl rfl c_h1107
                          refine Sf.i (fun c_h1109 => ?_) (fun c_h1109 => ?_)
                          · have h1110 := eq_iv rfl li_6 c_h1109
                            try have h1111 : (((S_179.1 63 31) - (4 : Int32))).toInt = ((S_179.1 63 31)).toInt - (4) := sub_iv rfl li_4 (by omega) (by omega)
                            refine Sf.bp (s_fX12_four_82_1000 fu hfu ((S_179.1 63 31) - (4 : Int32)) S_179 I_S_179 (by omega) (by omega)) (fun r_222 p_r_222 => ?_)
                            have h1112 := i32 r_222
                            have h1113 := b_63_31 I_S_179
                            have h1114 := b_63_31 I_S
                            have h1115 := b_63_30 I_S_179
                            have h1116 := b_63_31 I_S_179
                            have h1117 := b_63_30 I_S_179
                            exact Sf.so ⟨I_S_179, F_S_179, by omega⟩
                          · have h1118 := neq_iv rfl li_6 c_h1109
                            have h1119 := i32 r_145
                            have h1120 := b_63_31 I_S_179
                            have h1121 := b_63_31 I_S
                            have h1122 := b_63_30 I_S_179
                            have h1123 := b_63_31 I_S_179
                            have h1124 := b_63_30 I_S_179
                            exact Sf.so ⟨I_S_179, F_S_179, by omega⟩
                        · have h1125 := neq_iv rfl rfl c_h1107
                          have h1126 : ((4 : Int32)).toInt = 4 := li_4
                          refine Sf.b (s_fX12_wrong fu hfu (4 : Int32) S_179 I_S_179 (by omega) (by omega)) (fun S_205 r_205 p_r_205 => ?_)
                          obtain ⟨I_S_205, G_S_205, p_r_205⟩ := p_r_205
                          have F_S_205 := Fr.tr F_S_179 G_S_205 rfl
                          have h1127 := b_63_30 I_S_205
                          have h1128 := ti_eq (G_S_205 63 31 rfl)
                          have h1129 := i32 r_205
                          have h1130 := b_63_31 I_S_205
                          have h1131 := b_63_31 I_S
                          have h1132 := b_63_30 I_S_205
                          have h1133 := b_63_31 I_S_205
                          have h1134 := b_63_30 I_S_205
                          exact Sf.so ⟨I_S_205, F_S_205, by omega⟩
                      · have h1135 := nle_iv rfl li_0 c_h1104
                        have h1136 := b_63_31 I_S_179
                        have h1137 := b_63_31 I_S
                        have h1138 := b_63_30 I_S_179
                        have h1139 := b_63_31 I_S_179
                        have h1140 := b_63_30 I_S_179
                        have h1141 : ((-1 : Int32)).toInt = -1 := li_m1
                        exact Sf.so ⟨I_S_179, F_S_179, by omega⟩
                    · have h1142 := neq_iv rfl li_6 c_h1096
                      unfold fX12_readData_182
                      try simp only [Nat.reduceAdd]
                      refine Sf.i (fun c_h1143 => ?_) (fun c_h1143 => ?_)
                      · have h1144 := le_iv rfl li_0 c_h1143
                        refine Sf.i (fun c_h1145 => ?_) (fun c_h1145 => ?_)
                        · have h1146 := eq_iv rfl rfl c_h1145
                          refine Sf.i (fun c_h1147 => ?_) (fun c_h1147 => ?_)
                          · have h1148 := eq_iv rfl li_6 c_h1147
                            try have h1149 : (((S_145.1 63 31) - (4 : Int32))).toInt = ((S_145.1 63 31)).toInt - (4) := sub_iv rfl li_4 (by omega) (by omega)
                            refine Sf.bp (s_fX12_four_82_1000 fu hfu ((S_145.1 63 31) - (4 : Int32)) S_145 I_S_145 (by omega) (by omega)) (fun r_222 p_r_222 => ?_)
                            have h1150 := i32 r_222
                            have h1151 := b_63_31 I_S_145
                            have h1152 := b_63_31 I_S
                            have h1153 := b_63_30 I_S_145
                            have h1154 := b_63_31 I_S_145
                            have h1155 := b_63_30 I_S_145
                            exact Sf.so ⟨I_S_145, F_S_145, by omega⟩
                          · have h1156 := neq_iv rfl li_6 c_h1147
                            have h1157 := i32 r_145
                            have h1158 := b_63_31 I_S_145
                            have h1159 := b_63_31 I_S
                            have h1160 := b_63_30 I_S_145
                            have h1161 := b_63_31 I_S_145
                            have h1162 := b_63_30 I_S_145
                            exact Sf.so ⟨I_S_145, F_S_145, by omega⟩
                        · have h1163 := neq_iv rfl rfl c_h1145
                          have h1164 : ((4 : Int32)).toInt = 4 := li_4
                          refine Sf.b (s_fX12_wrong fu hfu (4 : Int32) S_145 I_S_145 (by omega) (by omega)) (fun S_205 r_205 p_r_205 => ?_)
                          obtain ⟨I_S_205, G_S_205, p_r_205⟩ := p_r_205
                          have F_S_205 := Fr.tr F_S_145 G_S_205 rfl
                          have h1165 := b_63_30 I_S_205
                          have h1166 := ti_eq (G_S_205 63 31 rfl)
                          have h1167 := i32 r_205
                          have h1168 := b_63_31 I_S_205
                          have h1169 := b_63_31 I_S
                          have h1170 := b_63_30 I_S_205
                          have h1171 := b_63_31 I_S_205
                          have h1172 := b_63_30 I_S_205
                          exact Sf.so ⟨I_S_205, F_S_205, by omega⟩
                      · have h1173 := nle_iv rfl li_0 c_h1143
                        have h1174 := b_63_31 I_S_145
                        have h1175 := b_63_31 I_S
                        have h1176 := b_63_30 I_S_145
                        have h1177 := b_63_31 I_S_145
                        have h1178 := b_63_30 I_S_145
                        have h1179 : ((-1 : Int32)).toInt = -1 := li_m1
                        exact Sf.so ⟨I_S_145, F_S_145, by omega⟩
                  · have h1180 := neq_iv rfl li_0 c_h1094
                    unfold fX12_readData_182
                    try simp only [Nat.reduceAdd]
                    refine Sf.i (fun c_h1181 => ?_) (fun c_h1181 => ?_)
                    · have h1182 := le_iv rfl li_0 c_h1181
                      refine Sf.i (fun c_h1183 => ?_) (fun c_h1183 => ?_)
                      · have h1184 := eq_iv rfl rfl c_h1183
                        refine Sf.i (fun c_h1185 => ?_) (fun c_h1185 => ?_)
                        · have h1186 := eq_iv rfl li_6 c_h1185
                          try have h1187 : (((S_145.1 63 31) - (4 : Int32))).toInt = ((S_145.1 63 31)).toInt - (4) := sub_iv rfl li_4 (by omega) (by omega)
                          refine Sf.bp (s_fX12_four_82_1000 fu hfu ((S_145.1 63 31) - (4 : Int32)) S_145 I_S_145 (by omega) (by omega)) (fun r_222 p_r_222 => ?_)
                          have h1188 := i32 r_222
                          have h1189 := b_63_31 I_S_145
                          have h1190 := b_63_31 I_S
                          have h1191 := b_63_30 I_S_145
                          have h1192 := b_63_31 I_S_145
                          have h1193 := b_63_30 I_S_145
                          exact Sf.so ⟨I_S_145, F_S_145, by omega⟩
                        · have h1194 := neq_iv rfl li_6 c_h1185
                          have h1195 := i32 r_145
                          have h1196 := b_63_31 I_S_145
                          have h1197 := b_63_31 I_S
                          have h1198 := b_63_30 I_S_145
                          have h1199 := b_63_31 I_S_145
                          have h1200 := b_63_30 I_S_145
                          exact Sf.so ⟨I_S_145, F_S_145, by omega⟩
                      · have h1201 := neq_iv rfl rfl c_h1183
                        have h1202 : ((4 : Int32)).toInt = 4 := li_4
                        refine Sf.b (s_fX12_wrong fu hfu (4 : Int32) S_145 I_S_145 (by omega) (by omega)) (fun S_205 r_205 p_r_205 => ?_)
                        obtain ⟨I_S_205, G_S_205, p_r_205⟩ := p_r_205
                        have F_S_205 := Fr.tr F_S_145 G_S_205 rfl
                        have h1203 := b_63_30 I_S_205
                        have h1204 := ti_eq (G_S_205 63 31 rfl)
                        have h1205 := i32 r_205
                        have h1206 := b_63_31 I_S_205
                        have h1207 := b_63_31 I_S
                        have h1208 := b_63_30 I_S_205
                        have h1209 := b_63_31 I_S_205
                        have h1210 := b_63_30 I_S_205
                        exact Sf.so ⟨I_S_205, F_S_205, by omega⟩
                    · have h1211 := nle_iv rfl li_0 c_h1181
                      have h1212 := b_63_31 I_S_145
                      have h1213 := b_63_31 I_S
                      have h1214 := b_63_30 I_S_145
                      have h1215 := b_63_31 I_S_145
                      have h1216 := b_63_30 I_S_145
                      have h1217 : ((-1 : Int32)).toInt = -1 := li_m1
                      exact Sf.so ⟨I_S_145, F_S_145, by omega⟩
                · have h1218 := neq_iv rfl li_5 c_h1089
                  refine Sf.i (fun c_h1219 => ?_) (fun c_h1219 => ?_)
                  · have h1220 := eq_iv rfl li_6 c_h1219
                    unfold fX12_readData_142
                    try simp only [Nat.reduceAdd]
                    have h1221 := b_63_30 I_S
                    refine Sf.b (s_fX12_readInner_82_1000 fu hfu x2 S I_S (by omega)) (fun S_145 r_145 p_r_145 => ?_)
                    obtain ⟨I_S_145, G_S_145, p_r_145⟩ := p_r_145
                    have F_S_145 := Fr.tr F_S G_S_145 rfl
                    have h1222 := b_63_31 I_S_145
                    have h1223 := b_63_30 I_S_145
                    refine Sf.i (fun c_h1224 => ?_) (fun c_h1224 => ?_)
                    · have h1225 := eq_iv rfl li_0 c_h1224
                      refine Sf.i (fun c_h1226 => ?_) (fun c_h1226 => ?_)
                      · have h1227 := eq_iv rfl li_6 c_h1226
                        refine Sf.b (s_fX12_readInner_82_1000 fu hfu x2 S_145 I_S_145 (by omega)) (fun S_166 r_166 p_r_166 => ?_)
                        obtain ⟨I_S_166, G_S_166, p_r_166⟩ := p_r_166
                        have F_S_166 := Fr.tr F_S_145 G_S_166 rfl
                        have h1228 := b_63_31 I_S_166
                        have h1229 := b_63_30 I_S_166
                        try have h1230 : (((S_166.1 63 31) + (20 : Int32))).toInt = ((S_166.1 63 31)).toInt + (20) := add_iv rfl li_20 (by omega) (by omega)
                        refine Sf.w I_S_166 F_S_166 rfl (show ((0) : Int) ≤ (((S_166.1 63 31) + (20 : Int32))).toInt by omega) (show (((S_166.1 63 31) + (20 : Int32))).toInt ≤ (1100 : Int) by omega) (fun S_179 I_S_179 F_S_179 v_S_179 f_S_179 l_S_179 => ?_)
                        have h1231 := ti_eq (f_S_179 63 30 (fun _ e => absurd e (by decide)))
                        have h1232 := eq_iv rfl rfl v_S_179
                        unfold fX12_readData_182
                        try simp only [Nat.reduceAdd]
                        have h1233 := b_63_30 I_S_179
                        refine Sf.i (fun c_h1234 => ?_) (fun c_h1234 => ?_)
                        · have h1235 := le_iv rfl li_0 c_h1234
                          have h1236 := b_63_31 I_S_179
                          refine Sf.i (fun c_h1237 => ?_) (fun c_h1237 => ?_)
                          · have h1238 := eq_iv rfl rfl c_h1237
                            refine Sf.i (fun c_h1239 => ?_) (fun c_h1239 => ?_)
                            · have h1240 := eq_iv rfl li_6 c_h1239
                              try have h1241 : (((S_179.1 63 31) - (4 : Int32))).toInt = ((S_179.1 63 31)).toInt - (4) := sub_iv rfl li_4 (by omega) (by omega)
                              refine Sf.bp (s_fX12_four_82_1000 fu hfu ((S_179.1 63 31) - (4 : Int32)) S_179 I_S_179 (by omega) (by omega)) (fun r_222 p_r_222 => ?_)
                              have h1242 := i32 r_222
                              have h1243 := b_63_31 I_S_179
                              have h1244 := b_63_31 I_S
                              have h1245 := b_63_30 I_S_179
                              have h1246 := b_63_31 I_S_179
                              have h1247 := b_63_30 I_S_179
                              exact Sf.so ⟨I_S_179, F_S_179, by omega⟩
                            · have h1248 := neq_iv rfl li_6 c_h1239
                              have h1249 := i32 r_145
                              have h1250 := b_63_31 I_S_179
                              have h1251 := b_63_31 I_S
                              have h1252 := b_63_30 I_S_179
                              have h1253 := b_63_31 I_S_179
                              have h1254 := b_63_30 I_S_179
                              exact Sf.so ⟨I_S_179, F_S_179, by omega⟩
                          · have h1255 := neq_iv rfl rfl c_h1237
                            have h1256 : ((4 : Int32)).toInt = 4 := li_4
                            refine Sf.b (s_fX12_wrong fu hfu (4 : Int32) S_179 I_S_179 (by omega) (by omega)) (fun S_205 r_205 p_r_205 => ?_)
                            obtain ⟨I_S_205, G_S_205, p_r_205⟩ := p_r_205
                            have F_S_205 := Fr.tr F_S_179 G_S_205 rfl
                            have h1257 := b_63_30 I_S_205
                            have h1258 := ti_eq (G_S_205 63 31 rfl)
                            have h1259 := i32 r_205
                            have h1260 := b_63_31 I_S_205
                            have h1261 := b_63_31 I_S
                            have h1262 := b_63_30 I_S_205
                            have h1263 := b_63_31 I_S_205
                            have h1264 := b_63_30 I_S_205
                            exact Sf.so ⟨I_S_205, F_S_205, by omega⟩
                        · have h1265 := nle_iv rfl li_0 c_h1234
                          have h1266 := b_63_31 I_S_179
                          have h1267 := b_63_31 I_S
                          have h1268 := b_63_30 I_S_179
                          have h1269 := b_63_31 I_S_179
                          have h1270 := b_63_30 I_S_179
                          have h1271 : ((-1 : Int32)).toInt = -1 := li_m1
                          exact Sf.so ⟨I_S_179, F_S_179, by omega⟩
                      · have h1272 := neq_iv rfl li_6 c_h1226
                        unfold fX12_readData_182
                        try simp only [Nat.reduceAdd]
                        refine Sf.i (fun c_h1273 => ?_) (fun c_h1273 => ?_)
                        · have h1274 := le_iv rfl li_0 c_h1273
                          refine Sf.i (fun c_h1275 => ?_) (fun c_h1275 => ?_)
                          · have h1276 := eq_iv rfl rfl c_h1275
                            refine Sf.i (fun c_h1277 => ?_) (fun c_h1277 => ?_)
                            · have h1278 := eq_iv rfl li_6 c_h1277
                              try have h1279 : (((S_145.1 63 31) - (4 : Int32))).toInt = ((S_145.1 63 31)).toInt - (4) := sub_iv rfl li_4 (by omega) (by omega)
                              refine Sf.bp (s_fX12_four_82_1000 fu hfu ((S_145.1 63 31) - (4 : Int32)) S_145 I_S_145 (by omega) (by omega)) (fun r_222 p_r_222 => ?_)
                              have h1280 := i32 r_222
                              have h1281 := b_63_31 I_S_145
                              have h1282 := b_63_31 I_S
                              have h1283 := b_63_30 I_S_145
                              have h1284 := b_63_31 I_S_145
                              have h1285 := b_63_30 I_S_145
                              exact Sf.so ⟨I_S_145, F_S_145, by omega⟩
                            · have h1286 := neq_iv rfl li_6 c_h1277
                              have h1287 := i32 r_145
                              have h1288 := b_63_31 I_S_145
                              have h1289 := b_63_31 I_S
                              have h1290 := b_63_30 I_S_145
                              have h1291 := b_63_31 I_S_145
                              have h1292 := b_63_30 I_S_145
                              exact Sf.so ⟨I_S_145, F_S_145, by omega⟩
                          · have h1293 := neq_iv rfl rfl c_h1275
                            have h1294 : ((4 : Int32)).toInt = 4 := li_4
                            refine Sf.b (s_fX12_wrong fu hfu (4 : Int32) S_145 I_S_145 (by omega) (by omega)) (fun S_205 r_205 p_r_205 => ?_)
                            obtain ⟨I_S_205, G_S_205, p_r_205⟩ := p_r_205
                            have F_S_205 := Fr.tr F_S_145 G_S_205 rfl
                            have h1295 := b_63_30 I_S_205
                            have h1296 := ti_eq (G_S_205 63 31 rfl)
                            have h1297 := i32 r_205
                            have h1298 := b_63_31 I_S_205
                            have h1299 := b_63_31 I_S
                            have h1300 := b_63_30 I_S_205
                            have h1301 := b_63_31 I_S_205
                            have h1302 := b_63_30 I_S_205
                            exact Sf.so ⟨I_S_205, F_S_205, by omega⟩
                        · have h1303 := nle_iv rfl li_0 c_h1273
                          have h1304 := b_63_31 I_S_145
                          have h1305 := b_63_31 I_S
                          have h1306 := b_63_30 I_S_145
                          have h1307 := b_63_31 I_S_145
                          have h1308 := b_63_30 I_S_145
                          have h1309 : ((-1 : Int32)).toInt = -1 := li_m1
                          exact Sf.so ⟨I_S_145, F_S_145, by omega⟩
                    · have h1310 := neq_iv rfl li_0 c_h1224
                      unfold fX12_readData_182
                      try simp only [Nat.reduceAdd]
                      refine Sf.i (fun c_h1311 => ?_) (fun c_h1311 => ?_)
                      · have h1312 := le_iv rfl li_0 c_h1311
                        refine Sf.i (fun c_h1313 => ?_) (fun c_h1313 => ?_)
                        · have h1314 := eq_iv rfl rfl c_h1313
                          refine Sf.i (fun c_h1315 => ?_) (fun c_h1315 => ?_)
                          · have h1316 := eq_iv rfl li_6 c_h1315
                            try have h1317 : (((S_145.1 63 31) - (4 : Int32))).toInt = ((S_145.1 63 31)).toInt - (4) := sub_iv rfl li_4 (by omega) (by omega)
                            refine Sf.bp (s_fX12_four_82_1000 fu hfu ((S_145.1 63 31) - (4 : Int32)) S_145 I_S_145 (by omega) (by omega)) (fun r_222 p_r_222 => ?_)
                            have h1318 := i32 r_222
                            have h1319 := b_63_31 I_S_145
                            have h1320 := b_63_31 I_S
                            have h1321 := b_63_30 I_S_145
                            have h1322 := b_63_31 I_S_145
                            have h1323 := b_63_30 I_S_145
                            exact Sf.so ⟨I_S_145, F_S_145, by omega⟩
                          · have h1324 := neq_iv rfl li_6 c_h1315
                            have h1325 := i32 r_145
                            have h1326 := b_63_31 I_S_145
                            have h1327 := b_63_31 I_S
                            have h1328 := b_63_30 I_S_145
                            have h1329 := b_63_31 I_S_145
                            have h1330 := b_63_30 I_S_145
                            exact Sf.so ⟨I_S_145, F_S_145, by omega⟩
                        · have h1331 := neq_iv rfl rfl c_h1313
                          have h1332 : ((4 : Int32)).toInt = 4 := li_4
                          refine Sf.b (s_fX12_wrong fu hfu (4 : Int32) S_145 I_S_145 (by omega) (by omega)) (fun S_205 r_205 p_r_205 => ?_)
                          obtain ⟨I_S_205, G_S_205, p_r_205⟩ := p_r_205
                          have F_S_205 := Fr.tr F_S_145 G_S_205 rfl
                          have h1333 := b_63_30 I_S_205
                          have h1334 := ti_eq (G_S_205 63 31 rfl)
                          have h1335 := i32 r_205
                          have h1336 := b_63_31 I_S_205
                          have h1337 := b_63_31 I_S
                          have h1338 := b_63_30 I_S_205
                          have h1339 := b_63_31 I_S_205
                          have h1340 := b_63_30 I_S_205
                          exact Sf.so ⟨I_S_205, F_S_205, by omega⟩
                      · have h1341 := nle_iv rfl li_0 c_h1311
                        have h1342 := b_63_31 I_S_145
                        have h1343 := b_63_31 I_S
                        have h1344 := b_63_30 I_S_145
                        have h1345 := b_63_31 I_S_145
                        have h1346 := b_63_30 I_S_145
                        have h1347 : ((-1 : Int32)).toInt = -1 := li_m1
                        exact Sf.so ⟨I_S_145, F_S_145, by omega⟩
                  · have h1348 := neq_iv rfl li_6 c_h1219
                    refine Sf.w I_S F_S rfl (show ((0) : Int) ≤ (((S.1 63 31) + x4)).toInt by omega) (show (((S.1 63 31) + x4)).toInt ≤ (1100 : Int) by omega) (fun S_137 I_S_137 F_S_137 v_S_137 f_S_137 l_S_137 => ?_)
                    have h1349 := ti_eq (f_S_137 63 30 (fun _ e => absurd e (by decide)))
                    have h1350 := eq_iv rfl rfl v_S_137
                    have h1351 := b_63_31 I_S_137
                    have h1352 := b_63_31 I_S
                    have h1353 := b_63_30 I_S_137
                    have h1354 := b_63_31 I_S_137
                    have h1355 := b_63_30 I_S_137
                    have h1356 : ((0 : Int32)).toInt = 0 := li_0
                    exact Sf.so ⟨I_S_137, F_S_137, by omega⟩
        · have h1357 := neq_iv rfl li_5 c_h917
          unfold fX12_readData_46
          try simp only [Nat.reduceAdd]
          have h1358 : ((4 : Int32)).toInt = 4 := li_4
          refine Sf.b (s_fX12_wrong fu hfu (4 : Int32) S I_S (by omega) (by omega)) (fun S_48 r_48 p_r_48 => ?_)
          obtain ⟨I_S_48, G_S_48, p_r_48⟩ := p_r_48
          have F_S_48 := Fr.tr F_S G_S_48 rfl
          have h1359 := b_63_30 I_S_48
          have h1360 := ti_eq (G_S_48 63 31 rfl)
          have h1361 := i32 r_48
          have h1362 := b_63_31 I_S_48
          have h1363 := b_63_31 I_S
          have h1364 := b_63_30 I_S_48
          have h1365 := b_63_31 I_S_48
          have h1366 := b_63_30 I_S_48
          exact Sf.so ⟨I_S_48, F_S_48, by omega⟩
      · have h1367 := neq_iv rfl li_16 c_h915
        unfold fX12_readData_52
        try simp only [Nat.reduceAdd]
        refine Sf.i (fun c_h1368 => ?_) (fun c_h1368 => ?_)
        · have h1369 := eq_iv rfl li_1 c_h1368
          try have h1370 : (((S.1 63 31) + (4 : Int32))).toInt = ((S.1 63 31)).toInt + (4) := add_iv rfl li_4 (by omega) (by omega)
          refine Sf.w I_S F_S rfl (show ((0) : Int) ≤ (((S.1 63 31) + (4 : Int32))).toInt by omega) (show (((S.1 63 31) + (4 : Int32))).toInt ≤ (1100 : Int) by omega) (fun S_64 I_S_64 F_S_64 v_S_64 f_S_64 l_S_64 => ?_)
          have h1371 := ti_eq (f_S_64 63 30 (fun _ e => absurd e (by decide)))
          have h1372 := eq_iv rfl rfl v_S_64
          refine Sf.bp (s_fX12_four_82_1000 fu hfu (S.1 63 31) S_64 I_S_64 (by omega) (by omega)) (fun r_70 p_r_70 => ?_)
          have h1373 := i32 r_70
          have h1374 := b_63_31 I_S_64
          have h1375 := b_63_31 I_S
          have h1376 := b_63_30 I_S_64
          have h1377 := b_63_31 I_S_64
          have h1378 := b_63_30 I_S_64
          exact Sf.so ⟨I_S_64, F_S_64, by omega⟩
        · have h1379 := neq_iv rfl li_1 c_h1368
          refine Sf.i (fun c_h1380 => ?_) (fun c_h1380 => ?_)
          · have h1381 := eq_iv rfl li_16 c_h1380
            refine Sf.g (ck_iv (by omega) (by omega)) ?_
            refine Sf.i (fun c_h1382 => ?_) (fun c_h1382 => ?_)
            · have h1383 := eq_iv rfl li_4 c_h1382
              try have h1384 : (((S.1 63 31) + (5 : Int32))).toInt = ((S.1 63 31)).toInt + (5) := add_iv rfl li_5 (by omega) (by omega)
              refine Sf.w I_S F_S rfl (show ((0) : Int) ≤ (((S.1 63 31) + (5 : Int32))).toInt by omega) (show (((S.1 63 31) + (5 : Int32))).toInt ≤ (1100 : Int) by omega) (fun S_101 I_S_101 F_S_101 v_S_101 f_S_101 l_S_101 => ?_)
              have h1385 := ti_eq (f_S_101 63 30 (fun _ e => absurd e (by decide)))
              have h1386 := eq_iv rfl rfl v_S_101
              have h1387 : (S_101.1 82 (((S.1 63 31)).toNatClampNeg)).toInt = (S.1 82 (((S.1 63 31)).toNatClampNeg)).toInt := ti_eq (f_S_101 82 (((S.1 63 31)).toNatClampNeg) (fun e => absurd e (by decide)))
              try have h1388 : (((S.1 63 31) + (1 : Int32))).toInt = ((S.1 63 31)).toInt + (1) := add_iv rfl li_1 (by omega) (by omega)
              refine Sf.bp (s_fX12_four_82_1000 fu hfu ((S.1 63 31) + (1 : Int32)) S_101 I_S_101 (by omega) (by omega)) (fun r_109 p_r_109 => ?_)
              have h1389 := i32 r_109
              have h1390 := b_63_31 I_S_101
              have h1391 := b_63_31 I_S
              have h1392 := b_63_30 I_S_101
              have h1393 := b_63_31 I_S_101
              have h1394 := b_63_30 I_S_101
              exact Sf.so ⟨I_S_101, F_S_101, by omega⟩
            · have h1395 := neq_iv rfl li_4 c_h1382
              have h1396 : ((4 : Int32)).toInt = 4 := li_4
              refine Sf.b (s_fX12_wrong fu hfu (4 : Int32) S I_S (by omega) (by omega)) (fun S_90 r_90 p_r_90 => ?_)
              obtain ⟨I_S_90, G_S_90, p_r_90⟩ := p_r_90
              have F_S_90 := Fr.tr F_S G_S_90 rfl
              have h1397 := b_63_30 I_S_90
              have h1398 := ti_eq (G_S_90 63 31 rfl)
              have h1399 : (S_90.1 82 (((S.1 63 31)).toNatClampNeg)).toInt = (S.1 82 (((S.1 63 31)).toNatClampNeg)).toInt := ti_eq (G_S_90 82 (((S.1 63 31)).toNatClampNeg) rfl)
              have h1400 : (S_90.1 82 (((S_90.1 63 31)).toNatClampNeg)).toInt = (S.1 82 (((S.1 63 31)).toNatClampNeg)).toInt := by rw [G_S_90 63 31 rfl]; exact ti_eq (G_S_90 82 (((S.1 63 31)).toNatClampNeg) rfl)
              have h1401 := i32 r_90
              have h1402 := b_63_31 I_S_90
              have h1403 := b_63_31 I_S
              have h1404 := b_63_30 I_S_90
              have h1405 := b_63_31 I_S_90
              have h1406 := b_63_30 I_S_90
              exact Sf.so ⟨I_S_90, F_S_90, by omega⟩
          · have h1407 := neq_iv rfl li_16 c_h1380
            refine Sf.i (fun c_h1408 => ?_) (fun c_h1408 => ?_)
            · have h1409 := eq_iv rfl li_2 c_h1408
              unfold fX12_readData_142
              try simp only [Nat.reduceAdd]
              have h1410 := b_63_30 I_S
              refine Sf.b (s_fX12_readInner_82_1000 fu hfu x2 S I_S (by omega)) (fun S_145 r_145 p_r_145 => ?_)
              obtain ⟨I_S_145, G_S_145, p_r_145⟩ := p_r_145
              have F_S_145 := Fr.tr F_S G_S_145 rfl
              have h1411 := b_63_31 I_S_145
              have h1412 := b_63_30 I_S_145
              refine Sf.i (fun c_h1413 => ?_) (fun c_h1413 => ?_)
              · have h1414 := eq_iv rfl li_0 c_h1413
                refine Sf.i (fun c_h1415 => ?_) (fun c_h1415 => ?_)
                · have h1416 := eq_iv rfl li_6 c_h1415
                  refine Sf.b (s_fX12_readInner_82_1000 fu hfu x2 S_145 I_S_145 (by omega)) (fun S_166 r_166 p_r_166 => ?_)
                  obtain ⟨I_S_166, G_S_166, p_r_166⟩ := p_r_166
                  have F_S_166 := Fr.tr F_S_145 G_S_166 rfl
                  have h1417 := b_63_31 I_S_166
                  have h1418 := b_63_30 I_S_166
                  try have h1419 : (((S_166.1 63 31) + (20 : Int32))).toInt = ((S_166.1 63 31)).toInt + (20) := add_iv rfl li_20 (by omega) (by omega)
                  refine Sf.w I_S_166 F_S_166 rfl (show ((0) : Int) ≤ (((S_166.1 63 31) + (20 : Int32))).toInt by omega) (show (((S_166.1 63 31) + (20 : Int32))).toInt ≤ (1100 : Int) by omega) (fun S_179 I_S_179 F_S_179 v_S_179 f_S_179 l_S_179 => ?_)
                  have h1420 := ti_eq (f_S_179 63 30 (fun _ e => absurd e (by decide)))
                  have h1421 := eq_iv rfl rfl v_S_179
                  unfold fX12_readData_182
                  try simp only [Nat.reduceAdd]
                  have h1422 := b_63_30 I_S_179
                  refine Sf.i (fun c_h1423 => ?_) (fun c_h1423 => ?_)
                  · have h1424 := le_iv rfl li_0 c_h1423
                    have h1425 := b_63_31 I_S_179
                    refine Sf.i (fun c_h1426 => ?_) (fun c_h1426 => ?_)
                    · have h1427 := eq_iv rfl rfl c_h1426
                      refine Sf.i (fun c_h1428 => ?_) (fun c_h1428 => ?_)
                      · have h1429 := eq_iv rfl li_6 c_h1428
                        try have h1430 : (((S_179.1 63 31) - (4 : Int32))).toInt = ((S_179.1 63 31)).toInt - (4) := sub_iv rfl li_4 (by omega) (by omega)
                        refine Sf.bp (s_fX12_four_82_1000 fu hfu ((S_179.1 63 31) - (4 : Int32)) S_179 I_S_179 (by omega) (by omega)) (fun r_222 p_r_222 => ?_)
                        have h1431 := i32 r_222
                        have h1432 := b_63_31 I_S_179
                        have h1433 := b_63_31 I_S
                        have h1434 := b_63_30 I_S_179
                        have h1435 := b_63_31 I_S_179
                        have h1436 := b_63_30 I_S_179
                        exact Sf.so ⟨I_S_179, F_S_179, by omega⟩
                      · have h1437 := neq_iv rfl li_6 c_h1428
                        have h1438 := i32 r_145
                        have h1439 := b_63_31 I_S_179
                        have h1440 := b_63_31 I_S
                        have h1441 := b_63_30 I_S_179
                        have h1442 := b_63_31 I_S_179
                        have h1443 := b_63_30 I_S_179
                        exact Sf.so ⟨I_S_179, F_S_179, by omega⟩
                    · have h1444 := neq_iv rfl rfl c_h1426
                      have h1445 : ((4 : Int32)).toInt = 4 := li_4
                      refine Sf.b (s_fX12_wrong fu hfu (4 : Int32) S_179 I_S_179 (by omega) (by omega)) (fun S_205 r_205 p_r_205 => ?_)
                      obtain ⟨I_S_205, G_S_205, p_r_205⟩ := p_r_205
                      have F_S_205 := Fr.tr F_S_179 G_S_205 rfl
                      have h1446 := b_63_30 I_S_205
                      have h1447 := ti_eq (G_S_205 63 31 rfl)
                      have h1448 := i32 r_205
                      have h1449 := b_63_31 I_S_205
                      have h1450 := b_63_31 I_S
                      have h1451 := b_63_30 I_S_205
                      have h1452 := b_63_31 I_S_205
                      have h1453 := b_63_30 I_S_205
                      exact Sf.so ⟨I_S_205, F_S_205, by omega⟩
                  · have h1454 := nle_iv rfl li_0 c_h1423
                    have h1455 := b_63_31 I_S_179
                    have h1456 := b_63_31 I_S
                    have h1457 := b_63_30 I_S_179
                    have h1458 := b_63_31 I_S_179
                    have h1459 := b_63_30 I_S_179
                    have h1460 : ((-1 : Int32)).toInt = -1 := li_m1
                    exact Sf.so ⟨I_S_179, F_S_179, by omega⟩
                · have h1461 := neq_iv rfl li_6 c_h1415
                  unfold fX12_readData_182
                  try simp only [Nat.reduceAdd]
                  refine Sf.i (fun c_h1462 => ?_) (fun c_h1462 => ?_)
                  · have h1463 := le_iv rfl li_0 c_h1462
                    refine Sf.i (fun c_h1464 => ?_) (fun c_h1464 => ?_)
                    · have h1465 := eq_iv rfl rfl c_h1464
                      refine Sf.i (fun c_h1466 => ?_) (fun c_h1466 => ?_)
                      · have h1467 := eq_iv rfl li_6 c_h1466
                        try have h1468 : (((S_145.1 63 31) - (4 : Int32))).toInt = ((S_145.1 63 31)).toInt - (4) := sub_iv rfl li_4 (by omega) (by omega)
                        refine Sf.bp (s_fX12_four_82_1000 fu hfu ((S_145.1 63 31) - (4 : Int32)) S_145 I_S_145 (by omega) (by omega)) (fun r_222 p_r_222 => ?_)
                        have h1469 := i32 r_222
                        have h1470 := b_63_31 I_S_145
                        have h1471 := b_63_31 I_S
                        have h1472 := b_63_30 I_S_145
                        have h1473 := b_63_31 I_S_145
                        have h1474 := b_63_30 I_S_145
                        exact Sf.so ⟨I_S_145, F_S_145, by omega⟩
                      · have h1475 := neq_iv rfl li_6 c_h1466
                        have h1476 := i32 r_145
                        have h1477 := b_63_31 I_S_145
                        have h1478 := b_63_31 I_S
                        have h1479 := b_63_30 I_S_145
                        have h1480 := b_63_31 I_S_145
                        have h1481 := b_63_30 I_S_145
                        exact Sf.so ⟨I_S_145, F_S_145, by omega⟩
                    · have h1482 := neq_iv rfl rfl c_h1464
                      have h1483 : ((4 : Int32)).toInt = 4 := li_4
                      refine Sf.b (s_fX12_wrong fu hfu (4 : Int32) S_145 I_S_145 (by omega) (by omega)) (fun S_205 r_205 p_r_205 => ?_)
                      obtain ⟨I_S_205, G_S_205, p_r_205⟩ := p_r_205
                      have F_S_205 := Fr.tr F_S_145 G_S_205 rfl
                      have h1484 := b_63_30 I_S_205
                      have h1485 := ti_eq (G_S_205 63 31 rfl)
                      have h1486 := i32 r_205
                      have h1487 := b_63_31 I_S_205
                      have h1488 := b_63_31 I_S
                      have h1489 := b_63_30 I_S_205
                      have h1490 := b_63_31 I_S_205
                      have h1491 := b_63_30 I_S_205
                      exact Sf.so ⟨I_S_205, F_S_205, by omega⟩
                  · have h1492 := nle_iv rfl li_0 c_h1462
                    have h1493 := b_63_31 I_S_145
                    have h1494 := b_63_31 I_S
                    have h1495 := b_63_30 I_S_145
                    have h1496 := b_63_31 I_S_145
                    have h1497 := b_63_30 I_S_145
                    have h1498 : ((-1 : Int32)).toInt = -1 := li_m1
                    exact Sf.so ⟨I_S_145, F_S_145, by omega⟩
              · have h1499 := neq_iv rfl li_0 c_h1413
                unfold fX12_readData_182
                try simp only [Nat.reduceAdd]
                refine Sf.i (fun c_h1500 => ?_) (fun c_h1500 => ?_)
                · have h1501 := le_iv rfl li_0 c_h1500
                  refine Sf.i (fun c_h1502 => ?_) (fun c_h1502 => ?_)
                  · have h1503 := eq_iv rfl rfl c_h1502
                    refine Sf.i (fun c_h1504 => ?_) (fun c_h1504 => ?_)
                    · have h1505 := eq_iv rfl li_6 c_h1504
                      try have h1506 : (((S_145.1 63 31) - (4 : Int32))).toInt = ((S_145.1 63 31)).toInt - (4) := sub_iv rfl li_4 (by omega) (by omega)
                      refine Sf.bp (s_fX12_four_82_1000 fu hfu ((S_145.1 63 31) - (4 : Int32)) S_145 I_S_145 (by omega) (by omega)) (fun r_222 p_r_222 => ?_)
                      have h1507 := i32 r_222
                      have h1508 := b_63_31 I_S_145
                      have h1509 := b_63_31 I_S
                      have h1510 := b_63_30 I_S_145
                      have h1511 := b_63_31 I_S_145
                      have h1512 := b_63_30 I_S_145
                      exact Sf.so ⟨I_S_145, F_S_145, by omega⟩
                    · have h1513 := neq_iv rfl li_6 c_h1504
                      have h1514 := i32 r_145
                      have h1515 := b_63_31 I_S_145
                      have h1516 := b_63_31 I_S
                      have h1517 := b_63_30 I_S_145
                      have h1518 := b_63_31 I_S_145
                      have h1519 := b_63_30 I_S_145
                      exact Sf.so ⟨I_S_145, F_S_145, by omega⟩
                  · have h1520 := neq_iv rfl rfl c_h1502
                    have h1521 : ((4 : Int32)).toInt = 4 := li_4
                    refine Sf.b (s_fX12_wrong fu hfu (4 : Int32) S_145 I_S_145 (by omega) (by omega)) (fun S_205 r_205 p_r_205 => ?_)
                    obtain ⟨I_S_205, G_S_205, p_r_205⟩ := p_r_205
                    have F_S_205 := Fr.tr F_S_145 G_S_205 rfl
                    have h1522 := b_63_30 I_S_205
                    have h1523 := ti_eq (G_S_205 63 31 rfl)
                    have h1524 := i32 r_205
                    have h1525 := b_63_31 I_S_205
                    have h1526 := b_63_31 I_S
                    have h1527 := b_63_30 I_S_205
                    have h1528 := b_63_31 I_S_205
                    have h1529 := b_63_30 I_S_205
                    exact Sf.so ⟨I_S_205, F_S_205, by omega⟩
                · have h1530 := nle_iv rfl li_0 c_h1500
                  have h1531 := b_63_31 I_S_145
                  have h1532 := b_63_31 I_S
                  have h1533 := b_63_30 I_S_145
                  have h1534 := b_63_31 I_S_145
                  have h1535 := b_63_30 I_S_145
                  have h1536 : ((-1 : Int32)).toInt = -1 := li_m1
                  exact Sf.so ⟨I_S_145, F_S_145, by omega⟩
            · have h1537 := neq_iv rfl li_2 c_h1408
              refine Sf.i (fun c_h1538 => ?_) (fun c_h1538 => ?_)
              · have h1539 := eq_iv rfl li_5 c_h1538
                unfold fX12_readData_142
                try simp only [Nat.reduceAdd]
                have h1540 := b_63_30 I_S
                refine Sf.b (s_fX12_readInner_82_1000 fu hfu x2 S I_S (by omega)) (fun S_145 r_145 p_r_145 => ?_)
                obtain ⟨I_S_145, G_S_145, p_r_145⟩ := p_r_145
                have F_S_145 := Fr.tr F_S G_S_145 rfl
                have h1541 := b_63_31 I_S_145
                have h1542 := b_63_30 I_S_145
                refine Sf.i (fun c_h1543 => ?_) (fun c_h1543 => ?_)
                · have h1544 := eq_iv rfl li_0 c_h1543
                  refine Sf.i (fun c_h1545 => ?_) (fun c_h1545 => ?_)
                  · have h1546 := eq_iv rfl li_6 c_h1545
                    refine Sf.b (s_fX12_readInner_82_1000 fu hfu x2 S_145 I_S_145 (by omega)) (fun S_166 r_166 p_r_166 => ?_)
                    obtain ⟨I_S_166, G_S_166, p_r_166⟩ := p_r_166
                    have F_S_166 := Fr.tr F_S_145 G_S_166 rfl
                    have h1547 := b_63_31 I_S_166
                    have h1548 := b_63_30 I_S_166
                    try have h1549 : (((S_166.1 63 31) + (20 : Int32))).toInt = ((S_166.1 63 31)).toInt + (20) := add_iv rfl li_20 (by omega) (by omega)
                    refine Sf.w I_S_166 F_S_166 rfl (show ((0) : Int) ≤ (((S_166.1 63 31) + (20 : Int32))).toInt by omega) (show (((S_166.1 63 31) + (20 : Int32))).toInt ≤ (1100 : Int) by omega) (fun S_179 I_S_179 F_S_179 v_S_179 f_S_179 l_S_179 => ?_)
                    have h1550 := ti_eq (f_S_179 63 30 (fun _ e => absurd e (by decide)))
                    have h1551 := eq_iv rfl rfl v_S_179
                    unfold fX12_readData_182
                    try simp only [Nat.reduceAdd]
                    have h1552 := b_63_30 I_S_179
                    refine Sf.i (fun c_h1553 => ?_) (fun c_h1553 => ?_)
                    · have h1554 := le_iv rfl li_0 c_h1553
                      have h1555 := b_63_31 I_S_179
                      refine Sf.i (fun c_h1556 => ?_) (fun c_h1556 => ?_)
                      · have h1557 := eq_iv rfl rfl c_h1556
                        refine Sf.i (fun c_h1558 => ?_) (fun c_h1558 => ?_)
                        · have h1559 := eq_iv rfl li_6 c_h1558
                          try have h1560 : (((S_179.1 63 31) - (4 : Int32))).toInt = ((S_179.1 63 31)).toInt - (4) := sub_iv rfl li_4 (by omega) (by omega)
                          refine Sf.bp (s_fX12_four_82_1000 fu hfu ((S_179.1 63 31) - (4 : Int32)) S_179 I_S_179 (by omega) (by omega)) (fun r_222 p_r_222 => ?_)
                          have h1561 := i32 r_222
                          have h1562 := b_63_31 I_S_179
                          have h1563 := b_63_31 I_S
                          have h1564 := b_63_30 I_S_179
                          have h1565 := b_63_31 I_S_179
                          have h1566 := b_63_30 I_S_179
                          exact Sf.so ⟨I_S_179, F_S_179, by omega⟩
                        · have h1567 := neq_iv rfl li_6 c_h1558
                          have h1568 := i32 r_145
                          have h1569 := b_63_31 I_S_179
                          have h1570 := b_63_31 I_S
                          have h1571 := b_63_30 I_S_179
                          have h1572 := b_63_31 I_S_179
                          have h1573 := b_63_30 I_S_179
                          exact Sf.so ⟨I_S_179, F_S_179, by omega⟩
                      · have h1574 := neq_iv rfl rfl c_h1556
                        have h1575 : ((4 : Int32)).toInt = 4 := li_4
                        refine Sf.b (s_fX12_wrong fu hfu (4 : Int32) S_179 I_S_179 (by omega) (by omega)) (fun S_205 r_205 p_r_205 => ?_)
                        obtain ⟨I_S_205, G_S_205, p_r_205⟩ := p_r_205
                        have F_S_205 := Fr.tr F_S_179 G_S_205 rfl
                        have h1576 := b_63_30 I_S_205
                        have h1577 := ti_eq (G_S_205 63 31 rfl)
                        have h1578 := i32 r_205
                        have h1579 := b_63_31 I_S_205
                        have h1580 := b_63_31 I_S
                        have h1581 := b_63_30 I_S_205
                        have h1582 := b_63_31 I_S_205
                        have h1583 := b_63_30 I_S_205
                        exact Sf.so ⟨I_S_205, F_S_205, by omega⟩
                    · have h1584 := nle_iv rfl li_0 c_h1553
                      have h1585 := b_63_31 I_S_179
                      have h1586 := b_63_31 I_S
                      have h1587 := b_63_30 I_S_179
                      have h1588 := b_63_31 I_S_179
                      have h1589 := b_63_30 I_S_179
                      have h1590 : ((-1 : Int32)).toInt = -1 := li_m1
                      exact Sf.so ⟨I_S_179, F_S_179, by omega⟩
                  · have h1591 := neq_iv rfl li_6 c_h1545
                    unfold fX12_readData_182
                    try simp only [Nat.reduceAdd]
                    refine Sf.i (fun c_h1592 => ?_) (fun c_h1592 => ?_)
                    · have h1593 := le_iv rfl li_0 c_h1592
                      refine Sf.i (fun c_h1594 => ?_) (fun c_h1594 => ?_)
                      · have h1595 := eq_iv rfl rfl c_h1594
                        refine Sf.i (fun c_h1596 => ?_) (fun c_h1596 => ?_)
                        · have h1597 := eq_iv rfl li_6 c_h1596
                          try have h1598 : (((S_145.1 63 31) - (4 : Int32))).toInt = ((S_145.1 63 31)).toInt - (4) := sub_iv rfl li_4 (by omega) (by omega)
                          refine Sf.bp (s_fX12_four_82_1000 fu hfu ((S_145.1 63 31) - (4 : Int32)) S_145 I_S_145 (by omega) (by omega)) (fun r_222 p_r_222 => ?_)
                          have h1599 := i32 r_222
                          have h1600 := b_63_31 I_S_145
                          have h1601 := b_63_31 I_S
                          have h1602 := b_63_30 I_S_145
                          have h1603 := b_63_31 I_S_145
                          have h1604 := b_63_30 I_S_145
                          exact Sf.so ⟨I_S_145, F_S_145, by omega⟩
                        · have h1605 := neq_iv rfl li_6 c_h1596
                          have h1606 := i32 r_145
                          have h1607 := b_63_31 I_S_145
                          have h1608 := b_63_31 I_S
                          have h1609 := b_63_30 I_S_145
                          have h1610 := b_63_31 I_S_145
                          have h1611 := b_63_30 I_S_145
                          exact Sf.so ⟨I_S_145, F_S_145, by omega⟩
                      · have h1612 := neq_iv rfl rfl c_h1594
                        have h1613 : ((4 : Int32)).toInt = 4 := li_4
                        refine Sf.b (s_fX12_wrong fu hfu (4 : Int32) S_145 I_S_145 (by omega) (by omega)) (fun S_205 r_205 p_r_205 => ?_)
                        obtain ⟨I_S_205, G_S_205, p_r_205⟩ := p_r_205
                        have F_S_205 := Fr.tr F_S_145 G_S_205 rfl
                        have h1614 := b_63_30 I_S_205
                        have h1615 := ti_eq (G_S_205 63 31 rfl)
                        have h1616 := i32 r_205
                        have h1617 := b_63_31 I_S_205
                        have h1618 := b_63_31 I_S
                        have h1619 := b_63_30 I_S_205
                        have h1620 := b_63_31 I_S_205
                        have h1621 := b_63_30 I_S_205
                        exact Sf.so ⟨I_S_205, F_S_205, by omega⟩
                    · have h1622 := nle_iv rfl li_0 c_h1592
                      have h1623 := b_63_31 I_S_145
                      have h1624 := b_63_31 I_S
                      have h1625 := b_63_30 I_S_145
                      have h1626 := b_63_31 I_S_145
                      have h1627 := b_63_30 I_S_145
                      have h1628 : ((-1 : Int32)).toInt = -1 := li_m1
                      exact Sf.so ⟨I_S_145, F_S_145, by omega⟩
                · have h1629 := neq_iv rfl li_0 c_h1543
                  unfold fX12_readData_182
                  try simp only [Nat.reduceAdd]
                  refine Sf.i (fun c_h1630 => ?_) (fun c_h1630 => ?_)
                  · have h1631 := le_iv rfl li_0 c_h1630
                    refine Sf.i (fun c_h1632 => ?_) (fun c_h1632 => ?_)
                    · have h1633 := eq_iv rfl rfl c_h1632
                      refine Sf.i (fun c_h1634 => ?_) (fun c_h1634 => ?_)
                      · have h1635 := eq_iv rfl li_6 c_h1634
                        try have h1636 : (((S_145.1 63 31) - (4 : Int32))).toInt = ((S_145.1 63 31)).toInt - (4) := sub_iv rfl li_4 (by omega) (by omega)
                        refine Sf.bp (s_fX12_four_82_1000 fu hfu ((S_145.1 63 31) - (4 : Int32)) S_145 I_S_145 (by omega) (by omega)) (fun r_222 p_r_222 => ?_)
                        have h1637 := i32 r_222
                        have h1638 := b_63_31 I_S_145
                        have h1639 := b_63_31 I_S
                        have h1640 := b_63_30 I_S_145
                        have h1641 := b_63_31 I_S_145
                        have h1642 := b_63_30 I_S_145
                        exact Sf.so ⟨I_S_145, F_S_145, by omega⟩
                      · have h1643 := neq_iv rfl li_6 c_h1634
                        have h1644 := i32 r_145
                        have h1645 := b_63_31 I_S_145
                        have h1646 := b_63_31 I_S
                        have h1647 := b_63_30 I_S_145
                        have h1648 := b_63_31 I_S_145
                        have h1649 := b_63_30 I_S_145
                        exact Sf.so ⟨I_S_145, F_S_145, by omega⟩
                    · have h1650 := neq_iv rfl rfl c_h1632
                      have h1651 : ((4 : Int32)).toInt = 4 := li_4
                      refine Sf.b (s_fX12_wrong fu hfu (4 : Int32) S_145 I_S_145 (by omega) (by omega)) (fun S_205 r_205 p_r_205 => ?_)
                      obtain ⟨I_S_205, G_S_205, p_r_205⟩ := p_r_205
                      have F_S_205 := Fr.tr F_S_145 G_S_205 rfl
                      have h1652 := b_63_30 I_S_205
                      have h1653 := ti_eq (G_S_205 63 31 rfl)
                      have h1654 := i32 r_205
                      have h1655 := b_63_31 I_S_205
                      have h1656 := b_63_31 I_S
                      have h1657 := b_63_30 I_S_205
                      have h1658 := b_63_31 I_S_205
                      have h1659 := b_63_30 I_S_205
                      exact Sf.so ⟨I_S_205, F_S_205, by omega⟩
                  · have h1660 := nle_iv rfl li_0 c_h1630
                    have h1661 := b_63_31 I_S_145
                    have h1662 := b_63_31 I_S
                    have h1663 := b_63_30 I_S_145
                    have h1664 := b_63_31 I_S_145
                    have h1665 := b_63_30 I_S_145
                    have h1666 : ((-1 : Int32)).toInt = -1 := li_m1
                    exact Sf.so ⟨I_S_145, F_S_145, by omega⟩
              · have h1667 := neq_iv rfl li_5 c_h1538
                refine Sf.i (fun c_h1668 => ?_) (fun c_h1668 => ?_)
                · have h1669 := eq_iv rfl li_6 c_h1668
                  unfold fX12_readData_142
                  try simp only [Nat.reduceAdd]
                  have h1670 := b_63_30 I_S
                  refine Sf.b (s_fX12_readInner_82_1000 fu hfu x2 S I_S (by omega)) (fun S_145 r_145 p_r_145 => ?_)
                  obtain ⟨I_S_145, G_S_145, p_r_145⟩ := p_r_145
                  have F_S_145 := Fr.tr F_S G_S_145 rfl
                  have h1671 := b_63_31 I_S_145
                  have h1672 := b_63_30 I_S_145
                  refine Sf.i (fun c_h1673 => ?_) (fun c_h1673 => ?_)
                  · have h1674 := eq_iv rfl li_0 c_h1673
                    refine Sf.i (fun c_h1675 => ?_) (fun c_h1675 => ?_)
                    · have h1676 := eq_iv rfl li_6 c_h1675
                      refine Sf.b (s_fX12_readInner_82_1000 fu hfu x2 S_145 I_S_145 (by omega)) (fun S_166 r_166 p_r_166 => ?_)
                      obtain ⟨I_S_166, G_S_166, p_r_166⟩ := p_r_166
                      have F_S_166 := Fr.tr F_S_145 G_S_166 rfl
                      have h1677 := b_63_31 I_S_166
                      have h1678 := b_63_30 I_S_166
                      try have h1679 : (((S_166.1 63 31) + (20 : Int32))).toInt = ((S_166.1 63 31)).toInt + (20) := add_iv rfl li_20 (by omega) (by omega)
                      refine Sf.w I_S_166 F_S_166 rfl (show ((0) : Int) ≤ (((S_166.1 63 31) + (20 : Int32))).toInt by omega) (show (((S_166.1 63 31) + (20 : Int32))).toInt ≤ (1100 : Int) by omega) (fun S_179 I_S_179 F_S_179 v_S_179 f_S_179 l_S_179 => ?_)
                      have h1680 := ti_eq (f_S_179 63 30 (fun _ e => absurd e (by decide)))
                      have h1681 := eq_iv rfl rfl v_S_179
                      unfold fX12_readData_182
                      try simp only [Nat.reduceAdd]
                      have h1682 := b_63_30 I_S_179
                      refine Sf.i (fun c_h1683 => ?_) (fun c_h1683 => ?_)
                      · have h1684 := le_iv rfl li_0 c_h1683
                        have h1685 := b_63_31 I_S_179
                        refine Sf.i (fun c_h1686 => ?_) (fun c_h1686 => ?_)
                        · have h1687 := eq_iv rfl rfl c_h1686
                          refine Sf.i (fun c_h1688 => ?_) (fun c_h1688 => ?_)
                          · have h1689 := eq_iv rfl li_6 c_h1688
                            try have h1690 : (((S_179.1 63 31) - (4 : Int32))).toInt = ((S_179.1 63 31)).toInt - (4) := sub_iv rfl li_4 (by omega) (by omega)
                            refine Sf.bp (s_fX12_four_82_1000 fu hfu ((S_179.1 63 31) - (4 : Int32)) S_179 I_S_179 (by omega) (by omega)) (fun r_222 p_r_222 => ?_)
                            have h1691 := i32 r_222
                            have h1692 := b_63_31 I_S_179
                            have h1693 := b_63_31 I_S
                            have h1694 := b_63_30 I_S_179
                            have h1695 := b_63_31 I_S_179
                            have h1696 := b_63_30 I_S_179
                            exact Sf.so ⟨I_S_179, F_S_179, by omega⟩
                          · have h1697 := neq_iv rfl li_6 c_h1688
                            have h1698 := i32 r_145
                            have h1699 := b_63_31 I_S_179
                            have h1700 := b_63_31 I_S
                            have h1701 := b_63_30 I_S_179
                            have h1702 := b_63_31 I_S_179
                            have h1703 := b_63_30 I_S_179
                            exact Sf.so ⟨I_S_179, F_S_179, by omega⟩
                        · have h1704 := neq_iv rfl rfl c_h1686
                          have h1705 : ((4 : Int32)).toInt = 4 := li_4
                          refine Sf.b (s_fX12_wrong fu hfu (4 : Int32) S_179 I_S_179 (by omega) (by omega)) (fun S_205 r_205 p_r_205 => ?_)
                          obtain ⟨I_S_205, G_S_205, p_r_205⟩ := p_r_205
                          have F_S_205 := Fr.tr F_S_179 G_S_205 rfl
                          have h1706 := b_63_30 I_S_205
                          have h1707 := ti_eq (G_S_205 63 31 rfl)
                          have h1708 := i32 r_205
                          have h1709 := b_63_31 I_S_205
                          have h1710 := b_63_31 I_S
                          have h1711 := b_63_30 I_S_205
                          have h1712 := b_63_31 I_S_205
                          have h1713 := b_63_30 I_S_205
                          exact Sf.so ⟨I_S_205, F_S_205, by omega⟩
                      · have h1714 := nle_iv rfl li_0 c_h1683
                        have h1715 := b_63_31 I_S_179
                        have h1716 := b_63_31 I_S
                        have h1717 := b_63_30 I_S_179
                        have h1718 := b_63_31 I_S_179
                        have h1719 := b_63_30 I_S_179
                        have h1720 : ((-1 : Int32)).toInt = -1 := li_m1
                        exact Sf.so ⟨I_S_179, F_S_179, by omega⟩
                    · have h1721 := neq_iv rfl li_6 c_h1675
                      unfold fX12_readData_182
                      try simp only [Nat.reduceAdd]
                      refine Sf.i (fun c_h1722 => ?_) (fun c_h1722 => ?_)
                      · have h1723 := le_iv rfl li_0 c_h1722
                        refine Sf.i (fun c_h1724 => ?_) (fun c_h1724 => ?_)
                        · have h1725 := eq_iv rfl rfl c_h1724
                          refine Sf.i (fun c_h1726 => ?_) (fun c_h1726 => ?_)
                          · have h1727 := eq_iv rfl li_6 c_h1726
                            try have h1728 : (((S_145.1 63 31) - (4 : Int32))).toInt = ((S_145.1 63 31)).toInt - (4) := sub_iv rfl li_4 (by omega) (by omega)
                            refine Sf.bp (s_fX12_four_82_1000 fu hfu ((S_145.1 63 31) - (4 : Int32)) S_145 I_S_145 (by omega) (by omega)) (fun r_222 p_r_222 => ?_)
                            have h1729 := i32 r_222
                            have h1730 := b_63_31 I_S_145
                            have h1731 := b_63_31 I_S
                            have h1732 := b_63_30 I_S_145
                            have h1733 := b_63_31 I_S_145
                            have h1734 := b_63_30 I_S_145
                            exact Sf.so ⟨I_S_145, F_S_145, by omega⟩
                          · have h1735 := neq_iv rfl li_6 c_h1726
                            have h1736 := i32 r_145
                            have h1737 := b_63_31 I_S_145
                            have h1738 := b_63_31 I_S
                            have h1739 := b_63_30 I_S_145
                            have h1740 := b_63_31 I_S_145
                            have h1741 := b_63_30 I_S_145
                            exact Sf.so ⟨I_S_145, F_S_145, by omega⟩
                        · have h1742 := neq_iv rfl rfl c_h1724
                          have h1743 : ((4 : Int32)).toInt = 4 := li_4
                          refine Sf.b (s_fX12_wrong fu hfu (4 : Int32) S_145 I_S_145 (by omega) (by omega)) (fun S_205 r_205 p_r_205 => ?_)
                          obtain ⟨I_S_205, G_S_205, p_r_205⟩ := p_r_205
                          have F_S_205 := Fr.tr F_S_145 G_S_205 rfl
                          have h1744 := b_63_30 I_S_205
                          have h1745 := ti_eq (G_S_205 63 31 rfl)
                          have h1746 := i32 r_205
                          have h1747 := b_63_31 I_S_205
                          have h1748 := b_63_31 I_S
                          have h1749 := b_63_30 I_S_205
                          have h1750 := b_63_31 I_S_205
                          have h1751 := b_63_30 I_S_205
                          exact Sf.so ⟨I_S_205, F_S_205, by omega⟩
                      · have h1752 := nle_iv rfl li_0 c_h1722
                        have h1753 := b_63_31 I_S_145
                        have h1754 := b_63_31 I_S
                        have h1755 := b_63_30 I_S_145
                        have h1756 := b_63_31 I_S_145
                        have h1757 := b_63_30 I_S_145
                        have h1758 : ((-1 : Int32)).toInt = -1 := li_m1
                        exact Sf.so ⟨I_S_145, F_S_145, by omega⟩
                  · have h1759 := neq_iv rfl li_0 c_h1673
                    unfold fX12_readData_182
                    try simp only [Nat.reduceAdd]
                    refine Sf.i (fun c_h1760 => ?_) (fun c_h1760 => ?_)
                    · have h1761 := le_iv rfl li_0 c_h1760
                      refine Sf.i (fun c_h1762 => ?_) (fun c_h1762 => ?_)
                      · have h1763 := eq_iv rfl rfl c_h1762
                        refine Sf.i (fun c_h1764 => ?_) (fun c_h1764 => ?_)
                        · have h1765 := eq_iv rfl li_6 c_h1764
                          try have h1766 : (((S_145.1 63 31) - (4 : Int32))).toInt = ((S_145.1 63 31)).toInt - (4) := sub_iv rfl li_4 (by omega) (by omega)
                          refine Sf.bp (s_fX12_four_82_1000 fu hfu ((S_145.1 63 31) - (4 : Int32)) S_145 I_S_145 (by omega) (by omega)) (fun r_222 p_r_222 => ?_)
                          have h1767 := i32 r_222
                          have h1768 := b_63_31 I_S_145
                          have h1769 := b_63_31 I_S
                          have h1770 := b_63_30 I_S_145
                          have h1771 := b_63_31 I_S_145
                          have h1772 := b_63_30 I_S_145
                          exact Sf.so ⟨I_S_145, F_S_145, by omega⟩
                        · have h1773 := neq_iv rfl li_6 c_h1764
                          have h1774 := i32 r_145
                          have h1775 := b_63_31 I_S_145
                          have h1776 := b_63_31 I_S
                          have h1777 := b_63_30 I_S_145
                          have h1778 := b_63_31 I_S_145
                          have h1779 := b_63_30 I_S_145
                          exact Sf.so ⟨I_S_145, F_S_145, by omega⟩
                      · have h1780 := neq_iv rfl rfl c_h1762
                        have h1781 : ((4 : Int32)).toInt = 4 := li_4
                        refine Sf.b (s_fX12_wrong fu hfu (4 : Int32) S_145 I_S_145 (by omega) (by omega)) (fun S_205 r_205 p_r_205 => ?_)
                        obtain ⟨I_S_205, G_S_205, p_r_205⟩ := p_r_205
                        have F_S_205 := Fr.tr F_S_145 G_S_205 rfl
                        have h1782 := b_63_30 I_S_205
                        have h1783 := ti_eq (G_S_205 63 31 rfl)
                        have h1784 := i32 r_205
                        have h1785 := b_63_31 I_S_205
                        have h1786 := b_63_31 I_S
                        have h1787 := b_63_30 I_S_205
                        have h1788 := b_63_31 I_S_205
                        have h1789 := b_63_30 I_S_205
                        exact Sf.so ⟨I_S_205, F_S_205, by omega⟩
                    · have h1790 := nle_iv rfl li_0 c_h1760
                      have h1791 := b_63_31 I_S_145
                      have h1792 := b_63_31 I_S
                      have h1793 := b_63_30 I_S_145
                      have h1794 := b_63_31 I_S_145
                      have h1795 := b_63_30 I_S_145
                      have h1796 : ((-1 : Int32)).toInt = -1 := li_m1
                      exact Sf.so ⟨I_S_145, F_S_145, by omega⟩
                · have h1797 := neq_iv rfl li_6 c_h1668
                  refine Sf.w I_S F_S rfl (show ((0) : Int) ≤ (((S.1 63 31) + x4)).toInt by omega) (show (((S.1 63 31) + x4)).toInt ≤ (1100 : Int) by omega) (fun S_137 I_S_137 F_S_137 v_S_137 f_S_137 l_S_137 => ?_)
                  have h1798 := ti_eq (f_S_137 63 30 (fun _ e => absurd e (by decide)))
                  have h1799 := eq_iv rfl rfl v_S_137
                  have h1800 := b_63_31 I_S_137
                  have h1801 := b_63_31 I_S
                  have h1802 := b_63_30 I_S_137
                  have h1803 := b_63_31 I_S_137
                  have h1804 := b_63_30 I_S_137
                  have h1805 : ((0 : Int32)).toInt = 0 := li_0
                  exact Sf.so ⟨I_S_137, F_S_137, by omega⟩
  · have h1806 := nle_iv rfl rfl c_h6
    have h1807 : ((3 : Int32)).toInt = 3 := li_3
    refine Sf.b (s_fX12_wrong fu hfu (3 : Int32) S I_S (by omega) (by omega)) (fun S_19 r_19 p_r_19 => ?_)
    obtain ⟨I_S_19, G_S_19, p_r_19⟩ := p_r_19
    have F_S_19 := Fr.tr F_S G_S_19 rfl
    have h1808 := b_63_30 I_S_19
    have h1809 := ti_eq (G_S_19 63 31 rfl)
    have h1810 := i32 r_19
    have h1811 := b_63_31 I_S_19
    have h1812 := b_63_31 I_S
    have h1813 := b_63_30 I_S_19
    have h1814 := b_63_31 I_S_19
    have h1815 := b_63_30 I_S_19
    exact Sf.so ⟨I_S_19, F_S_19, by omega⟩
theorem s_fX12_readRecord_132_82_1000 (fu : Nat) (hfu : 1000000000000000000 ≤ fu) (x3 : Int32) (x4 : Int32) (x5 : Int32) (x7 : Int32) (x9 : Int32) (S : St) (I_S : Inv S) (RR_S : RR S) (g0 : (S.1 63 42).toInt ≤ 89) (g1 : 0 ≤ (x4).toInt) (g2 : (x4).toInt ≤ 299) (g3 : (((x5).toInt = 2 ∨ (x5).toInt = 5) → 0 ≤ (x9).toInt ∧ (x9).toInt ≤ 299)) : Sf (fX12_readRecord_132 fu 82 1000 x3 x4 x5 x7 x9 S) (fun U r => Inv U ∧ Fr [(63, 43), (85, 0), (86, 0), (87, 0), (88, 0), (89, 0)] S U ∧ (((U.1 63 42).toInt = (S.1 63 42).toInt + 1) ∧ ((U.1 63 30).toInt = (S.1 63 30).toInt) ∧ ((U.1 63 31).toInt = (S.1 63 31).toInt)) ∧ RR U) := by
  unfold fX12_readRecord_132
  try simp only [Nat.reduceAdd]
  have F_S : Fr [(63, 43), (85, 0), (86, 0), (87, 0), (88, 0), (89, 0)] S S := Fr.refl _ _
  have h1 := b_63_42 I_S
  have h2 := b_63_42 I_S
  refine Sf.g (ck_iv (by omega) (by omega)) ?_
  have h3 := i32 x3
  refine Sf.w I_S F_S rfl (i32 _).1 (i32 _).2 (fun S_141 I_S_141 F_S_141 v_S_141 f_S_141 l_S_141 => ?_)
  have h4 := ti_eq (f_S_141 63 30 (fun e => absurd e (by decide)))
  have h5 := ti_eq (f_S_141 63 31 (fun e => absurd e (by decide)))
  have h6 := ti_eq (f_S_141 63 42 (fun e => absurd e (by decide)))
  have h7 : (S_141.1 85 (((S.1 63 42)).toNatClampNeg)).toInt = (x3).toInt := eq_iv rfl rfl v_S_141
  have h8 : (S_141.1 85 (((S_141.1 63 42)).toNatClampNeg)).toInt = (x3).toInt := by rw [f_S_141 63 42 (fun e => absurd e (by decide))]; exact eq_iv rfl rfl v_S_141
  have RR_S_141 := RR_fr (U := S_141) RR_S (f_S_141 63 42 (fun e => absurd e (by decide))) (fun b => f_S_141 87 b (fun e => absurd e (by decide))) (fun b => f_S_141 88 b (fun e => absurd e (by decide)))
  have h9 := b_63_42 I_S_141
  refine Sf.g (ck_iv (by omega) (by omega)) ?_
  have h10 := i32 x4
  refine Sf.w I_S_141 F_S_141 rfl (show ((0) : Int) ≤ (x4).toInt by omega) (show (x4).toInt ≤ (299 : Int) by omega) (fun S_152 I_S_152 F_S_152 v_S_152 f_S_152 l_S_152 => ?_)
  have h11 := ti_eq (f_S_152 63 30 (fun e => absurd e (by decide)))
  have h12 := ti_eq (f_S_152 63 31 (fun e => absurd e (by decide)))
  have h13 := ti_eq (f_S_152 63 42 (fun e => absurd e (by decide)))
  have h14 : (S_152.1 86 (((S_141.1 63 42)).toNatClampNeg)).toInt = (x4).toInt := eq_iv rfl rfl v_S_152
  have h15 : (S_152.1 86 (((S_152.1 63 42)).toNatClampNeg)).toInt = (x4).toInt := by rw [f_S_152 63 42 (fun e => absurd e (by decide))]; exact eq_iv rfl rfl v_S_152
  have RR_S_152 := RR_fr (U := S_152) RR_S_141 (f_S_152 63 42 (fun e => absurd e (by decide))) (fun b => f_S_152 87 b (fun e => absurd e (by decide))) (fun b => f_S_152 88 b (fun e => absurd e (by decide)))
  have h16 : (S_152.1 85 (((S.1 63 42)).toNatClampNeg)).toInt = (S_141.1 85 (((S.1 63 42)).toNatClampNeg)).toInt := ti_eq (f_S_152 85 (((S.1 63 42)).toNatClampNeg) (fun e => absurd e (by decide)))
  have h17 : (S_152.1 85 (((S_141.1 63 42)).toNatClampNeg)).toInt = (S_141.1 85 (((S_141.1 63 42)).toNatClampNeg)).toInt := ti_eq (f_S_152 85 (((S_141.1 63 42)).toNatClampNeg) (fun e => absurd e (by decide)))
  have h18 : (S_152.1 85 (((S_152.1 63 42)).toNatClampNeg)).toInt = (S_141.1 85 (((S_141.1 63 42)).toNatClampNeg)).toInt := by rw [f_S_152 63 42 (fun e => absurd e (by decide))]; exact ti_eq (f_S_152 85 (((S_141.1 63 42)).toNatClampNeg) (fun e => absurd e (by decide)))
  have h19 := b_63_42 I_S_152
  refine Sf.g (ck_iv (by omega) (by omega)) ?_
  have h20 := i32 x5
  refine Sf.w I_S_152 F_S_152 rfl (i32 _).1 (i32 _).2 (fun S_163 I_S_163 F_S_163 v_S_163 f_S_163 l_S_163 => ?_)
  have h21 := ti_eq (f_S_163 63 30 (fun e => absurd e (by decide)))
  have h22 := ti_eq (f_S_163 63 31 (fun e => absurd e (by decide)))
  have h23 := ti_eq (f_S_163 63 42 (fun e => absurd e (by decide)))
  have h24 : (S_163.1 87 (((S_152.1 63 42)).toNatClampNeg)).toInt = (x5).toInt := eq_iv rfl rfl v_S_163
  have h25 : (S_163.1 87 (((S_163.1 63 42)).toNatClampNeg)).toInt = (x5).toInt := by rw [f_S_163 63 42 (fun e => absurd e (by decide))]; exact eq_iv rfl rfl v_S_163
  have hc3 := cl_iv (b_63_42 I_S_152).1
  have RR_S_163 : RR S_163 := RG_w RR_S_152 (by decide) (by omega) f_S_163
  have h26 : (S_163.1 85 (((S.1 63 42)).toNatClampNeg)).toInt = (S_152.1 85 (((S.1 63 42)).toNatClampNeg)).toInt := ti_eq (f_S_163 85 (((S.1 63 42)).toNatClampNeg) (fun e => absurd e (by decide)))
  have h27 : (S_163.1 85 (((S_141.1 63 42)).toNatClampNeg)).toInt = (S_152.1 85 (((S_141.1 63 42)).toNatClampNeg)).toInt := ti_eq (f_S_163 85 (((S_141.1 63 42)).toNatClampNeg) (fun e => absurd e (by decide)))
  have h28 : (S_163.1 85 (((S_152.1 63 42)).toNatClampNeg)).toInt = (S_152.1 85 (((S_152.1 63 42)).toNatClampNeg)).toInt := ti_eq (f_S_163 85 (((S_152.1 63 42)).toNatClampNeg) (fun e => absurd e (by decide)))
  have h29 : (S_163.1 85 (((S_163.1 63 42)).toNatClampNeg)).toInt = (S_152.1 85 (((S_152.1 63 42)).toNatClampNeg)).toInt := by rw [f_S_163 63 42 (fun e => absurd e (by decide))]; exact ti_eq (f_S_163 85 (((S_152.1 63 42)).toNatClampNeg) (fun e => absurd e (by decide)))
  have h30 : (S_163.1 86 (((S_141.1 63 42)).toNatClampNeg)).toInt = (S_152.1 86 (((S_141.1 63 42)).toNatClampNeg)).toInt := ti_eq (f_S_163 86 (((S_141.1 63 42)).toNatClampNeg) (fun e => absurd e (by decide)))
  have h31 : (S_163.1 86 (((S_152.1 63 42)).toNatClampNeg)).toInt = (S_152.1 86 (((S_152.1 63 42)).toNatClampNeg)).toInt := ti_eq (f_S_163 86 (((S_152.1 63 42)).toNatClampNeg) (fun e => absurd e (by decide)))
  have h32 : (S_163.1 86 (((S_163.1 63 42)).toNatClampNeg)).toInt = (S_152.1 86 (((S_152.1 63 42)).toNatClampNeg)).toInt := by rw [f_S_163 63 42 (fun e => absurd e (by decide))]; exact ti_eq (f_S_163 86 (((S_152.1 63 42)).toNatClampNeg) (fun e => absurd e (by decide)))
  have h33 := b_63_42 I_S_163
  refine Sf.g (ck_iv (by omega) (by omega)) ?_
  have h34 := i32 x9
  refine Sf.w I_S_163 F_S_163 rfl (i32 _).1 (i32 _).2 (fun S_174 I_S_174 F_S_174 v_S_174 f_S_174 l_S_174 => ?_)
  have h35 := ti_eq (f_S_174 63 30 (fun e => absurd e (by decide)))
  have h36 := ti_eq (f_S_174 63 31 (fun e => absurd e (by decide)))
  have h37 := ti_eq (f_S_174 63 42 (fun e => absurd e (by decide)))
  have h38 : (S_174.1 88 (((S_163.1 63 42)).toNatClampNeg)).toInt = (x9).toInt := eq_iv rfl rfl v_S_174
  have h39 : (S_174.1 88 (((S_174.1 63 42)).toNatClampNeg)).toInt = (x9).toInt := by rw [f_S_174 63 42 (fun e => absurd e (by decide))]; exact eq_iv rfl rfl v_S_174
  have hc4 := cl_iv (b_63_42 I_S_163).1
  have RR_S_174 : RR S_174 := RG_w RR_S_163 (by decide) (by omega) f_S_174
  have h40 : (S_174.1 85 (((S.1 63 42)).toNatClampNeg)).toInt = (S_163.1 85 (((S.1 63 42)).toNatClampNeg)).toInt := ti_eq (f_S_174 85 (((S.1 63 42)).toNatClampNeg) (fun e => absurd e (by decide)))
  have h41 : (S_174.1 85 (((S_141.1 63 42)).toNatClampNeg)).toInt = (S_163.1 85 (((S_141.1 63 42)).toNatClampNeg)).toInt := ti_eq (f_S_174 85 (((S_141.1 63 42)).toNatClampNeg) (fun e => absurd e (by decide)))
  have h42 : (S_174.1 85 (((S_152.1 63 42)).toNatClampNeg)).toInt = (S_163.1 85 (((S_152.1 63 42)).toNatClampNeg)).toInt := ti_eq (f_S_174 85 (((S_152.1 63 42)).toNatClampNeg) (fun e => absurd e (by decide)))
  have h43 : (S_174.1 85 (((S_163.1 63 42)).toNatClampNeg)).toInt = (S_163.1 85 (((S_163.1 63 42)).toNatClampNeg)).toInt := ti_eq (f_S_174 85 (((S_163.1 63 42)).toNatClampNeg) (fun e => absurd e (by decide)))
  have h44 : (S_174.1 85 (((S_174.1 63 42)).toNatClampNeg)).toInt = (S_163.1 85 (((S_163.1 63 42)).toNatClampNeg)).toInt := by rw [f_S_174 63 42 (fun e => absurd e (by decide))]; exact ti_eq (f_S_174 85 (((S_163.1 63 42)).toNatClampNeg) (fun e => absurd e (by decide)))
  have h45 : (S_174.1 86 (((S_141.1 63 42)).toNatClampNeg)).toInt = (S_163.1 86 (((S_141.1 63 42)).toNatClampNeg)).toInt := ti_eq (f_S_174 86 (((S_141.1 63 42)).toNatClampNeg) (fun e => absurd e (by decide)))
  have h46 : (S_174.1 86 (((S_152.1 63 42)).toNatClampNeg)).toInt = (S_163.1 86 (((S_152.1 63 42)).toNatClampNeg)).toInt := ti_eq (f_S_174 86 (((S_152.1 63 42)).toNatClampNeg) (fun e => absurd e (by decide)))
  have h47 : (S_174.1 86 (((S_163.1 63 42)).toNatClampNeg)).toInt = (S_163.1 86 (((S_163.1 63 42)).toNatClampNeg)).toInt := ti_eq (f_S_174 86 (((S_163.1 63 42)).toNatClampNeg) (fun e => absurd e (by decide)))
  have h48 : (S_174.1 86 (((S_174.1 63 42)).toNatClampNeg)).toInt = (S_163.1 86 (((S_163.1 63 42)).toNatClampNeg)).toInt := by rw [f_S_174 63 42 (fun e => absurd e (by decide))]; exact ti_eq (f_S_174 86 (((S_163.1 63 42)).toNatClampNeg) (fun e => absurd e (by decide)))
  have h49 : (S_174.1 87 (((S_152.1 63 42)).toNatClampNeg)).toInt = (S_163.1 87 (((S_152.1 63 42)).toNatClampNeg)).toInt := ti_eq (f_S_174 87 (((S_152.1 63 42)).toNatClampNeg) (fun e => absurd e (by decide)))
  have h50 : (S_174.1 87 (((S_163.1 63 42)).toNatClampNeg)).toInt = (S_163.1 87 (((S_163.1 63 42)).toNatClampNeg)).toInt := ti_eq (f_S_174 87 (((S_163.1 63 42)).toNatClampNeg) (fun e => absurd e (by decide)))
  have h51 : (S_174.1 87 (((S_174.1 63 42)).toNatClampNeg)).toInt = (S_163.1 87 (((S_163.1 63 42)).toNatClampNeg)).toInt := by rw [f_S_174 63 42 (fun e => absurd e (by decide))]; exact ti_eq (f_S_174 87 (((S_163.1 63 42)).toNatClampNeg) (fun e => absurd e (by decide)))
  have h52 := b_63_42 I_S_174
  refine Sf.g (ck_iv (by omega) (by omega)) ?_
  have h53 := i32 x7
  refine Sf.w I_S_174 F_S_174 rfl (i32 _).1 (i32 _).2 (fun S_185 I_S_185 F_S_185 v_S_185 f_S_185 l_S_185 => ?_)
  have h54 := ti_eq (f_S_185 63 30 (fun e => absurd e (by decide)))
  have h55 := ti_eq (f_S_185 63 31 (fun e => absurd e (by decide)))
  have h56 := ti_eq (f_S_185 63 42 (fun e => absurd e (by decide)))
  have h57 : (S_185.1 89 (((S_174.1 63 42)).toNatClampNeg)).toInt = (x7).toInt := eq_iv rfl rfl v_S_185
  have h58 : (S_185.1 89 (((S_185.1 63 42)).toNatClampNeg)).toInt = (x7).toInt := by rw [f_S_185 63 42 (fun e => absurd e (by decide))]; exact eq_iv rfl rfl v_S_185
  have RR_S_185 := RR_fr (U := S_185) RR_S_174 (f_S_185 63 42 (fun e => absurd e (by decide))) (fun b => f_S_185 87 b (fun e => absurd e (by decide))) (fun b => f_S_185 88 b (fun e => absurd e (by decide)))
  have h59 : (S_185.1 85 (((S.1 63 42)).toNatClampNeg)).toInt = (S_174.1 85 (((S.1 63 42)).toNatClampNeg)).toInt := ti_eq (f_S_185 85 (((S.1 63 42)).toNatClampNeg) (fun e => absurd e (by decide)))
  have h60 : (S_185.1 85 (((S_141.1 63 42)).toNatClampNeg)).toInt = (S_174.1 85 (((S_141.1 63 42)).toNatClampNeg)).toInt := ti_eq (f_S_185 85 (((S_141.1 63 42)).toNatClampNeg) (fun e => absurd e (by decide)))
  have h61 : (S_185.1 85 (((S_152.1 63 42)).toNatClampNeg)).toInt = (S_174.1 85 (((S_152.1 63 42)).toNatClampNeg)).toInt := ti_eq (f_S_185 85 (((S_152.1 63 42)).toNatClampNeg) (fun e => absurd e (by decide)))
  have h62 : (S_185.1 85 (((S_163.1 63 42)).toNatClampNeg)).toInt = (S_174.1 85 (((S_163.1 63 42)).toNatClampNeg)).toInt := ti_eq (f_S_185 85 (((S_163.1 63 42)).toNatClampNeg) (fun e => absurd e (by decide)))
  have h63 : (S_185.1 85 (((S_174.1 63 42)).toNatClampNeg)).toInt = (S_174.1 85 (((S_174.1 63 42)).toNatClampNeg)).toInt := ti_eq (f_S_185 85 (((S_174.1 63 42)).toNatClampNeg) (fun e => absurd e (by decide)))
  have h64 : (S_185.1 85 (((S_185.1 63 42)).toNatClampNeg)).toInt = (S_174.1 85 (((S_174.1 63 42)).toNatClampNeg)).toInt := by rw [f_S_185 63 42 (fun e => absurd e (by decide))]; exact ti_eq (f_S_185 85 (((S_174.1 63 42)).toNatClampNeg) (fun e => absurd e (by decide)))
  have h65 : (S_185.1 86 (((S_141.1 63 42)).toNatClampNeg)).toInt = (S_174.1 86 (((S_141.1 63 42)).toNatClampNeg)).toInt := ti_eq (f_S_185 86 (((S_141.1 63 42)).toNatClampNeg) (fun e => absurd e (by decide)))
  have h66 : (S_185.1 86 (((S_152.1 63 42)).toNatClampNeg)).toInt = (S_174.1 86 (((S_152.1 63 42)).toNatClampNeg)).toInt := ti_eq (f_S_185 86 (((S_152.1 63 42)).toNatClampNeg) (fun e => absurd e (by decide)))
  have h67 : (S_185.1 86 (((S_163.1 63 42)).toNatClampNeg)).toInt = (S_174.1 86 (((S_163.1 63 42)).toNatClampNeg)).toInt := ti_eq (f_S_185 86 (((S_163.1 63 42)).toNatClampNeg) (fun e => absurd e (by decide)))
  have h68 : (S_185.1 86 (((S_174.1 63 42)).toNatClampNeg)).toInt = (S_174.1 86 (((S_174.1 63 42)).toNatClampNeg)).toInt := ti_eq (f_S_185 86 (((S_174.1 63 42)).toNatClampNeg) (fun e => absurd e (by decide)))
  have h69 : (S_185.1 86 (((S_185.1 63 42)).toNatClampNeg)).toInt = (S_174.1 86 (((S_174.1 63 42)).toNatClampNeg)).toInt := by rw [f_S_185 63 42 (fun e => absurd e (by decide))]; exact ti_eq (f_S_185 86 (((S_174.1 63 42)).toNatClampNeg) (fun e => absurd e (by decide)))
  have h70 : (S_185.1 87 (((S_152.1 63 42)).toNatClampNeg)).toInt = (S_174.1 87 (((S_152.1 63 42)).toNatClampNeg)).toInt := ti_eq (f_S_185 87 (((S_152.1 63 42)).toNatClampNeg) (fun e => absurd e (by decide)))
  have h71 : (S_185.1 87 (((S_163.1 63 42)).toNatClampNeg)).toInt = (S_174.1 87 (((S_163.1 63 42)).toNatClampNeg)).toInt := ti_eq (f_S_185 87 (((S_163.1 63 42)).toNatClampNeg) (fun e => absurd e (by decide)))
  have h72 : (S_185.1 87 (((S_174.1 63 42)).toNatClampNeg)).toInt = (S_174.1 87 (((S_174.1 63 42)).toNatClampNeg)).toInt := ti_eq (f_S_185 87 (((S_174.1 63 42)).toNatClampNeg) (fun e => absurd e (by decide)))
  have h73 : (S_185.1 87 (((S_185.1 63 42)).toNatClampNeg)).toInt = (S_174.1 87 (((S_174.1 63 42)).toNatClampNeg)).toInt := by rw [f_S_185 63 42 (fun e => absurd e (by decide))]; exact ti_eq (f_S_185 87 (((S_174.1 63 42)).toNatClampNeg) (fun e => absurd e (by decide)))
  have h74 : (S_185.1 88 (((S_163.1 63 42)).toNatClampNeg)).toInt = (S_174.1 88 (((S_163.1 63 42)).toNatClampNeg)).toInt := ti_eq (f_S_185 88 (((S_163.1 63 42)).toNatClampNeg) (fun e => absurd e (by decide)))
  have h75 : (S_185.1 88 (((S_174.1 63 42)).toNatClampNeg)).toInt = (S_174.1 88 (((S_174.1 63 42)).toNatClampNeg)).toInt := ti_eq (f_S_185 88 (((S_174.1 63 42)).toNatClampNeg) (fun e => absurd e (by decide)))
  have h76 : (S_185.1 88 (((S_185.1 63 42)).toNatClampNeg)).toInt = (S_174.1 88 (((S_174.1 63 42)).toNatClampNeg)).toInt := by rw [f_S_185 63 42 (fun e => absurd e (by decide))]; exact ti_eq (f_S_185 88 (((S_174.1 63 42)).toNatClampNeg) (fun e => absurd e (by decide)))
  have h77 := b_63_42 I_S_185
  try have h78 : (((S_185.1 63 42) + (1 : Int32))).toInt = ((S_185.1 63 42)).toInt + (1) := add_iv rfl li_1 (by omega) (by omega)
  refine Sf.w I_S_185 F_S_185 rfl (show ((0) : Int) ≤ (((S_185.1 63 42) + (1 : Int32))).toInt by omega) (show (((S_185.1 63 42) + (1 : Int32))).toInt ≤ (99 : Int) by omega) (fun S_193 I_S_193 F_S_193 v_S_193 f_S_193 l_S_193 => ?_)
  have h79 := ti_eq (f_S_193 63 30 (fun _ e => absurd e (by decide)))
  have h80 := ti_eq (f_S_193 63 31 (fun _ e => absurd e (by decide)))
  have h81 := eq_iv rfl rfl v_S_193
  have RR_S_193 : RR S_193 := RG_inc RR_S_185 (by decide) (by decide) f_S_193 (by omega) (by omega) (by show _ → _; intro hx; omega)
  have h82 : (S_193.1 85 (((S.1 63 42)).toNatClampNeg)).toInt = (S_185.1 85 (((S.1 63 42)).toNatClampNeg)).toInt := ti_eq (f_S_193 85 (((S.1 63 42)).toNatClampNeg) (fun e => absurd e (by decide)))
  have h83 : (S_193.1 85 (((S_141.1 63 42)).toNatClampNeg)).toInt = (S_185.1 85 (((S_141.1 63 42)).toNatClampNeg)).toInt := ti_eq (f_S_193 85 (((S_141.1 63 42)).toNatClampNeg) (fun e => absurd e (by decide)))
  have h84 : (S_193.1 85 (((S_152.1 63 42)).toNatClampNeg)).toInt = (S_185.1 85 (((S_152.1 63 42)).toNatClampNeg)).toInt := ti_eq (f_S_193 85 (((S_152.1 63 42)).toNatClampNeg) (fun e => absurd e (by decide)))
  have h85 : (S_193.1 85 (((S_163.1 63 42)).toNatClampNeg)).toInt = (S_185.1 85 (((S_163.1 63 42)).toNatClampNeg)).toInt := ti_eq (f_S_193 85 (((S_163.1 63 42)).toNatClampNeg) (fun e => absurd e (by decide)))
  have h86 : (S_193.1 85 (((S_174.1 63 42)).toNatClampNeg)).toInt = (S_185.1 85 (((S_174.1 63 42)).toNatClampNeg)).toInt := ti_eq (f_S_193 85 (((S_174.1 63 42)).toNatClampNeg) (fun e => absurd e (by decide)))
  have h87 : (S_193.1 85 (((S_185.1 63 42)).toNatClampNeg)).toInt = (S_185.1 85 (((S_185.1 63 42)).toNatClampNeg)).toInt := ti_eq (f_S_193 85 (((S_185.1 63 42)).toNatClampNeg) (fun e => absurd e (by decide)))
  have h88 : (S_193.1 86 (((S_141.1 63 42)).toNatClampNeg)).toInt = (S_185.1 86 (((S_141.1 63 42)).toNatClampNeg)).toInt := ti_eq (f_S_193 86 (((S_141.1 63 42)).toNatClampNeg) (fun e => absurd e (by decide)))
  have h89 : (S_193.1 86 (((S_152.1 63 42)).toNatClampNeg)).toInt = (S_185.1 86 (((S_152.1 63 42)).toNatClampNeg)).toInt := ti_eq (f_S_193 86 (((S_152.1 63 42)).toNatClampNeg) (fun e => absurd e (by decide)))
  have h90 : (S_193.1 86 (((S_163.1 63 42)).toNatClampNeg)).toInt = (S_185.1 86 (((S_163.1 63 42)).toNatClampNeg)).toInt := ti_eq (f_S_193 86 (((S_163.1 63 42)).toNatClampNeg) (fun e => absurd e (by decide)))
  have h91 : (S_193.1 86 (((S_174.1 63 42)).toNatClampNeg)).toInt = (S_185.1 86 (((S_174.1 63 42)).toNatClampNeg)).toInt := ti_eq (f_S_193 86 (((S_174.1 63 42)).toNatClampNeg) (fun e => absurd e (by decide)))
  have h92 : (S_193.1 86 (((S_185.1 63 42)).toNatClampNeg)).toInt = (S_185.1 86 (((S_185.1 63 42)).toNatClampNeg)).toInt := ti_eq (f_S_193 86 (((S_185.1 63 42)).toNatClampNeg) (fun e => absurd e (by decide)))
  have h93 : (S_193.1 87 (((S_152.1 63 42)).toNatClampNeg)).toInt = (S_185.1 87 (((S_152.1 63 42)).toNatClampNeg)).toInt := ti_eq (f_S_193 87 (((S_152.1 63 42)).toNatClampNeg) (fun e => absurd e (by decide)))
  have h94 : (S_193.1 87 (((S_163.1 63 42)).toNatClampNeg)).toInt = (S_185.1 87 (((S_163.1 63 42)).toNatClampNeg)).toInt := ti_eq (f_S_193 87 (((S_163.1 63 42)).toNatClampNeg) (fun e => absurd e (by decide)))
  have h95 : (S_193.1 87 (((S_174.1 63 42)).toNatClampNeg)).toInt = (S_185.1 87 (((S_174.1 63 42)).toNatClampNeg)).toInt := ti_eq (f_S_193 87 (((S_174.1 63 42)).toNatClampNeg) (fun e => absurd e (by decide)))
  have h96 : (S_193.1 87 (((S_185.1 63 42)).toNatClampNeg)).toInt = (S_185.1 87 (((S_185.1 63 42)).toNatClampNeg)).toInt := ti_eq (f_S_193 87 (((S_185.1 63 42)).toNatClampNeg) (fun e => absurd e (by decide)))
  have h97 : (S_193.1 88 (((S_163.1 63 42)).toNatClampNeg)).toInt = (S_185.1 88 (((S_163.1 63 42)).toNatClampNeg)).toInt := ti_eq (f_S_193 88 (((S_163.1 63 42)).toNatClampNeg) (fun e => absurd e (by decide)))
  have h98 : (S_193.1 88 (((S_174.1 63 42)).toNatClampNeg)).toInt = (S_185.1 88 (((S_174.1 63 42)).toNatClampNeg)).toInt := ti_eq (f_S_193 88 (((S_174.1 63 42)).toNatClampNeg) (fun e => absurd e (by decide)))
  have h99 : (S_193.1 88 (((S_185.1 63 42)).toNatClampNeg)).toInt = (S_185.1 88 (((S_185.1 63 42)).toNatClampNeg)).toInt := ti_eq (f_S_193 88 (((S_185.1 63 42)).toNatClampNeg) (fun e => absurd e (by decide)))
  have h100 : (S_193.1 89 (((S_174.1 63 42)).toNatClampNeg)).toInt = (S_185.1 89 (((S_174.1 63 42)).toNatClampNeg)).toInt := ti_eq (f_S_193 89 (((S_174.1 63 42)).toNatClampNeg) (fun e => absurd e (by decide)))
  have h101 : (S_193.1 89 (((S_185.1 63 42)).toNatClampNeg)).toInt = (S_185.1 89 (((S_185.1 63 42)).toNatClampNeg)).toInt := ti_eq (f_S_193 89 (((S_185.1 63 42)).toNatClampNeg) (fun e => absurd e (by decide)))
  have h102 := b_63_42 I_S_193
  have h103 := b_63_42 I_S
  have h104 := b_63_30 I_S_193
  have h105 := b_63_30 I_S
  have h106 := b_63_31 I_S_193
  have h107 := b_63_31 I_S
  have h108 : ((0 : Int32)).toInt = 0 := li_0
  exact Sf.so ⟨I_S_193, F_S_193, by omega, RR_S_193⟩
theorem s_fX12_readRecord_82_1000 (fu : Nat) (hfu : 1000000000000000000 ≤ fu) (x2 : Int32) (x3 : Int32) (S : St) (I_S : Inv S) (RR_S : RR S) (g0 : (x2).toInt ≤ 1000) (g1 : (S.1 63 30).toInt = 0) (g2 : ((S.1 63 30).toInt = 0 → 12 + 11 * (S.1 63 42).toInt ≤ (S.1 63 31).toInt ∧ (S.1 63 31).toInt ≤ (x2).toInt)) : Sf (fX12_readRecord fu 82 1000 x2 x3 S) (fun U r => Inv U ∧ Fr [(63, 6), (63, 9), (63, 31), (63, 32), (63, 43), (64, 0), (65, 0), (66, 0), (67, 0), (68, 0), (69, 0), (85, 0), (86, 0), (87, 0), (88, 0), (89, 0)] S U ∧ ((((U.1 63 30).toInt = 0 → 12 + 11 * (U.1 63 42).toInt ≤ (U.1 63 31).toInt ∧ (U.1 63 31).toInt ≤ (x2).toInt))) ∧ RR U) := by
  unfold fX12_readRecord
  try simp only [Nat.reduceAdd]
  have F_S : Fr [(63, 6), (63, 9), (63, 31), (63, 32), (63, 43), (64, 0), (65, 0), (66, 0), (67, 0), (68, 0), (69, 0), (85, 0), (86, 0), (87, 0), (88, 0), (89, 0)] S S := Fr.refl _ _
  have h1 := b_63_30 I_S
  have h2 := b_63_30 I_S
  have h3 := b_63_42 I_S
  have h4 := b_63_31 I_S
  have h5 := b_63_31 I_S
  have h6 := i32 x2
  have h7 := b_63_31 I_S
  have h8 := b_63_30 I_S
  refine Sf.b (s_fX12_readName_82_1000 fu hfu x2 S I_S (by omega)) (fun S_3 r_3 p_r_3 => ?_)
  obtain ⟨I_S_3, G_S_3, p_r_3⟩ := p_r_3
  have F_S_3 := Fr.tr F_S G_S_3 rfl
  have RR_S_3 := RR_fr (U := S_3) RR_S (G_S_3 63 42 rfl) (fun b => G_S_3 87 b rfl) (fun b => G_S_3 88 b rfl)
  have h9 := b_63_31 I_S_3
  have h10 := b_63_30 I_S_3
  have h11 := ti_eq (G_S_3 63 42 rfl)
  refine Sf.i (fun c_h12 => ?_) (fun c_h12 => ?_)
  · have h13 := le_iv rfl li_0 c_h12
    try have h14 : (((S_3.1 63 31) + (10 : Int32))).toInt = ((S_3.1 63 31)).toInt + (10) := add_iv rfl li_10 (by omega) (by omega)
    refine Sf.i (fun c_h15 => ?_) (fun c_h15 => ?_)
    · have h16 := le_iv rfl rfl c_h15
      refine Sf.bp (s_fX12_two_82_1000 fu hfu (S_3.1 63 31) S_3 I_S_3 (by omega) (by omega)) (fun r_38 p_r_38 => ?_)
      try have h17 : (((S_3.1 63 31) + (2 : Int32))).toInt = ((S_3.1 63 31)).toInt + (2) := add_iv rfl li_2 (by omega) (by omega)
      refine Sf.bp (s_fX12_two_82_1000 fu hfu ((S_3.1 63 31) + (2 : Int32)) S_3 I_S_3 (by omega) (by omega)) (fun r_50 p_r_50 => ?_)
      try have h18 : (((S_3.1 63 31) + (4 : Int32))).toInt = ((S_3.1 63 31)).toInt + (4) := add_iv rfl li_4 (by omega) (by omega)
      refine Sf.bp (s_fX12_four_82_1000 fu hfu ((S_3.1 63 31) + (4 : Int32)) S_3 I_S_3 (by omega) (by omega)) (fun r_62 p_r_62 => ?_)
      try have h19 : (((S_3.1 63 31) + (8 : Int32))).toInt = ((S_3.1 63 31)).toInt + (8) := add_iv rfl li_8 (by omega) (by omega)
      refine Sf.bp (s_fX12_two_82_1000 fu hfu ((S_3.1 63 31) + (8 : Int32)) S_3 I_S_3 (by omega) (by omega)) (fun r_75 p_r_75 => ?_)
      refine Sf.w I_S_3 F_S_3 rfl (show ((0) : Int) ≤ (((S_3.1 63 31) + (10 : Int32))).toInt by omega) (show (((S_3.1 63 31) + (10 : Int32))).toInt ≤ (1100 : Int) by omega) (fun S_88 I_S_88 F_S_88 v_S_88 f_S_88 l_S_88 => ?_)
      have h20 := ti_eq (f_S_88 63 30 (fun _ e => absurd e (by decide)))
      have h21 := eq_iv rfl rfl v_S_88
      have h22 := ti_eq (f_S_88 63 42 (fun _ e => absurd e (by decide)))
      have RR_S_88 := RR_fr (U := S_88) RR_S_3 (f_S_88 63 42 (fun _ e => absurd e (by decide))) (fun b => f_S_88 87 b (fun e => absurd e (by decide))) (fun b => f_S_88 88 b (fun e => absurd e (by decide)))
      have h23 := i32 r_38
      have h24 := i32 r_75
      have h25 := b_63_30 I_S_88
      have h26 := b_63_31 I_S_88
      refine Sf.b (s_fX12_readData_82_1000 fu hfu x2 r_38 r_75 S_88 I_S_88 (by omega) (by omega) (by omega) (by omega)) (fun S_98 r_98 p_r_98 => ?_)
      obtain ⟨I_S_98, G_S_98, p_r_98⟩ := p_r_98
      have F_S_98 := Fr.tr F_S_88 G_S_98 rfl
      have RR_S_98 := RR_fr (U := S_98) RR_S_88 (G_S_98 63 42 rfl) (fun b => G_S_98 87 b rfl) (fun b => G_S_98 88 b rfl)
      have h27 := b_63_31 I_S_98
      have h28 := b_63_30 I_S_98
      have h29 := ti_eq (G_S_98 63 42 rfl)
      refine Sf.i (fun c_h30 => ?_) (fun c_h30 => ?_)
      · have h31 := lt_iv li_0 rfl c_h30
        have h32 := b_63_30 I_S_98
        have h33 := b_63_42 I_S_98
        have h34 := b_63_31 I_S_98
        have h35 := b_63_31 I_S_98
        have h36 : ((0 : Int32)).toInt = 0 := li_0
        exact Sf.so ⟨I_S_98, F_S_98, by omega, RR_S_98⟩
      · have h37 := nlt_iv li_0 rfl c_h30
        have h38 := i32 r_50
        refine Sf.i (fun c_h39 => ?_) (fun c_h39 => ?_)
        · have h40 := eq_iv rfl li_1 c_h39
          refine Sf.bp (s_fX12_isType fu hfu r_38 S_98 I_S_98) (fun r_118 p_r_118 => ?_)
          have h41 := i32 r_118
          refine Sf.i (fun c_h42 => ?_) (fun c_h42 => ?_)
          · have h43 := eq_iv rfl li_0 c_h42
            refine Sf.i (fun c_h44 => ?_) (fun c_h44 => ?_)
            · have h45 := eq_iv rfl li_6 c_h44
              have h46 := i32 x3
              have h47 := i32 r_3
              have h48 := i32 r_62
              have h49 := i32 r_98
              have h50 := b_63_42 I_S_98
              refine Sf.mono (s_fX12_readRecord_132_82_1000 fu hfu x3 r_3 r_38 r_62 r_98 S_98 I_S_98 RR_S_98 (by omega) (by omega) (by omega) (by omega)) (fun U r p_h51 => ?_)
              obtain ⟨I_U, G_U, p_h51, RR_U⟩ := p_h51
              have h52 := b_63_30 I_U
              have h53 := b_63_42 I_U
              have h54 := b_63_31 I_U
              have h55 := b_63_31 I_U
              have h56 := ti_eq (G_U 63 30 rfl)
              have h57 := ti_eq (G_U 63 31 rfl)
              exact ⟨I_U, Fr.tr F_S_98 G_U rfl, by omega, RR_U⟩
            · have h58 := neq_iv rfl li_6 c_h44
              have h59 := b_63_30 I_S_98
              have h60 := b_63_42 I_S_98
              have h61 := b_63_31 I_S_98
              have h62 := b_63_31 I_S_98
              have h63 : ((0 : Int32)).toInt = 0 := li_0
              exact Sf.so ⟨I_S_98, F_S_98, by omega, RR_S_98⟩
          · have h64 := neq_iv rfl li_0 c_h42
            have h65 := i32 x3
            have h66 := i32 r_3
            have h67 := i32 r_62
            have h68 := i32 r_98
            have h69 := b_63_42 I_S_98
            refine Sf.mono (s_fX12_readRecord_132_82_1000 fu hfu x3 r_3 r_38 r_62 r_98 S_98 I_S_98 RR_S_98 (by omega) (by omega) (by omega) (by omega)) (fun U r p_h70 => ?_)
            obtain ⟨I_U, G_U, p_h70, RR_U⟩ := p_h70
            have h71 := b_63_30 I_U
            have h72 := b_63_42 I_U
            have h73 := b_63_31 I_U
            have h74 := b_63_31 I_U
            have h75 := ti_eq (G_U 63 30 rfl)
            have h76 := ti_eq (G_U 63 31 rfl)
            exact ⟨I_U, Fr.tr F_S_98 G_U rfl, by omega, RR_U⟩
        · have h77 := neq_iv rfl li_1 c_h39
          have h78 := b_63_30 I_S_98
          have h79 := b_63_42 I_S_98
          have h80 := b_63_31 I_S_98
          have h81 := b_63_31 I_S_98
          have h82 : ((0 : Int32)).toInt = 0 := li_0
          exact Sf.so ⟨I_S_98, F_S_98, by omega, RR_S_98⟩
    · have h83 := nle_iv rfl rfl c_h15
      refine Sf.w I_S_3 F_S_3 rfl (show ((0) : Int) ≤ ((3 : Int32)).toInt by rw [li_3]; omega) (show ((3 : Int32)).toInt ≤ (6 : Int) by rw [li_3]; omega) (fun S_29 I_S_29 F_S_29 v_S_29 f_S_29 l_S_29 => ?_)
      have h84 := eq_iv rfl li_3 v_S_29
      have h85 := ti_eq (f_S_29 63 31 (fun _ e => absurd e (by decide)))
      have h86 := ti_eq (f_S_29 63 42 (fun _ e => absurd e (by decide)))
      have RR_S_29 := RR_fr (U := S_29) RR_S_3 (f_S_29 63 42 (fun _ e => absurd e (by decide))) (fun b => f_S_29 87 b (fun e => absurd e (by decide))) (fun b => f_S_29 88 b (fun e => absurd e (by decide)))
      have h87 := b_63_30 I_S_29
      have h88 := b_63_42 I_S_29
      have h89 := b_63_31 I_S_29
      have h90 := b_63_31 I_S_29
      have h91 : ((0 : Int32)).toInt = 0 := li_0
      exact Sf.so ⟨I_S_29, F_S_29, by omega, RR_S_29⟩
  · have h92 := nle_iv rfl li_0 c_h12
    have h93 := b_63_30 I_S_3
    have h94 := b_63_42 I_S_3
    have h95 := b_63_31 I_S_3
    have h96 := b_63_31 I_S_3
    have h97 : ((0 : Int32)).toInt = 0 := li_0
    exact Sf.so ⟨I_S_3, F_S_3, by omega, RR_S_3⟩
theorem s_fX12_reads_161_82_1000 (fu : Nat) (hfu : 1000000000000000000 ≤ fu) (k_144 : Int32 → Int32 → St → Option (St × Int32)) (N : Nat) (hk_k_144 : ∀ (x2 : Int32) (x3 : Int32) (S : St), Inv S → RR S → (12 ≤ (x2).toInt) → ((x2).toInt ≤ 1000) → (0 ≤ (x3).toInt) → (((S.1 63 30).toInt = 0 → 12 + 11 * (S.1 63 42).toInt ≤ (S.1 63 31).toInt ∧ (S.1 63 31).toInt ≤ (x2).toInt)) → (3 - (x3).toInt).toNat < N → Sf (k_144 x2 x3 S) (fun U r => Inv U ∧ Fr [(63, 6), (63, 9), (63, 31), (63, 32), (63, 43), (64, 0), (65, 0), (66, 0), (67, 0), (68, 0), (69, 0), (85, 0), (86, 0), (87, 0), (88, 0), (89, 0)] S U ∧ ((0 ≤ r.toInt) ∧ (r.toInt ≤ 1)) ∧ RR U)) : ∀ (n : Nat) (x2 : Int32) (x3 : Int32) (x4 : Int32) (S : St), Inv S → RR S → (12 ≤ (x2).toInt) → ((x2).toInt ≤ 1000) → (0 ≤ (x3).toInt) → ((x3).toInt < 3) → (((S.1 63 30).toInt = 0 → 12 + 11 * (S.1 63 42).toInt ≤ (S.1 63 31).toInt ∧ (S.1 63 31).toInt ≤ (x2).toInt)) → ((3 - (x3).toInt).toNat ≤ N) → ((x4).toInt).toNat < n → Sf (fX12_reads_161 fu 82 1000 k_144 n x2 x3 x4 S) (fun U r => Inv U ∧ Fr [(63, 6), (63, 9), (63, 31), (63, 32), (63, 43), (64, 0), (65, 0), (66, 0), (67, 0), (68, 0), (69, 0), (85, 0), (86, 0), (87, 0), (88, 0), (89, 0)] S U ∧ ((0 ≤ r.toInt) ∧ (r.toInt ≤ 1)) ∧ RR U) := by
  intro n
  induction n with
  | zero => intro x2 x3 x4 S I_S RR_S g0 g1 g2 g3 g4 g5 hm; exact absurd hm (Nat.not_lt_zero _)
  | succ n ih =>
    intro x2 x3 x4 S I_S RR_S g0 g1 g2 g3 g4 g5 hm
    rw [fX12_reads_161_s]
    try simp only [Nat.reduceAdd]
    have F_S : Fr [(63, 6), (63, 9), (63, 31), (63, 32), (63, 43), (64, 0), (65, 0), (66, 0), (67, 0), (68, 0), (69, 0), (85, 0), (86, 0), (87, 0), (88, 0), (89, 0)] S S := Fr.refl _ _
    have h1 := b_63_30 I_S
    have h2 := b_63_42 I_S
    have h3 := b_63_31 I_S
    have h4 := b_63_31 I_S
    have h5 := i32 x4
    refine Sf.i (fun c_h6 => ?_) (fun c_h6 => ?_)
    · have h7 := le_iv rfl li_0 c_h6
      unfold fX12_reads_186
      try simp only [Nat.reduceAdd]
      have h8 := i32 x2
      have h9 := i32 x3
      try have h10 : ((x3 + (1 : Int32))).toInt = (x3).toInt + (1) := add_iv rfl li_1 (by omega) (by omega)
      have h11 := b_63_30 I_S
      have h12 := b_63_42 I_S
      have h13 := b_63_31 I_S
      refine Sf.mono (hk_k_144 x2 (x3 + (1 : Int32)) S I_S RR_S (by omega) (by omega) (by omega) (by omega) (by omega)) (fun U r p_h14 => ?_)
      obtain ⟨I_U, G_U, p_h14, RR_U⟩ := p_h14
      exact ⟨I_U, Fr.tr F_S G_U rfl, by omega, RR_U⟩
    · have h15 := nle_iv rfl li_0 c_h6
      have h16 := b_63_30 I_S
      refine Sf.i (fun c_h17 => ?_) (fun c_h17 => ?_)
      · have h18 := eq_iv rfl li_0 c_h17
        have h19 := i32 x2
        have h20 := i32 x3
        have h21 := b_63_42 I_S
        have h22 := b_63_31 I_S
        refine Sf.b (s_fX12_readRecord_82_1000 fu hfu x2 x3 S I_S RR_S (by omega) (by omega) (by omega)) (fun S_177 r_177_ p_r_177_ => ?_)
        obtain ⟨I_S_177, G_S_177, p_r_177_, RR_S_177⟩ := p_r_177_
        have F_S_177 := Fr.tr F_S G_S_177 rfl
        have h23 := b_63_30 I_S_177
        have h24 := b_63_42 I_S_177
        have h25 := b_63_31 I_S_177
        obtain ⟨d26, e_d26⟩ : ∃ d : Int32, d = (x4 + (-1 : Int32)) := ⟨_, rfl⟩
        have h27 : (d26).toInt = (x4).toInt + (-1) := by rw [e_d26]; exact add_iv rfl li_m1 (by omega) (by omega)
        rw [← e_d26]
        clear e_d26
        refine Sf.mono (ih x2 x3 d26 S_177 I_S_177 RR_S_177 (by omega) (by omega) (by omega) (by omega) (by omega) (by omega) (by omega)) (fun U r p_h28 => ?_)
        obtain ⟨I_U, G_U, p_h28, RR_U⟩ := p_h28
        exact ⟨I_U, Fr.tr F_S_177 G_U rfl, by omega, RR_U⟩
      · have h29 := neq_iv rfl li_0 c_h17
        unfold fX12_reads_186
        try simp only [Nat.reduceAdd]
        have h30 := i32 x2
        have h31 := i32 x3
        try have h32 : ((x3 + (1 : Int32))).toInt = (x3).toInt + (1) := add_iv rfl li_1 (by omega) (by omega)
        have h33 := b_63_42 I_S
        have h34 := b_63_31 I_S
        refine Sf.mono (hk_k_144 x2 (x3 + (1 : Int32)) S I_S RR_S (by omega) (by omega) (by omega) (by omega) (by omega)) (fun U r p_h35 => ?_)
        obtain ⟨I_U, G_U, p_h35, RR_U⟩ := p_h35
        exact ⟨I_U, Fr.tr F_S G_U rfl, by omega, RR_U⟩
theorem s_fX12_reads_144_82_1000 (fu : Nat) (hfu : 1000000000000000000 ≤ fu) : ∀ (n : Nat) (x2 : Int32) (x3 : Int32) (S : St), Inv S → RR S → (12 ≤ (x2).toInt) → ((x2).toInt ≤ 1000) → (0 ≤ (x3).toInt) → (((S.1 63 30).toInt = 0 → 12 + 11 * (S.1 63 42).toInt ≤ (S.1 63 31).toInt ∧ (S.1 63 31).toInt ≤ (x2).toInt)) → (3 - (x3).toInt).toNat < n → Sf (fX12_reads_144 fu 82 1000 n x2 x3 S) (fun U r => Inv U ∧ Fr [(63, 6), (63, 9), (63, 31), (63, 32), (63, 43), (64, 0), (65, 0), (66, 0), (67, 0), (68, 0), (69, 0), (85, 0), (86, 0), (87, 0), (88, 0), (89, 0)] S U ∧ ((0 ≤ r.toInt) ∧ (r.toInt ≤ 1)) ∧ RR U) := by
  intro n
  induction n with
  | zero => intro x2 x3 S I_S RR_S g0 g1 g2 g3 hm; exact absurd hm (Nat.not_lt_zero _)
  | succ n ih =>
    intro x2 x3 S I_S RR_S g0 g1 g2 g3 hm
    rw [fX12_reads_144_s]
    try simp only [Nat.reduceAdd]
    have F_S : Fr [(63, 6), (63, 9), (63, 31), (63, 32), (63, 43), (64, 0), (65, 0), (66, 0), (67, 0), (68, 0), (69, 0), (85, 0), (86, 0), (87, 0), (88, 0), (89, 0)] S S := Fr.refl _ _
    have h1 := b_63_30 I_S
    have h2 := b_63_42 I_S
    have h3 := b_63_31 I_S
    have h4 := b_63_31 I_S
    have h5 := i32 x3
    refine Sf.i (fun c_h6 => ?_) (fun c_h6 => ?_)
    · have h7 := le_iv li_3 rfl c_h6
      have h8 := b_63_30 I_S
      refine Sf.i (fun c_h9 => ?_) (fun c_h9 => ?_)
      · have h10 := eq_iv rfl li_0 c_h9
        have h11 := b_63_31 I_S
        have h12 := i32 x2
        refine Sf.i (fun c_h13 => ?_) (fun c_h13 => ?_)
        · have h14 := le_iv rfl rfl c_h13
          unfold fX12_reads_212
          try simp only [Nat.reduceAdd]
          refine Sf.i (fun c_h15 => ?_) (fun c_h15 => ?_)
          · have h16 := eq_iv rfl li_0 c_h15
            have h17 : ((1 : Int32)).toInt = 1 := li_1
            exact Sf.so ⟨I_S, F_S, by omega, RR_S⟩
          · have h18 := neq_iv rfl li_0 c_h15
            have h19 : ((0 : Int32)).toInt = 0 := li_0
            exact Sf.so ⟨I_S, F_S, by omega, RR_S⟩
        · have h20 := nle_iv rfl rfl c_h13
          refine Sf.w I_S F_S rfl (show ((0) : Int) ≤ ((5 : Int32)).toInt by rw [li_5]; omega) (show ((5 : Int32)).toInt ≤ (6 : Int) by rw [li_5]; omega) (fun S_209 I_S_209 F_S_209 v_S_209 f_S_209 l_S_209 => ?_)
          have h21 := eq_iv rfl li_5 v_S_209
          have h22 := ti_eq (f_S_209 63 31 (fun _ e => absurd e (by decide)))
          have h23 := ti_eq (f_S_209 63 42 (fun _ e => absurd e (by decide)))
          have RR_S_209 := RR_fr (U := S_209) RR_S (f_S_209 63 42 (fun _ e => absurd e (by decide))) (fun b => f_S_209 87 b (fun e => absurd e (by decide))) (fun b => f_S_209 88 b (fun e => absurd e (by decide)))
          unfold fX12_reads_212
          try simp only [Nat.reduceAdd]
          have h24 := b_63_30 I_S_209
          refine Sf.i (fun c_h25 => ?_) (fun c_h25 => ?_)
          · have h26 := eq_iv rfl li_0 c_h25
            have h27 : ((1 : Int32)).toInt = 1 := li_1
            exact Sf.so ⟨I_S_209, F_S_209, by omega, RR_S_209⟩
          · have h28 := neq_iv rfl li_0 c_h25
            have h29 : ((0 : Int32)).toInt = 0 := li_0
            exact Sf.so ⟨I_S_209, F_S_209, by omega, RR_S_209⟩
      · have h30 := neq_iv rfl li_0 c_h9
        unfold fX12_reads_212
        try simp only [Nat.reduceAdd]
        refine Sf.i (fun c_h31 => ?_) (fun c_h31 => ?_)
        · have h32 := eq_iv rfl li_0 c_h31
          have h33 : ((1 : Int32)).toInt = 1 := li_1
          exact Sf.so ⟨I_S, F_S, by omega, RR_S⟩
        · have h34 := neq_iv rfl li_0 c_h31
          have h35 : ((0 : Int32)).toInt = 0 := li_0
          exact Sf.so ⟨I_S, F_S, by omega, RR_S⟩
    · have h36 := nle_iv li_3 rfl c_h6
      try have h37 : (((2 : Int32) * x3)).toInt = (2) * (x3).toInt := mul_iv li_2 rfl (by omega) (by omega)
      try have h38 : (((6 : Int32) + ((2 : Int32) * x3))).toInt = (6) + (((2 : Int32) * x3)).toInt := add_iv li_6 rfl (by omega) (by omega)
      refine Sf.bp (s_fX12_two_82_1000 fu hfu ((6 : Int32) + ((2 : Int32) * x3)) S I_S (by omega) (by omega)) (fun r_156 p_r_156 => ?_)
      have h39 := i32 x2
      have h40 := i32 r_156
      have h41 := b_63_30 I_S
      have h42 := b_63_42 I_S
      have h43 := b_63_31 I_S
      refine Sf.mono (s_fX12_reads_161_82_1000 fu hfu _ _ ih fu x2 x3 r_156 S I_S RR_S (by omega) (by omega) (by omega) (by omega) (by omega) (by omega) (by omega)) (fun U r p_h44 => ?_)
      obtain ⟨I_U, G_U, p_h44, RR_U⟩ := p_h44
      exact ⟨I_U, Fr.tr F_S G_U rfl, by omega, RR_U⟩
theorem s_fX12_reads_82_1000 (fu : Nat) (hfu : 1000000000000000000 ≤ fu) (x2 : Int32) (S : St) (I_S : Inv S) (g0 : (x2).toInt ≤ 1000) : Sf (fX12_reads fu 82 1000 x2 S) (fun U r => Inv U ∧ Fr [(63, 6), (63, 9), (63, 31), (63, 32), (63, 33), (63, 34), (63, 35), (63, 36), (63, 37), (63, 43), (64, 0), (65, 0), (66, 0), (67, 0), (68, 0), (69, 0), (85, 0), (86, 0), (87, 0), (88, 0), (89, 0)] S U ∧ ((0 ≤ r.toInt) ∧ (r.toInt ≤ 1)) ∧ RR U) := by
  unfold fX12_reads
  try simp only [Nat.reduceAdd]
  have F_S : Fr [(63, 6), (63, 9), (63, 31), (63, 32), (63, 33), (63, 34), (63, 35), (63, 36), (63, 37), (63, 43), (64, 0), (65, 0), (66, 0), (67, 0), (68, 0), (69, 0), (85, 0), (86, 0), (87, 0), (88, 0), (89, 0)] S S := Fr.refl _ _
  refine Sf.w I_S F_S rfl (show ((0) : Int) ≤ ((0 : Int32)).toInt by rw [li_0]; omega) (show ((0 : Int32)).toInt ≤ (6 : Int) by rw [li_0]; omega) (fun S_2 I_S_2 F_S_2 v_S_2 f_S_2 l_S_2 => ?_)
  have h1 := eq_iv rfl li_0 v_S_2
  have h2 := ti_eq (f_S_2 63 31 (fun _ e => absurd e (by decide)))
  have h3 := ti_eq (f_S_2 63 42 (fun _ e => absurd e (by decide)))
  refine Sf.w I_S_2 F_S_2 rfl (show ((0) : Int) ≤ ((0 : Int32)).toInt by rw [li_0]; omega) (show ((0 : Int32)).toInt ≤ (99 : Int) by rw [li_0]; omega) (fun S_7 I_S_7 F_S_7 v_S_7 f_S_7 l_S_7 => ?_)
  have h4 := ti_eq (f_S_7 63 30 (fun _ e => absurd e (by decide)))
  have h5 := ti_eq (f_S_7 63 31 (fun _ e => absurd e (by decide)))
  have h6 := eq_iv rfl li_0 v_S_7
  have RR_S_7 : RR S_7 := RG_zero (by omega)
  have h7 := i32 x2
  refine Sf.i (fun c_h8 => ?_) (fun c_h8 => ?_)
  · have h9 := lt_iv rfl li_12 c_h8
    unfold fX12_reads_25
    try simp only [Nat.reduceAdd]
    have h10 : ((1 : Int32)).toInt = 1 := li_1
    refine Sf.b (s_fX12_wrong fu hfu (1 : Int32) S_7 I_S_7 (by omega) (by omega)) (fun S_27 r_27 p_r_27 => ?_)
    obtain ⟨I_S_27, G_S_27, p_r_27⟩ := p_r_27
    have F_S_27 := Fr.tr F_S_7 G_S_27 rfl
    have RR_S_27 := RR_fr (U := S_27) RR_S_7 (G_S_27 63 42 rfl) (fun b => G_S_27 87 b rfl) (fun b => G_S_27 88 b rfl)
    have h11 := b_63_30 I_S_27
    have h12 := ti_eq (G_S_27 63 31 rfl)
    have h13 := ti_eq (G_S_27 63 42 rfl)
    have h14 := i32 r_27
    refine Sf.i (fun c_h15 => ?_) (fun c_h15 => ?_)
    · have h16 := le_iv rfl li_0 c_h15
      have h17 : ((0 : Int32)).toInt = 0 := li_0
      exact Sf.so ⟨I_S_27, F_S_27, by omega, RR_S_27⟩
    · have h18 := nle_iv rfl li_0 c_h15
      have h19 : ((1 : Int32)).toInt = 1 := li_1
      exact Sf.so ⟨I_S_27, F_S_27, by omega, RR_S_27⟩
  · have h20 := nlt_iv rfl li_12 c_h8
    have h21 : ((4 : Int32)).toInt = 4 := li_4
    refine Sf.bp (s_fX12_two_82_1000 fu hfu (4 : Int32) S_7 I_S_7 (by omega) (by omega)) (fun r_18 p_r_18 => ?_)
    have h22 := i32 r_18
    refine Sf.i (fun c_h23 => ?_) (fun c_h23 => ?_)
    · have h24 := eq_iv rfl li_1 c_h23
      have h25 : ((0 : Int32)).toInt = 0 := li_0
      refine Sf.bp (s_fX12_two_82_1000 fu hfu (0 : Int32) S_7 I_S_7 (by omega) (by omega)) (fun r_42 p_r_42 => ?_)
      have h26 := i32 r_42
      refine Sf.w I_S_7 F_S_7 rfl (i32 _).1 (i32 _).2 (fun S_45 I_S_45 F_S_45 v_S_45 f_S_45 l_S_45 => ?_)
      have h27 := ti_eq (f_S_45 63 30 (fun _ e => absurd e (by decide)))
      have h28 := ti_eq (f_S_45 63 31 (fun _ e => absurd e (by decide)))
      have h29 := ti_eq (f_S_45 63 42 (fun _ e => absurd e (by decide)))
      have RR_S_45 := RR_fr (U := S_45) RR_S_7 (f_S_45 63 42 (fun _ e => absurd e (by decide))) (fun b => f_S_45 87 b (fun e => absurd e (by decide))) (fun b => f_S_45 88 b (fun e => absurd e (by decide)))
      have h30 : ((2 : Int32)).toInt = 2 := li_2
      refine Sf.bp (s_fX12_two_82_1000 fu hfu (2 : Int32) S_45 I_S_45 (by omega) (by omega)) (fun r_51 p_r_51 => ?_)
      have h31 := i32 r_51
      refine Sf.w I_S_45 F_S_45 rfl (i32 _).1 (i32 _).2 (fun S_54 I_S_54 F_S_54 v_S_54 f_S_54 l_S_54 => ?_)
      have h32 := ti_eq (f_S_54 63 30 (fun _ e => absurd e (by decide)))
      have h33 := ti_eq (f_S_54 63 31 (fun _ e => absurd e (by decide)))
      have h34 := ti_eq (f_S_54 63 42 (fun _ e => absurd e (by decide)))
      have RR_S_54 := RR_fr (U := S_54) RR_S_45 (f_S_54 63 42 (fun _ e => absurd e (by decide))) (fun b => f_S_54 87 b (fun e => absurd e (by decide))) (fun b => f_S_54 88 b (fun e => absurd e (by decide)))
      refine Sf.w I_S_54 F_S_54 rfl (show ((0) : Int) ≤ ((12 : Int32)).toInt by rw [li_12]; omega) (show ((12 : Int32)).toInt ≤ (1100 : Int) by rw [li_12]; omega) (fun S_60 I_S_60 F_S_60 v_S_60 f_S_60 l_S_60 => ?_)
      have h35 := ti_eq (f_S_60 63 30 (fun _ e => absurd e (by decide)))
      have h36 := eq_iv rfl li_12 v_S_60
      have h37 := ti_eq (f_S_60 63 42 (fun _ e => absurd e (by decide)))
      have RR_S_60 := RR_fr (U := S_60) RR_S_54 (f_S_60 63 42 (fun _ e => absurd e (by decide))) (fun b => f_S_60 87 b (fun e => absurd e (by decide))) (fun b => f_S_60 88 b (fun e => absurd e (by decide)))
      have h38 := b_63_31 I_S_60
      have h39 := b_63_30 I_S_60
      refine Sf.b (s_fX12_readName_82_1000 fu hfu x2 S_60 I_S_60 (by omega)) (fun S_67 r_67 p_r_67 => ?_)
      obtain ⟨I_S_67, G_S_67, p_r_67⟩ := p_r_67
      have F_S_67 := Fr.tr F_S_60 G_S_67 rfl
      have RR_S_67 := RR_fr (U := S_67) RR_S_60 (G_S_67 63 42 rfl) (fun b => G_S_67 87 b rfl) (fun b => G_S_67 88 b rfl)
      have h40 := b_63_31 I_S_67
      have h41 := b_63_30 I_S_67
      have h42 := ti_eq (G_S_67 63 42 rfl)
      have h43 := i32 r_67
      refine Sf.w I_S_67 F_S_67 rfl (i32 _).1 (i32 _).2 (fun S_70 I_S_70 F_S_70 v_S_70 f_S_70 l_S_70 => ?_)
      have h44 := ti_eq (f_S_70 63 30 (fun _ e => absurd e (by decide)))
      have h45 := ti_eq (f_S_70 63 31 (fun _ e => absurd e (by decide)))
      have h46 := ti_eq (f_S_70 63 42 (fun _ e => absurd e (by decide)))
      have RR_S_70 := RR_fr (U := S_70) RR_S_67 (f_S_70 63 42 (fun _ e => absurd e (by decide))) (fun b => f_S_70 87 b (fun e => absurd e (by decide))) (fun b => f_S_70 88 b (fun e => absurd e (by decide)))
      have h47 := b_63_30 I_S_70
      refine Sf.i (fun c_h48 => ?_) (fun c_h48 => ?_)
      · have h49 := le_iv rfl li_0 c_h48
        have h50 := b_63_31 I_S_70
        try have h51 : (((S_70.1 63 31) + (4 : Int32))).toInt = ((S_70.1 63 31)).toInt + (4) := add_iv rfl li_4 (by omega) (by omega)
        refine Sf.i (fun c_h52 => ?_) (fun c_h52 => ?_)
        · have h53 := le_iv rfl rfl c_h52
          refine Sf.bp (s_fX12_two_82_1000 fu hfu (S_70.1 63 31) S_70 I_S_70 (by omega) (by omega)) (fun r_112 p_r_112 => ?_)
          have h54 := i32 r_112
          refine Sf.w I_S_70 F_S_70 rfl (i32 _).1 (i32 _).2 (fun S_115 I_S_115 F_S_115 v_S_115 f_S_115 l_S_115 => ?_)
          have h55 := ti_eq (f_S_115 63 30 (fun _ e => absurd e (by decide)))
          have h56 := ti_eq (f_S_115 63 31 (fun _ e => absurd e (by decide)))
          have h57 := ti_eq (f_S_115 63 42 (fun _ e => absurd e (by decide)))
          have RR_S_115 := RR_fr (U := S_115) RR_S_70 (f_S_115 63 42 (fun _ e => absurd e (by decide))) (fun b => f_S_115 87 b (fun e => absurd e (by decide))) (fun b => f_S_115 88 b (fun e => absurd e (by decide)))
          have h58 := b_63_31 I_S_115
          try have h59 : (((S_115.1 63 31) + (2 : Int32))).toInt = ((S_115.1 63 31)).toInt + (2) := add_iv rfl li_2 (by omega) (by omega)
          refine Sf.bp (s_fX12_two_82_1000 fu hfu ((S_115.1 63 31) + (2 : Int32)) S_115 I_S_115 (by omega) (by omega)) (fun r_126 p_r_126 => ?_)
          have h60 := i32 r_126
          refine Sf.w I_S_115 F_S_115 rfl (i32 _).1 (i32 _).2 (fun S_129 I_S_129 F_S_129 v_S_129 f_S_129 l_S_129 => ?_)
          have h61 := ti_eq (f_S_129 63 30 (fun _ e => absurd e (by decide)))
          have h62 := ti_eq (f_S_129 63 31 (fun _ e => absurd e (by decide)))
          have h63 := ti_eq (f_S_129 63 42 (fun _ e => absurd e (by decide)))
          have RR_S_129 := RR_fr (U := S_129) RR_S_115 (f_S_129 63 42 (fun _ e => absurd e (by decide))) (fun b => f_S_129 87 b (fun e => absurd e (by decide))) (fun b => f_S_129 88 b (fun e => absurd e (by decide)))
          have h64 := b_63_31 I_S_129
          try have h65 : (((S_129.1 63 31) + (4 : Int32))).toInt = ((S_129.1 63 31)).toInt + (4) := add_iv rfl li_4 (by omega) (by omega)
          refine Sf.w I_S_129 F_S_129 rfl (show ((0) : Int) ≤ (((S_129.1 63 31) + (4 : Int32))).toInt by omega) (show (((S_129.1 63 31) + (4 : Int32))).toInt ≤ (1100 : Int) by omega) (fun S_139 I_S_139 F_S_139 v_S_139 f_S_139 l_S_139 => ?_)
          have h66 := ti_eq (f_S_139 63 30 (fun _ e => absurd e (by decide)))
          have h67 := eq_iv rfl rfl v_S_139
          have h68 := ti_eq (f_S_139 63 42 (fun _ e => absurd e (by decide)))
          have RR_S_139 := RR_fr (U := S_139) RR_S_129 (f_S_139 63 42 (fun _ e => absurd e (by decide))) (fun b => f_S_139 87 b (fun e => absurd e (by decide))) (fun b => f_S_139 88 b (fun e => absurd e (by decide)))
          have h69 := b_63_30 I_S_139
          have h70 := b_63_42 I_S_139
          have h71 := b_63_31 I_S_139
          refine Sf.mono (s_fX12_reads_144_82_1000 fu hfu fu x2 (0 : Int32) S_139 I_S_139 RR_S_139 (by omega) (by omega) (by omega) (by omega) (by omega)) (fun U r p_h72 => ?_)
          obtain ⟨I_U, G_U, p_h72, RR_U⟩ := p_h72
          exact ⟨I_U, Fr.tr F_S_139 G_U rfl, by omega, RR_U⟩
        · have h73 := nle_iv rfl rfl c_h52
          have h74 : ((3 : Int32)).toInt = 3 := li_3
          refine Sf.b (s_fX12_wrong fu hfu (3 : Int32) S_70 I_S_70 (by omega) (by omega)) (fun S_94 r_94 p_r_94 => ?_)
          obtain ⟨I_S_94, G_S_94, p_r_94⟩ := p_r_94
          have F_S_94 := Fr.tr F_S_70 G_S_94 rfl
          have RR_S_94 := RR_fr (U := S_94) RR_S_70 (G_S_94 63 42 rfl) (fun b => G_S_94 87 b rfl) (fun b => G_S_94 88 b rfl)
          have h75 := b_63_30 I_S_94
          have h76 := ti_eq (G_S_94 63 31 rfl)
          have h77 := ti_eq (G_S_94 63 42 rfl)
          have h78 := i32 r_94
          refine Sf.i (fun c_h79 => ?_) (fun c_h79 => ?_)
          · have h80 := le_iv rfl li_0 c_h79
            have h81 : ((0 : Int32)).toInt = 0 := li_0
            exact Sf.so ⟨I_S_94, F_S_94, by omega, RR_S_94⟩
          · have h82 := nle_iv rfl li_0 c_h79
            have h83 : ((1 : Int32)).toInt = 1 := li_1
            exact Sf.so ⟨I_S_94, F_S_94, by omega, RR_S_94⟩
      · have h84 := nle_iv rfl li_0 c_h48
        have h85 : ((0 : Int32)).toInt = 0 := li_0
        exact Sf.so ⟨I_S_70, F_S_70, by omega, RR_S_70⟩
    · have h86 := neq_iv rfl li_1 c_h23
      unfold fX12_reads_25
      try simp only [Nat.reduceAdd]
      have h87 : ((1 : Int32)).toInt = 1 := li_1
      refine Sf.b (s_fX12_wrong fu hfu (1 : Int32) S_7 I_S_7 (by omega) (by omega)) (fun S_27 r_27 p_r_27 => ?_)
      obtain ⟨I_S_27, G_S_27, p_r_27⟩ := p_r_27
      have F_S_27 := Fr.tr F_S_7 G_S_27 rfl
      have RR_S_27 := RR_fr (U := S_27) RR_S_7 (G_S_27 63 42 rfl) (fun b => G_S_27 87 b rfl) (fun b => G_S_27 88 b rfl)
      have h88 := b_63_30 I_S_27
      have h89 := ti_eq (G_S_27 63 31 rfl)
      have h90 := ti_eq (G_S_27 63 42 rfl)
      have h91 := i32 r_27
      refine Sf.i (fun c_h92 => ?_) (fun c_h92 => ?_)
      · have h93 := le_iv rfl li_0 c_h92
        have h94 : ((0 : Int32)).toInt = 0 := li_0
        exact Sf.so ⟨I_S_27, F_S_27, by omega, RR_S_27⟩
      · have h95 := nle_iv rfl li_0 c_h92
        have h96 : ((1 : Int32)).toInt = 1 := li_1
        exact Sf.so ⟨I_S_27, F_S_27, by omega, RR_S_27⟩
