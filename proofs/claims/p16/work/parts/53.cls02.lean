theorem s_fX8_add_27 (fu : Nat) (hfu : 1000000000000000000 ≤ fu) (x1 : Int32) (S : St) (I_S : Inv S) : Sf (fX8_add fu 27 x1 S) (fun U r => Inv U ∧ Fr [(29, 0)] S U ∧ ((0 ≤ r.toInt) ∧ (r.toInt ≤ 1))) := by
  unfold fX8_add
  try simp only [Nat.reduceAdd]
  have F_S : Fr [(29, 0)] S S := Fr.refl _ _
  have h1 := i32 x1
  refine Sf.i (fun c_h2 => ?_) (fun c_h2 => ?_)
  · have h3 := lt_iv rfl li_97 c_h2
    unfold fX8_add_24
    try simp only [Nat.reduceAdd]
    refine Sf.i (fun c_h4 => ?_) (fun c_h4 => ?_)
    · have h5 := lt_iv rfl li_48 c_h4
      unfold fX8_add_47
      try simp only [Nat.reduceAdd]
      refine Sf.i (fun c_h6 => ?_) (fun c_h6 => ?_)
      · have h7 := eq_iv rfl li_45 c_h6
        unfold fX8_add_56
        try simp only [Nat.reduceAdd]
        refine Sf.ie (by decide) ?_
        have h8 := b_27_2 I_S
        try have h9 : (((S.1 27 2) - (1 : Int32))).toInt = ((S.1 27 2)).toInt - (1) := sub_iv rfl li_1 (by omega) (by omega)
        refine Sf.i (fun c_h10 => ?_) (fun c_h10 => ?_)
        · have h11 := lt_iv rfl li_0 c_h10
          have h12 : ((0 : Int32)).toInt = 0 := li_0
          exact Sf.so ⟨I_S, F_S, by omega⟩
        · have h13 := nlt_iv rfl li_0 c_h10
          refine Sf.g (ck_iv (by omega) (by omega)) ?_
          have h14 := a_29 I_S ((((S.1 27 2) - (1 : Int32))).toNatClampNeg)
          refine Sf.i (fun c_h15 => ?_) (fun c_h15 => ?_)
          · have h16 := lt_iv rfl li_10 c_h15
            refine Sf.g (ck_iv (by omega) (by omega)) ?_
            refine Sf.g (ck_iv (by omega) (by omega)) ?_
            refine Sf.j I_S F_S (fun S_101 I_S_101 F_S_101 l_S_101 => ?_)
            have h17 : (S_101.1 27 2).toInt = (S.1 27 2).toInt := by rw [l_S_101]
            have h18 : (S_101.1 29 ((((S.1 27 2) - (1 : Int32))).toNatClampNeg)).toInt = (S.1 29 ((((S.1 27 2) - (1 : Int32))).toNatClampNeg)).toInt := (by rw [l_S_101])
            have h19 : (S_101.1 29 ((((S_101.1 27 2) - (1 : Int32))).toNatClampNeg)).toInt = (S.1 29 ((((S.1 27 2) - (1 : Int32))).toNatClampNeg)).toInt := by rw [(show S_101.1 27 2 = S.1 27 2 by rw [l_S_101])]; exact (by rw [l_S_101])
            refine Sf.g (ck_iv (by omega) (by omega)) ?_
            refine Sf.g (ck_iv (by omega) (by omega)) ?_
            try have h20 : (((S_101.1 29 ((((S.1 27 2) - (1 : Int32))).toNatClampNeg)) + (1 : Int32))).toInt = ((S_101.1 29 ((((S.1 27 2) - (1 : Int32))).toNatClampNeg))).toInt + (1) := add_iv rfl li_1 (by omega) (by omega)
            refine Sf.w I_S_101 F_S_101 rfl (show ((0) : Int) ≤ (((S_101.1 29 ((((S.1 27 2) - (1 : Int32))).toNatClampNeg)) + (1 : Int32))).toInt by omega) (show (((S_101.1 29 ((((S.1 27 2) - (1 : Int32))).toNatClampNeg)) + (1 : Int32))).toInt ≤ (10 : Int) by omega) (fun S_111 I_S_111 F_S_111 v_S_111 f_S_111 l_S_111 => ?_)
            have h21 := ti_eq (f_S_111 27 2 (fun e => absurd e (by decide)))
            have h22 : (S_111.1 29 ((((S.1 27 2) - (1 : Int32))).toNatClampNeg)).toInt = (((S_101.1 29 ((((S.1 27 2) - (1 : Int32))).toNatClampNeg)) + (1 : Int32))).toInt := eq_iv rfl rfl v_S_111
            have h23 : ((1 : Int32)).toInt = 1 := li_1
            exact Sf.so ⟨I_S_111, F_S_111, by omega⟩
          · have h24 := nlt_iv rfl li_10 c_h15
            have h25 : ((0 : Int32)).toInt = 0 := li_0
            exact Sf.so ⟨I_S, F_S, by omega⟩
      · have h26 := neq_iv rfl li_45 c_h6
        unfold fX8_add_56
        try simp only [Nat.reduceAdd]
        refine Sf.it (by decide) ?_
        have h27 : ((0 : Int32)).toInt = 0 := li_0
        exact Sf.so ⟨I_S, F_S, by omega⟩
    · have h28 := nlt_iv rfl li_48 c_h4
      refine Sf.i (fun c_h29 => ?_) (fun c_h29 => ?_)
      · have h30 := lt_iv li_57 rfl c_h29
        unfold fX8_add_47
        try simp only [Nat.reduceAdd]
        refine Sf.i (fun c_h31 => ?_) (fun c_h31 => ?_)
        · have h32 := eq_iv rfl li_45 c_h31
          unfold fX8_add_56
          try simp only [Nat.reduceAdd]
          refine Sf.ie (by decide) ?_
          have h33 := b_27_2 I_S
          try have h34 : (((S.1 27 2) - (1 : Int32))).toInt = ((S.1 27 2)).toInt - (1) := sub_iv rfl li_1 (by omega) (by omega)
          refine Sf.i (fun c_h35 => ?_) (fun c_h35 => ?_)
          · have h36 := lt_iv rfl li_0 c_h35
            have h37 : ((0 : Int32)).toInt = 0 := li_0
            exact Sf.so ⟨I_S, F_S, by omega⟩
          · have h38 := nlt_iv rfl li_0 c_h35
            refine Sf.g (ck_iv (by omega) (by omega)) ?_
            have h39 := a_29 I_S ((((S.1 27 2) - (1 : Int32))).toNatClampNeg)
            refine Sf.i (fun c_h40 => ?_) (fun c_h40 => ?_)
            · have h41 := lt_iv rfl li_10 c_h40
              refine Sf.g (ck_iv (by omega) (by omega)) ?_
              refine Sf.g (ck_iv (by omega) (by omega)) ?_
              refine Sf.j I_S F_S (fun S_101 I_S_101 F_S_101 l_S_101 => ?_)
              have h42 : (S_101.1 27 2).toInt = (S.1 27 2).toInt := by rw [l_S_101]
              have h43 : (S_101.1 29 ((((S.1 27 2) - (1 : Int32))).toNatClampNeg)).toInt = (S.1 29 ((((S.1 27 2) - (1 : Int32))).toNatClampNeg)).toInt := (by rw [l_S_101])
              have h44 : (S_101.1 29 ((((S_101.1 27 2) - (1 : Int32))).toNatClampNeg)).toInt = (S.1 29 ((((S.1 27 2) - (1 : Int32))).toNatClampNeg)).toInt := by rw [(show S_101.1 27 2 = S.1 27 2 by rw [l_S_101])]; exact (by rw [l_S_101])
              refine Sf.g (ck_iv (by omega) (by omega)) ?_
              refine Sf.g (ck_iv (by omega) (by omega)) ?_
              try have h45 : (((S_101.1 29 ((((S.1 27 2) - (1 : Int32))).toNatClampNeg)) + (1 : Int32))).toInt = ((S_101.1 29 ((((S.1 27 2) - (1 : Int32))).toNatClampNeg))).toInt + (1) := add_iv rfl li_1 (by omega) (by omega)
              refine Sf.w I_S_101 F_S_101 rfl (show ((0) : Int) ≤ (((S_101.1 29 ((((S.1 27 2) - (1 : Int32))).toNatClampNeg)) + (1 : Int32))).toInt by omega) (show (((S_101.1 29 ((((S.1 27 2) - (1 : Int32))).toNatClampNeg)) + (1 : Int32))).toInt ≤ (10 : Int) by omega) (fun S_111 I_S_111 F_S_111 v_S_111 f_S_111 l_S_111 => ?_)
              have h46 := ti_eq (f_S_111 27 2 (fun e => absurd e (by decide)))
              have h47 : (S_111.1 29 ((((S.1 27 2) - (1 : Int32))).toNatClampNeg)).toInt = (((S_101.1 29 ((((S.1 27 2) - (1 : Int32))).toNatClampNeg)) + (1 : Int32))).toInt := eq_iv rfl rfl v_S_111
              have h48 : ((1 : Int32)).toInt = 1 := li_1
              exact Sf.so ⟨I_S_111, F_S_111, by omega⟩
            · have h49 := nlt_iv rfl li_10 c_h40
              have h50 : ((0 : Int32)).toInt = 0 := li_0
              exact Sf.so ⟨I_S, F_S, by omega⟩
        · have h51 := neq_iv rfl li_45 c_h31
          unfold fX8_add_56
          try simp only [Nat.reduceAdd]
          refine Sf.it (by decide) ?_
          have h52 : ((0 : Int32)).toInt = 0 := li_0
          exact Sf.so ⟨I_S, F_S, by omega⟩
      · have h53 := nlt_iv li_57 rfl c_h29
        unfold fX8_add_56
        try simp only [Nat.reduceAdd]
        try have h54 : ((x1 - (48 : Int32))).toInt = (x1).toInt - (48) := sub_iv rfl li_48 (by omega) (by omega)
        try have h55 : (((x1 - (48 : Int32)) + (27 : Int32))).toInt = ((x1 - (48 : Int32))).toInt + (27) := add_iv rfl li_27 (by omega) (by omega)
        refine Sf.i (fun c_h56 => ?_) (fun c_h56 => ?_)
        · have h57 := eq_iv rfl li_0 c_h56
          have h58 : ((0 : Int32)).toInt = 0 := li_0
          exact Sf.so ⟨I_S, F_S, by omega⟩
        · have h59 := neq_iv rfl li_0 c_h56
          have h60 := b_27_2 I_S
          try have h61 : (((S.1 27 2) - (1 : Int32))).toInt = ((S.1 27 2)).toInt - (1) := sub_iv rfl li_1 (by omega) (by omega)
          refine Sf.i (fun c_h62 => ?_) (fun c_h62 => ?_)
          · have h63 := lt_iv rfl li_0 c_h62
            have h64 : ((0 : Int32)).toInt = 0 := li_0
            exact Sf.so ⟨I_S, F_S, by omega⟩
          · have h65 := nlt_iv rfl li_0 c_h62
            refine Sf.g (ck_iv (by omega) (by omega)) ?_
            have h66 := a_29 I_S ((((S.1 27 2) - (1 : Int32))).toNatClampNeg)
            refine Sf.i (fun c_h67 => ?_) (fun c_h67 => ?_)
            · have h68 := lt_iv rfl li_10 c_h67
              refine Sf.g (ck_iv (by omega) (by omega)) ?_
              refine Sf.g (ck_iv (by omega) (by omega)) ?_
              refine Sf.j I_S F_S (fun S_101 I_S_101 F_S_101 l_S_101 => ?_)
              have h69 : (S_101.1 27 2).toInt = (S.1 27 2).toInt := by rw [l_S_101]
              have h70 : (S_101.1 29 ((((S.1 27 2) - (1 : Int32))).toNatClampNeg)).toInt = (S.1 29 ((((S.1 27 2) - (1 : Int32))).toNatClampNeg)).toInt := (by rw [l_S_101])
              have h71 : (S_101.1 29 ((((S_101.1 27 2) - (1 : Int32))).toNatClampNeg)).toInt = (S.1 29 ((((S.1 27 2) - (1 : Int32))).toNatClampNeg)).toInt := by rw [(show S_101.1 27 2 = S.1 27 2 by rw [l_S_101])]; exact (by rw [l_S_101])
              refine Sf.g (ck_iv (by omega) (by omega)) ?_
              refine Sf.g (ck_iv (by omega) (by omega)) ?_
              try have h72 : (((S_101.1 29 ((((S.1 27 2) - (1 : Int32))).toNatClampNeg)) + (1 : Int32))).toInt = ((S_101.1 29 ((((S.1 27 2) - (1 : Int32))).toNatClampNeg))).toInt + (1) := add_iv rfl li_1 (by omega) (by omega)
              refine Sf.w I_S_101 F_S_101 rfl (show ((0) : Int) ≤ (((S_101.1 29 ((((S.1 27 2) - (1 : Int32))).toNatClampNeg)) + (1 : Int32))).toInt by omega) (show (((S_101.1 29 ((((S.1 27 2) - (1 : Int32))).toNatClampNeg)) + (1 : Int32))).toInt ≤ (10 : Int) by omega) (fun S_111 I_S_111 F_S_111 v_S_111 f_S_111 l_S_111 => ?_)
              have h73 := ti_eq (f_S_111 27 2 (fun e => absurd e (by decide)))
              have h74 : (S_111.1 29 ((((S.1 27 2) - (1 : Int32))).toNatClampNeg)).toInt = (((S_101.1 29 ((((S.1 27 2) - (1 : Int32))).toNatClampNeg)) + (1 : Int32))).toInt := eq_iv rfl rfl v_S_111
              have h75 : ((1 : Int32)).toInt = 1 := li_1
              exact Sf.so ⟨I_S_111, F_S_111, by omega⟩
            · have h76 := nlt_iv rfl li_10 c_h67
              have h77 : ((0 : Int32)).toInt = 0 := li_0
              exact Sf.so ⟨I_S, F_S, by omega⟩
  · have h78 := nlt_iv rfl li_97 c_h2
    refine Sf.i (fun c_h79 => ?_) (fun c_h79 => ?_)
    · have h80 := lt_iv li_122 rfl c_h79
      unfold fX8_add_24
      try simp only [Nat.reduceAdd]
      refine Sf.i (fun c_h81 => ?_) (fun c_h81 => ?_)
      · have h82 := lt_iv rfl li_48 c_h81
        unfold fX8_add_47
        try simp only [Nat.reduceAdd]
        refine Sf.i (fun c_h83 => ?_) (fun c_h83 => ?_)
        · have h84 := eq_iv rfl li_45 c_h83
          unfold fX8_add_56
          try simp only [Nat.reduceAdd]
          refine Sf.ie (by decide) ?_
          have h85 := b_27_2 I_S
          try have h86 : (((S.1 27 2) - (1 : Int32))).toInt = ((S.1 27 2)).toInt - (1) := sub_iv rfl li_1 (by omega) (by omega)
          refine Sf.i (fun c_h87 => ?_) (fun c_h87 => ?_)
          · have h88 := lt_iv rfl li_0 c_h87
            have h89 : ((0 : Int32)).toInt = 0 := li_0
            exact Sf.so ⟨I_S, F_S, by omega⟩
          · have h90 := nlt_iv rfl li_0 c_h87
            refine Sf.g (ck_iv (by omega) (by omega)) ?_
            have h91 := a_29 I_S ((((S.1 27 2) - (1 : Int32))).toNatClampNeg)
            refine Sf.i (fun c_h92 => ?_) (fun c_h92 => ?_)
            · have h93 := lt_iv rfl li_10 c_h92
              refine Sf.g (ck_iv (by omega) (by omega)) ?_
              refine Sf.g (ck_iv (by omega) (by omega)) ?_
              refine Sf.j I_S F_S (fun S_101 I_S_101 F_S_101 l_S_101 => ?_)
              have h94 : (S_101.1 27 2).toInt = (S.1 27 2).toInt := by rw [l_S_101]
              have h95 : (S_101.1 29 ((((S.1 27 2) - (1 : Int32))).toNatClampNeg)).toInt = (S.1 29 ((((S.1 27 2) - (1 : Int32))).toNatClampNeg)).toInt := (by rw [l_S_101])
              have h96 : (S_101.1 29 ((((S_101.1 27 2) - (1 : Int32))).toNatClampNeg)).toInt = (S.1 29 ((((S.1 27 2) - (1 : Int32))).toNatClampNeg)).toInt := by rw [(show S_101.1 27 2 = S.1 27 2 by rw [l_S_101])]; exact (by rw [l_S_101])
              refine Sf.g (ck_iv (by omega) (by omega)) ?_
              refine Sf.g (ck_iv (by omega) (by omega)) ?_
              try have h97 : (((S_101.1 29 ((((S.1 27 2) - (1 : Int32))).toNatClampNeg)) + (1 : Int32))).toInt = ((S_101.1 29 ((((S.1 27 2) - (1 : Int32))).toNatClampNeg))).toInt + (1) := add_iv rfl li_1 (by omega) (by omega)
              refine Sf.w I_S_101 F_S_101 rfl (show ((0) : Int) ≤ (((S_101.1 29 ((((S.1 27 2) - (1 : Int32))).toNatClampNeg)) + (1 : Int32))).toInt by omega) (show (((S_101.1 29 ((((S.1 27 2) - (1 : Int32))).toNatClampNeg)) + (1 : Int32))).toInt ≤ (10 : Int) by omega) (fun S_111 I_S_111 F_S_111 v_S_111 f_S_111 l_S_111 => ?_)
              have h98 := ti_eq (f_S_111 27 2 (fun e => absurd e (by decide)))
              have h99 : (S_111.1 29 ((((S.1 27 2) - (1 : Int32))).toNatClampNeg)).toInt = (((S_101.1 29 ((((S.1 27 2) - (1 : Int32))).toNatClampNeg)) + (1 : Int32))).toInt := eq_iv rfl rfl v_S_111
              have h100 : ((1 : Int32)).toInt = 1 := li_1
              exact Sf.so ⟨I_S_111, F_S_111, by omega⟩
            · have h101 := nlt_iv rfl li_10 c_h92
              have h102 : ((0 : Int32)).toInt = 0 := li_0
              exact Sf.so ⟨I_S, F_S, by omega⟩
        · have h103 := neq_iv rfl li_45 c_h83
          unfold fX8_add_56
          try simp only [Nat.reduceAdd]
          refine Sf.it (by decide) ?_
          have h104 : ((0 : Int32)).toInt = 0 := li_0
          exact Sf.so ⟨I_S, F_S, by omega⟩
      · have h105 := nlt_iv rfl li_48 c_h81
        refine Sf.i (fun c_h106 => ?_) (fun c_h106 => ?_)
        · have h107 := lt_iv li_57 rfl c_h106
          unfold fX8_add_47
          try simp only [Nat.reduceAdd]
          refine Sf.i (fun c_h108 => ?_) (fun c_h108 => ?_)
          · have h109 := eq_iv rfl li_45 c_h108
            unfold fX8_add_56
            try simp only [Nat.reduceAdd]
            refine Sf.ie (by decide) ?_
            have h110 := b_27_2 I_S
            try have h111 : (((S.1 27 2) - (1 : Int32))).toInt = ((S.1 27 2)).toInt - (1) := sub_iv rfl li_1 (by omega) (by omega)
            refine Sf.i (fun c_h112 => ?_) (fun c_h112 => ?_)
            · have h113 := lt_iv rfl li_0 c_h112
              have h114 : ((0 : Int32)).toInt = 0 := li_0
              exact Sf.so ⟨I_S, F_S, by omega⟩
            · have h115 := nlt_iv rfl li_0 c_h112
              refine Sf.g (ck_iv (by omega) (by omega)) ?_
              have h116 := a_29 I_S ((((S.1 27 2) - (1 : Int32))).toNatClampNeg)
              refine Sf.i (fun c_h117 => ?_) (fun c_h117 => ?_)
              · have h118 := lt_iv rfl li_10 c_h117
                refine Sf.g (ck_iv (by omega) (by omega)) ?_
                refine Sf.g (ck_iv (by omega) (by omega)) ?_
                refine Sf.j I_S F_S (fun S_101 I_S_101 F_S_101 l_S_101 => ?_)
                have h119 : (S_101.1 27 2).toInt = (S.1 27 2).toInt := by rw [l_S_101]
                have h120 : (S_101.1 29 ((((S.1 27 2) - (1 : Int32))).toNatClampNeg)).toInt = (S.1 29 ((((S.1 27 2) - (1 : Int32))).toNatClampNeg)).toInt := (by rw [l_S_101])
                have h121 : (S_101.1 29 ((((S_101.1 27 2) - (1 : Int32))).toNatClampNeg)).toInt = (S.1 29 ((((S.1 27 2) - (1 : Int32))).toNatClampNeg)).toInt := by rw [(show S_101.1 27 2 = S.1 27 2 by rw [l_S_101])]; exact (by rw [l_S_101])
                refine Sf.g (ck_iv (by omega) (by omega)) ?_
                refine Sf.g (ck_iv (by omega) (by omega)) ?_
                try have h122 : (((S_101.1 29 ((((S.1 27 2) - (1 : Int32))).toNatClampNeg)) + (1 : Int32))).toInt = ((S_101.1 29 ((((S.1 27 2) - (1 : Int32))).toNatClampNeg))).toInt + (1) := add_iv rfl li_1 (by omega) (by omega)
                refine Sf.w I_S_101 F_S_101 rfl (show ((0) : Int) ≤ (((S_101.1 29 ((((S.1 27 2) - (1 : Int32))).toNatClampNeg)) + (1 : Int32))).toInt by omega) (show (((S_101.1 29 ((((S.1 27 2) - (1 : Int32))).toNatClampNeg)) + (1 : Int32))).toInt ≤ (10 : Int) by omega) (fun S_111 I_S_111 F_S_111 v_S_111 f_S_111 l_S_111 => ?_)
                have h123 := ti_eq (f_S_111 27 2 (fun e => absurd e (by decide)))
                have h124 : (S_111.1 29 ((((S.1 27 2) - (1 : Int32))).toNatClampNeg)).toInt = (((S_101.1 29 ((((S.1 27 2) - (1 : Int32))).toNatClampNeg)) + (1 : Int32))).toInt := eq_iv rfl rfl v_S_111
                have h125 : ((1 : Int32)).toInt = 1 := li_1
                exact Sf.so ⟨I_S_111, F_S_111, by omega⟩
              · have h126 := nlt_iv rfl li_10 c_h117
                have h127 : ((0 : Int32)).toInt = 0 := li_0
                exact Sf.so ⟨I_S, F_S, by omega⟩
          · have h128 := neq_iv rfl li_45 c_h108
            unfold fX8_add_56
            try simp only [Nat.reduceAdd]
            refine Sf.it (by decide) ?_
            have h129 : ((0 : Int32)).toInt = 0 := li_0
            exact Sf.so ⟨I_S, F_S, by omega⟩
        · have h130 := nlt_iv li_57 rfl c_h106
          unfold fX8_add_56
          try simp only [Nat.reduceAdd]
          try have h131 : ((x1 - (48 : Int32))).toInt = (x1).toInt - (48) := sub_iv rfl li_48 (by omega) (by omega)
          try have h132 : (((x1 - (48 : Int32)) + (27 : Int32))).toInt = ((x1 - (48 : Int32))).toInt + (27) := add_iv rfl li_27 (by omega) (by omega)
          refine Sf.i (fun c_h133 => ?_) (fun c_h133 => ?_)
          · have h134 := eq_iv rfl li_0 c_h133
            have h135 : ((0 : Int32)).toInt = 0 := li_0
            exact Sf.so ⟨I_S, F_S, by omega⟩
          · have h136 := neq_iv rfl li_0 c_h133
            have h137 := b_27_2 I_S
            try have h138 : (((S.1 27 2) - (1 : Int32))).toInt = ((S.1 27 2)).toInt - (1) := sub_iv rfl li_1 (by omega) (by omega)
            refine Sf.i (fun c_h139 => ?_) (fun c_h139 => ?_)
            · have h140 := lt_iv rfl li_0 c_h139
              have h141 : ((0 : Int32)).toInt = 0 := li_0
              exact Sf.so ⟨I_S, F_S, by omega⟩
            · have h142 := nlt_iv rfl li_0 c_h139
              refine Sf.g (ck_iv (by omega) (by omega)) ?_
              have h143 := a_29 I_S ((((S.1 27 2) - (1 : Int32))).toNatClampNeg)
              refine Sf.i (fun c_h144 => ?_) (fun c_h144 => ?_)
              · have h145 := lt_iv rfl li_10 c_h144
                refine Sf.g (ck_iv (by omega) (by omega)) ?_
                refine Sf.g (ck_iv (by omega) (by omega)) ?_
                refine Sf.j I_S F_S (fun S_101 I_S_101 F_S_101 l_S_101 => ?_)
                have h146 : (S_101.1 27 2).toInt = (S.1 27 2).toInt := by rw [l_S_101]
                have h147 : (S_101.1 29 ((((S.1 27 2) - (1 : Int32))).toNatClampNeg)).toInt = (S.1 29 ((((S.1 27 2) - (1 : Int32))).toNatClampNeg)).toInt := (by rw [l_S_101])
                have h148 : (S_101.1 29 ((((S_101.1 27 2) - (1 : Int32))).toNatClampNeg)).toInt = (S.1 29 ((((S.1 27 2) - (1 : Int32))).toNatClampNeg)).toInt := by rw [(show S_101.1 27 2 = S.1 27 2 by rw [l_S_101])]; exact (by rw [l_S_101])
                refine Sf.g (ck_iv (by omega) (by omega)) ?_
                refine Sf.g (ck_iv (by omega) (by omega)) ?_
                try have h149 : (((S_101.1 29 ((((S.1 27 2) - (1 : Int32))).toNatClampNeg)) + (1 : Int32))).toInt = ((S_101.1 29 ((((S.1 27 2) - (1 : Int32))).toNatClampNeg))).toInt + (1) := add_iv rfl li_1 (by omega) (by omega)
                refine Sf.w I_S_101 F_S_101 rfl (show ((0) : Int) ≤ (((S_101.1 29 ((((S.1 27 2) - (1 : Int32))).toNatClampNeg)) + (1 : Int32))).toInt by omega) (show (((S_101.1 29 ((((S.1 27 2) - (1 : Int32))).toNatClampNeg)) + (1 : Int32))).toInt ≤ (10 : Int) by omega) (fun S_111 I_S_111 F_S_111 v_S_111 f_S_111 l_S_111 => ?_)
                have h150 := ti_eq (f_S_111 27 2 (fun e => absurd e (by decide)))
                have h151 : (S_111.1 29 ((((S.1 27 2) - (1 : Int32))).toNatClampNeg)).toInt = (((S_101.1 29 ((((S.1 27 2) - (1 : Int32))).toNatClampNeg)) + (1 : Int32))).toInt := eq_iv rfl rfl v_S_111
                have h152 : ((1 : Int32)).toInt = 1 := li_1
                exact Sf.so ⟨I_S_111, F_S_111, by omega⟩
              · have h153 := nlt_iv rfl li_10 c_h144
                have h154 : ((0 : Int32)).toInt = 0 := li_0
                exact Sf.so ⟨I_S, F_S, by omega⟩
    · have h155 := nlt_iv li_122 rfl c_h79
      unfold fX8_add_56
      try simp only [Nat.reduceAdd]
      try have h156 : ((x1 - (97 : Int32))).toInt = (x1).toInt - (97) := sub_iv rfl li_97 (by omega) (by omega)
      try have h157 : (((x1 - (97 : Int32)) + (1 : Int32))).toInt = ((x1 - (97 : Int32))).toInt + (1) := add_iv rfl li_1 (by omega) (by omega)
      refine Sf.i (fun c_h158 => ?_) (fun c_h158 => ?_)
      · have h159 := eq_iv rfl li_0 c_h158
        have h160 : ((0 : Int32)).toInt = 0 := li_0
        exact Sf.so ⟨I_S, F_S, by omega⟩
      · have h161 := neq_iv rfl li_0 c_h158
        have h162 := b_27_2 I_S
        try have h163 : (((S.1 27 2) - (1 : Int32))).toInt = ((S.1 27 2)).toInt - (1) := sub_iv rfl li_1 (by omega) (by omega)
        refine Sf.i (fun c_h164 => ?_) (fun c_h164 => ?_)
        · have h165 := lt_iv rfl li_0 c_h164
          have h166 : ((0 : Int32)).toInt = 0 := li_0
          exact Sf.so ⟨I_S, F_S, by omega⟩
        · have h167 := nlt_iv rfl li_0 c_h164
          refine Sf.g (ck_iv (by omega) (by omega)) ?_
          have h168 := a_29 I_S ((((S.1 27 2) - (1 : Int32))).toNatClampNeg)
          refine Sf.i (fun c_h169 => ?_) (fun c_h169 => ?_)
          · have h170 := lt_iv rfl li_10 c_h169
            refine Sf.g (ck_iv (by omega) (by omega)) ?_
            refine Sf.g (ck_iv (by omega) (by omega)) ?_
            refine Sf.j I_S F_S (fun S_101 I_S_101 F_S_101 l_S_101 => ?_)
            have h171 : (S_101.1 27 2).toInt = (S.1 27 2).toInt := by rw [l_S_101]
            have h172 : (S_101.1 29 ((((S.1 27 2) - (1 : Int32))).toNatClampNeg)).toInt = (S.1 29 ((((S.1 27 2) - (1 : Int32))).toNatClampNeg)).toInt := (by rw [l_S_101])
            have h173 : (S_101.1 29 ((((S_101.1 27 2) - (1 : Int32))).toNatClampNeg)).toInt = (S.1 29 ((((S.1 27 2) - (1 : Int32))).toNatClampNeg)).toInt := by rw [(show S_101.1 27 2 = S.1 27 2 by rw [l_S_101])]; exact (by rw [l_S_101])
            refine Sf.g (ck_iv (by omega) (by omega)) ?_
            refine Sf.g (ck_iv (by omega) (by omega)) ?_
            try have h174 : (((S_101.1 29 ((((S.1 27 2) - (1 : Int32))).toNatClampNeg)) + (1 : Int32))).toInt = ((S_101.1 29 ((((S.1 27 2) - (1 : Int32))).toNatClampNeg))).toInt + (1) := add_iv rfl li_1 (by omega) (by omega)
            refine Sf.w I_S_101 F_S_101 rfl (show ((0) : Int) ≤ (((S_101.1 29 ((((S.1 27 2) - (1 : Int32))).toNatClampNeg)) + (1 : Int32))).toInt by omega) (show (((S_101.1 29 ((((S.1 27 2) - (1 : Int32))).toNatClampNeg)) + (1 : Int32))).toInt ≤ (10 : Int) by omega) (fun S_111 I_S_111 F_S_111 v_S_111 f_S_111 l_S_111 => ?_)
            have h175 := ti_eq (f_S_111 27 2 (fun e => absurd e (by decide)))
            have h176 : (S_111.1 29 ((((S.1 27 2) - (1 : Int32))).toNatClampNeg)).toInt = (((S_101.1 29 ((((S.1 27 2) - (1 : Int32))).toNatClampNeg)) + (1 : Int32))).toInt := eq_iv rfl rfl v_S_111
            have h177 : ((1 : Int32)).toInt = 1 := li_1
            exact Sf.so ⟨I_S_111, F_S_111, by omega⟩
          · have h178 := nlt_iv rfl li_10 c_h169
            have h179 : ((0 : Int32)).toInt = 0 := li_0
            exact Sf.so ⟨I_S, F_S, by omega⟩
theorem s_fX4_readLabel_21_1 (fu : Nat) (hfu : 1000000000000000000 ≤ fu) : ∀ (n : Nat) (x2 : Int32) (x3 : Int32) (x4 : Int32) (S : St), Inv S → (1 ≤ (x4).toInt) → ((x3).toInt ≤ 10) → (11 - (x4).toInt).toNat < n → Sf (fX4_readLabel_21 fu 1 n x2 x3 x4 S) (fun U r => Inv U ∧ Fr [(29, 0)] S U ∧ (True)) := by
  intro n
  induction n with
  | zero => intro x2 x3 x4 S I_S g0 g1 hm; exact absurd hm (Nat.not_lt_zero _)
  | succ n ih =>
    intro x2 x3 x4 S I_S g0 g1 hm
    rw [fX4_readLabel_21_s]
    try simp only [Nat.reduceAdd]
    have F_S : Fr [(29, 0)] S S := Fr.refl _ _
    have h1 := i32 x3
    have h2 := i32 x4
    refine Sf.i (fun c_h3 => ?_) (fun c_h3 => ?_)
    · have h4 := lt_iv rfl rfl c_h3
      exact Sf.so ⟨I_S, F_S, trivial⟩
    · have h5 := nlt_iv rfl rfl c_h3
      have h6 := i32 x2
      try have h7 : ((x2 + x4)).toInt = (x2).toInt + (x4).toInt := add_iv rfl rfl (by omega) (by omega)
      refine Sf.bp (s_fX0_at_1 fu hfu (x2 + x4) S I_S) (fun r_32 p_r_32 => ?_)
      have h8 := i32 r_32
      refine Sf.i (fun c_h9 => ?_) (fun c_h9 => ?_)
      · have h10 := eq_iv rfl li_m1 c_h9
        exact Sf.so ⟨I_S, F_S, trivial⟩
      · have h11 := neq_iv rfl li_m1 c_h9
        refine Sf.b (s_fX8_add_27 fu hfu r_32 S I_S) (fun S_51 r_51 p_r_51 => ?_)
        obtain ⟨I_S_51, G_S_51, p_r_51⟩ := p_r_51
        have F_S_51 := Fr.tr F_S G_S_51 rfl
        have h12 := i32 r_51
        refine Sf.i (fun c_h13 => ?_) (fun c_h13 => ?_)
        · have h14 := eq_iv rfl li_0 c_h13
          exact Sf.so ⟨I_S_51, F_S_51, trivial⟩
        · have h15 := neq_iv rfl li_0 c_h13
          try have h16 : ((x4 + (1 : Int32))).toInt = (x4).toInt + (1) := add_iv rfl li_1 (by omega) (by omega)
          refine Sf.mono (ih x2 x3 (x4 + (1 : Int32)) S_51 I_S_51 (by omega) (by omega) (by omega)) (fun U r p_h17 => ?_)
          obtain ⟨I_U, G_U, p_h17⟩ := p_h17
          exact ⟨I_U, Fr.tr F_S_51 G_U rfl, trivial⟩
theorem s_fX4_readLabel_1 (fu : Nat) (hfu : 1000000000000000000 ≤ fu) (x2 : Int32) (x3 : Int32) (S : St) (I_S : Inv S) : Sf (fX4_readLabel fu 1 x2 x3 S) (fun U r => Inv U ∧ Fr [(27, 3), (29, 0)] S U ∧ (True)) := by
  unfold fX4_readLabel
  try simp only [Nat.reduceAdd]
  have F_S : Fr [(27, 3), (29, 0)] S S := Fr.refl _ _
  have h1 := i32 x3
  refine Sf.i (fun c_h2 => ?_) (fun c_h2 => ?_)
  · have h3 := lt_iv li_10 rfl c_h2
    exact Sf.so ⟨I_S, F_S, trivial⟩
  · have h4 := nlt_iv li_10 rfl c_h2
    refine Sf.b (s_fX8_open_27 fu hfu S I_S) (fun S_10 r_10 p_r_10 => ?_)
    obtain ⟨I_S_10, G_S_10, p_r_10⟩ := p_r_10
    have F_S_10 := Fr.tr F_S G_S_10 rfl
    have h5 := i32 r_10
    refine Sf.i (fun c_h6 => ?_) (fun c_h6 => ?_)
    · have h7 := eq_iv rfl li_0 c_h6
      exact Sf.so ⟨I_S_10, F_S_10, trivial⟩
    · have h8 := neq_iv rfl li_0 c_h6
      have h9 := i32 x2
      have h10 : ((1 : Int32)).toInt = 1 := li_1
      refine Sf.mono (s_fX4_readLabel_21_1 fu hfu fu x2 x3 (1 : Int32) S_10 I_S_10 (by omega) (by omega) (by omega)) (fun U r p_h11 => ?_)
      obtain ⟨I_U, G_U, p_h11⟩ := p_h11
      exact ⟨I_U, Fr.tr F_S_10 G_U rfl, trivial⟩
theorem s_fX4_readName_23_1 (fu : Nat) (hfu : 1000000000000000000 ≤ fu) : ∀ (n : Nat) (x2 : Int32) (x3 : Int32) (x4 : Int32) (x5 : Int32) (S : St), Inv S → (0 ≤ (x5).toInt) → (1012 - (x5).toInt).toNat < n → Sf (fX4_readName_23 fu 1 n x2 x3 x4 x5 S) (fun U r => Inv U ∧ Fr [(3, 4), (4, 0), (6, 0), (26, 9), (26, 10), (27, 3), (29, 0)] S U ∧ (True)) := by
  intro n
  induction n with
  | zero => intro x2 x3 x4 x5 S I_S g0 hm; exact absurd hm (Nat.not_lt_zero _)
  | succ n ih =>
    intro x2 x3 x4 x5 S I_S g0 hm
    rw [fX4_readName_23_s]
    try simp only [Nat.reduceAdd]
    have F_S : Fr [(3, 4), (4, 0), (6, 0), (26, 9), (26, 10), (27, 3), (29, 0)] S S := Fr.refl _ _
    have h1 := i32 x5
    refine Sf.i (fun c_h2 => ?_) (fun c_h2 => ?_)
    · have h3 := le_iv li_1012 rfl c_h2
      exact Sf.so ⟨I_S, F_S, trivial⟩
    · have h4 := nle_iv li_1012 rfl c_h2
      have h5 := i32 x3
      refine Sf.bp (s_fX0_at_1 fu hfu x3 S I_S) (fun r_33 p_r_33 => ?_)
      have h6 := i32 r_33
      refine Sf.i (fun c_h7 => ?_) (fun c_h7 => ?_)
      · have h8 := eq_iv rfl li_m1 c_h7
        exact Sf.so ⟨I_S, F_S, trivial⟩
      · have h9 := neq_iv rfl li_m1 c_h7
        refine Sf.i (fun c_h10 => ?_) (fun c_h10 => ?_)
        · have h11 := eq_iv rfl li_0 c_h10
          have h12 := i32 x4
          refine Sf.i (fun c_h13 => ?_) (fun c_h13 => ?_)
          · have h14 := eq_iv rfl li_m1 c_h13
            unfold fX4_readName_66
            try simp only [Nat.reduceAdd]
            try have h15 : ((x3 + (1 : Int32))).toInt = (x3).toInt + (1) := add_iv rfl li_1 (by omega) (by omega)
            refine Sf.w I_S F_S rfl (i32 _).1 (i32 _).2 (fun S_66 I_S_66 F_S_66 v_S_66 f_S_66 l_S_66 => ?_)
            have h16 := ti_eq (f_S_66 26 9 (fun _ e => absurd e (by decide)))
            refine Sf.b (s_fX3_made_27 fu hfu S_66 I_S_66) (fun S_78 r_78 p_r_78 => ?_)
            obtain ⟨I_S_78, G_S_78, p_r_78⟩ := p_r_78
            have F_S_78 := Fr.tr F_S_66 G_S_78 rfl
            have h17 := ti_eq (G_S_78 26 9 rfl)
            have h18 := i32 r_78
            refine Sf.w I_S_78 F_S_78 rfl (i32 _).1 (i32 _).2 (fun S_81 I_S_81 F_S_81 v_S_81 f_S_81 l_S_81 => ?_)
            have h19 := eq_iv rfl rfl v_S_81
            refine Sf.i (fun c_h20 => ?_) (fun c_h20 => ?_)
            · have h21 := eq_iv rfl li_m1 c_h20
              exact Sf.so ⟨I_S_81, F_S_81, trivial⟩
            · have h22 := neq_iv rfl li_m1 c_h20
              exact Sf.so ⟨I_S_81, F_S_81, trivial⟩
          · have h23 := neq_iv rfl li_m1 c_h13
            unfold fX4_readName_66
            try simp only [Nat.reduceAdd]
            refine Sf.w I_S F_S rfl (i32 _).1 (i32 _).2 (fun S_66 I_S_66 F_S_66 v_S_66 f_S_66 l_S_66 => ?_)
            have h24 := ti_eq (f_S_66 26 9 (fun _ e => absurd e (by decide)))
            refine Sf.b (s_fX3_made_27 fu hfu S_66 I_S_66) (fun S_78 r_78 p_r_78 => ?_)
            obtain ⟨I_S_78, G_S_78, p_r_78⟩ := p_r_78
            have F_S_78 := Fr.tr F_S_66 G_S_78 rfl
            have h25 := ti_eq (G_S_78 26 9 rfl)
            have h26 := i32 r_78
            refine Sf.w I_S_78 F_S_78 rfl (i32 _).1 (i32 _).2 (fun S_81 I_S_81 F_S_81 v_S_81 f_S_81 l_S_81 => ?_)
            have h27 := eq_iv rfl rfl v_S_81
            refine Sf.i (fun c_h28 => ?_) (fun c_h28 => ?_)
            · have h29 := eq_iv rfl li_m1 c_h28
              exact Sf.so ⟨I_S_81, F_S_81, trivial⟩
            · have h30 := neq_iv rfl li_m1 c_h28
              exact Sf.so ⟨I_S_81, F_S_81, trivial⟩
        · have h31 := neq_iv rfl li_0 c_h10
          refine Sf.i (fun c_h32 => ?_) (fun c_h32 => ?_)
          · have h33 := le_iv li_192 rfl c_h32
            try have h34 : ((x3 + (1 : Int32))).toInt = (x3).toInt + (1) := add_iv rfl li_1 (by omega) (by omega)
            refine Sf.bp (s_fX0_at_1 fu hfu (x3 + (1 : Int32)) S I_S) (fun r_139 p_r_139 => ?_)
            have h35 := i32 r_139
            refine Sf.i (fun c_h36 => ?_) (fun c_h36 => ?_)
            · have h37 := eq_iv rfl li_m1 c_h36
              exact Sf.so ⟨I_S, F_S, trivial⟩
            · have h38 := neq_iv rfl li_m1 c_h36
              have h39 := i32 x2
              have h40 := and_63 (r_33)
              have h41 := and_31 ((8 : Int32))
              try have h42 : ((((r_33 &&& (63 : Int32)) <<< ((8 : Int32) &&& 31)) + r_139)).toInt = (((r_33 &&& (63 : Int32)) <<< ((8 : Int32) &&& 31))).toInt + (r_139).toInt := add_iv rfl rfl (by omega) (by omega)
              refine Sf.i (fun c_h43 => ?_) (fun c_h43 => ?_)
              · have h44 := lt_iv rfl rfl c_h43
                have h45 := i32 x4
                refine Sf.i (fun c_h46 => ?_) (fun c_h46 => ?_)
                · have h47 := eq_iv rfl li_m1 c_h46
                  unfold fX4_readName_187
                  try simp only [Nat.reduceAdd]
                  unfold fX4_readName_195
                  try simp only [Nat.reduceAdd]
                  try have h48 : ((x3 + (2 : Int32))).toInt = (x3).toInt + (2) := add_iv rfl li_2 (by omega) (by omega)
                  try have h49 : ((x5 + (1 : Int32))).toInt = (x5).toInt + (1) := add_iv rfl li_1 (by omega) (by omega)
                  refine Sf.mono (ih (((r_33 &&& (63 : Int32)) <<< ((8 : Int32) &&& 31)) + r_139) (((r_33 &&& (63 : Int32)) <<< ((8 : Int32) &&& 31)) + r_139) (x3 + (2 : Int32)) (x5 + (1 : Int32)) S I_S (by omega) (by omega)) (fun U r p_h50 => ?_)
                  obtain ⟨I_U, G_U, p_h50⟩ := p_h50
                  exact ⟨I_U, Fr.tr F_S G_U rfl, trivial⟩
                · have h51 := neq_iv rfl li_m1 c_h46
                  unfold fX4_readName_187
                  try simp only [Nat.reduceAdd]
                  unfold fX4_readName_195
                  try simp only [Nat.reduceAdd]
                  try have h52 : ((x5 + (1 : Int32))).toInt = (x5).toInt + (1) := add_iv rfl li_1 (by omega) (by omega)
                  refine Sf.mono (ih (((r_33 &&& (63 : Int32)) <<< ((8 : Int32) &&& 31)) + r_139) (((r_33 &&& (63 : Int32)) <<< ((8 : Int32) &&& 31)) + r_139) x4 (x5 + (1 : Int32)) S I_S (by omega) (by omega)) (fun U r p_h53 => ?_)
                  obtain ⟨I_U, G_U, p_h53⟩ := p_h53
                  exact ⟨I_U, Fr.tr F_S G_U rfl, trivial⟩
              · have h54 := nlt_iv rfl rfl c_h43
                exact Sf.so ⟨I_S, F_S, trivial⟩
          · have h55 := nle_iv li_192 rfl c_h32
            refine Sf.b (s_fX4_readLabel_1 fu hfu x3 r_33 S I_S) (fun S_112 r_112 p_r_112 => ?_)
            obtain ⟨I_S_112, G_S_112, p_r_112⟩ := p_r_112
            have F_S_112 := Fr.tr F_S G_S_112 rfl
            have h56 := ti_eq (G_S_112 26 9 rfl)
            have h57 := i32 r_112
            refine Sf.i (fun c_h58 => ?_) (fun c_h58 => ?_)
            · have h59 := eq_iv rfl li_0 c_h58
              unfold fX4_readName_195
              try simp only [Nat.reduceAdd]
              have h60 := i32 x2
              try have h61 : ((r_33 + (1 : Int32))).toInt = (r_33).toInt + (1) := add_iv rfl li_1 (by omega) (by omega)
              try have h62 : ((x3 + (r_33 + (1 : Int32)))).toInt = (x3).toInt + ((r_33 + (1 : Int32))).toInt := add_iv rfl rfl (by omega) (by omega)
              have h63 := i32 x4
              try have h64 : ((x5 + (1 : Int32))).toInt = (x5).toInt + (1) := add_iv rfl li_1 (by omega) (by omega)
              refine Sf.mono (ih x2 (x3 + (r_33 + (1 : Int32))) x4 (x5 + (1 : Int32)) S_112 I_S_112 (by omega) (by omega)) (fun U r p_h65 => ?_)
              obtain ⟨I_U, G_U, p_h65⟩ := p_h65
              exact ⟨I_U, Fr.tr F_S_112 G_U rfl, trivial⟩
            · have h66 := neq_iv rfl li_0 c_h58
              exact Sf.so ⟨I_S_112, F_S_112, trivial⟩
theorem s_fX4_readName_1 (fu : Nat) (hfu : 1000000000000000000 ≤ fu) (S : St) (I_S : Inv S) : Sf (fX4_readName fu 1 S) (fun U r => Inv U ∧ Fr [(3, 4), (4, 0), (6, 0), (26, 9), (26, 10), (27, 3), (29, 0)] S U ∧ (True)) := by
  unfold fX4_readName
  try simp only [Nat.reduceAdd]
  have F_S : Fr [(3, 4), (4, 0), (6, 0), (26, 9), (26, 10), (27, 3), (29, 0)] S S := Fr.refl _ _
  refine Sf.b (s_fX8_clear_27 fu hfu S I_S) (fun S_4 r_4_ p_r_4_ => ?_)
  obtain ⟨I_S_4, G_S_4, p_r_4_⟩ := p_r_4_
  have F_S_4 := Fr.tr F_S G_S_4 rfl
  have h1 := ti_eq (G_S_4 26 8 rfl)
  have h2 := ti_eq (G_S_4 26 9 rfl)
  have h3 : ((-1 : Int32)).toInt = -1 := li_m1
  have h4 : ((0 : Int32)).toInt = 0 := li_0
  refine Sf.mono (s_fX4_readName_23_1 fu hfu fu (S_4.1 26 8) (S_4.1 26 8) (-1 : Int32) (0 : Int32) S_4 I_S_4 (by omega) (by omega)) (fun U r p_h5 => ?_)
  obtain ⟨I_U, G_U, p_h5⟩ := p_h5
  exact ⟨I_U, Fr.tr F_S_4 G_U rfl, trivial⟩
theorem s_fX4_readQuestion_1 (fu : Nat) (hfu : 1000000000000000000 ≤ fu) (S : St) (I_S : Inv S) : Sf (fX4_readQuestion fu 1 S) (fun U r => Inv U ∧ Fr [(3, 4), (4, 0), (6, 0), (26, 6), (26, 7), (26, 8), (26, 9), (26, 10), (27, 3), (29, 0)] S U ∧ (True)) := by
  unfold fX4_readQuestion
  try simp only [Nat.reduceAdd]
  have F_S : Fr [(3, 4), (4, 0), (6, 0), (26, 6), (26, 7), (26, 8), (26, 9), (26, 10), (27, 3), (29, 0)] S S := Fr.refl _ _
  refine Sf.b (s_fX4_readName_1 fu hfu S I_S) (fun S_2 r_2 p_r_2 => ?_)
  obtain ⟨I_S_2, G_S_2, p_r_2⟩ := p_r_2
  have F_S_2 := Fr.tr F_S G_S_2 rfl
  have h1 := ti_eq (G_S_2 1 1 rfl)
  have h2 := i32 r_2
  refine Sf.i (fun c_h3 => ?_) (fun c_h3 => ?_)
  · have h4 := eq_iv rfl li_0 c_h3
    have h5 := b_1_1 I_S_2
    refine Sf.bp (s_fX0_size_1 fu hfu S_2 I_S_2) (fun r_19 p_r_19 => ?_)
    have h6 := i32 r_19
    try have h7 : (((S_2.1 26 8) + (4 : Int32))).toInt = ((S_2.1 26 8)).toInt + (4) := add_iv rfl li_4 (by omega) (by omega)
    refine Sf.i (fun c_h8 => ?_) (fun c_h8 => ?_)
    · have h9 := le_iv rfl rfl c_h8
      refine Sf.w I_S_2 F_S_2 rfl (i32 _).1 (i32 _).2 (fun S_32 I_S_32 F_S_32 v_S_32 f_S_32 l_S_32 => ?_)
      have h10 := ti_eq (f_S_32 1 1 (fun e => absurd e (by decide)))
      have h11 := ti_eq (f_S_32 26 8 (fun _ e => absurd e (by decide)))
      have h12 := ti_eq (f_S_32 26 9 (fun _ e => absurd e (by decide)))
      refine Sf.bp (s_fX0_two_1 fu hfu (S_32.1 26 8) S_32 I_S_32) (fun r_41 p_r_41 => ?_)
      have h13 := i32 r_41
      refine Sf.w I_S_32 F_S_32 rfl (i32 _).1 (i32 _).2 (fun S_44 I_S_44 F_S_44 v_S_44 f_S_44 l_S_44 => ?_)
      have h14 := ti_eq (f_S_44 1 1 (fun e => absurd e (by decide)))
      have h15 := ti_eq (f_S_44 26 8 (fun _ e => absurd e (by decide)))
      have h16 := ti_eq (f_S_44 26 9 (fun _ e => absurd e (by decide)))
      try have h17 : (((S_44.1 26 8) + (2 : Int32))).toInt = ((S_44.1 26 8)).toInt + (2) := add_iv rfl li_2 (by omega) (by omega)
      refine Sf.bp (s_fX0_two_1 fu hfu ((S_44.1 26 8) + (2 : Int32)) S_44 I_S_44) (fun r_55 p_r_55 => ?_)
      have h18 := i32 r_55
      refine Sf.w I_S_44 F_S_44 rfl (i32 _).1 (i32 _).2 (fun S_58 I_S_58 F_S_58 v_S_58 f_S_58 l_S_58 => ?_)
      have h19 := ti_eq (f_S_58 1 1 (fun e => absurd e (by decide)))
      have h20 := ti_eq (f_S_58 26 8 (fun _ e => absurd e (by decide)))
      have h21 := ti_eq (f_S_58 26 9 (fun _ e => absurd e (by decide)))
      try have h22 : (((S_58.1 26 8) + (4 : Int32))).toInt = ((S_58.1 26 8)).toInt + (4) := add_iv rfl li_4 (by omega) (by omega)
      refine Sf.w I_S_58 F_S_58 rfl (i32 _).1 (i32 _).2 (fun S_68 I_S_68 F_S_68 v_S_68 f_S_68 l_S_68 => ?_)
      have h23 := ti_eq (f_S_68 1 1 (fun e => absurd e (by decide)))
      have h24 := eq_iv rfl rfl v_S_68
      have h25 := ti_eq (f_S_68 26 9 (fun _ e => absurd e (by decide)))
      exact Sf.so ⟨I_S_68, F_S_68, trivial⟩
    · have h26 := nle_iv rfl rfl c_h8
      exact Sf.so ⟨I_S_2, F_S_2, trivial⟩
  · have h27 := neq_iv rfl li_0 c_h3
    exact Sf.so ⟨I_S_2, F_S_2, trivial⟩
theorem s_fX0_four_1 (fu : Nat) (hfu : 1000000000000000000 ≤ fu) (x1 : Int32) (S : St) (I_S : Inv S) : Sp (fX0_four fu 1 x1 S) S (fun r => True) := by
  unfold fX0_four
  try simp only [Nat.reduceAdd]
  have h1 := i32 x1
  refine Sp.b (s_fX0_two_1 fu hfu x1 S I_S) (fun r_2 p_r_2 => ?_)
  try have h2 : ((x1 + (2 : Int32))).toInt = (x1).toInt + (2) := add_iv rfl li_2 (by omega) (by omega)
  refine Sp.b (s_fX0_two_1 fu hfu (x1 + (2 : Int32)) S I_S) (fun r_12 p_r_12 => ?_)
  exact Sp.so trivial
theorem s_fX4_readData_1 (fu : Nat) (hfu : 1000000000000000000 ≤ fu) (x2 : Int32) (x3 : Int32) (x4 : Int32) (S : St) (I_S : Inv S) : Sf (fX4_readData fu 1 x2 x3 x4 S) (fun U r => Inv U ∧ Fr [(26, 10)] S U ∧ (True)) := by
  unfold fX4_readData
  try simp only [Nat.reduceAdd]
  have F_S : Fr [(26, 10)] S S := Fr.refl _ _
  have h1 := i32 x2
  refine Sf.i (fun c_h2 => ?_) (fun c_h2 => ?_)
  · have h3 := eq_iv rfl li_1 c_h2
    have h4 := i32 x3
    refine Sf.bp (s_fX0_four_1 fu hfu x3 S I_S) (fun r_43 p_r_43 => ?_)
    have h5 := i32 r_43
    refine Sf.w I_S F_S rfl (i32 _).1 (i32 _).2 (fun S_46 I_S_46 F_S_46 v_S_46 f_S_46 l_S_46 => ?_)
    have h6 := i32 x4
    try have h7 : ((x4 - x3)).toInt = (x4).toInt - (x3).toInt := sub_iv rfl rfl (by omega) (by omega)
    refine Sf.i (fun c_h8 => ?_) (fun c_h8 => ?_)
    · have h9 := eq_iv rfl li_4 c_h8
      exact Sf.so ⟨I_S_46, F_S_46, trivial⟩
    · have h10 := neq_iv rfl li_4 c_h8
      exact Sf.so ⟨I_S_46, F_S_46, trivial⟩
  · have h11 := neq_iv rfl li_1 c_h2
    refine Sf.i (fun c_h12 => ?_) (fun c_h12 => ?_)
    · have h13 := eq_iv rfl li_6 c_h12
      have h14 := i32 x4
      try have h15 : ((x4 - (4 : Int32))).toInt = (x4).toInt - (4) := sub_iv rfl li_4 (by omega) (by omega)
      refine Sf.bp (s_fX0_four_1 fu hfu (x4 - (4 : Int32)) S I_S) (fun r_99 p_r_99 => ?_)
      have h16 := i32 r_99
      refine Sf.w I_S F_S rfl (i32 _).1 (i32 _).2 (fun S_102 I_S_102 F_S_102 v_S_102 f_S_102 l_S_102 => ?_)
      have h17 := i32 x3
      try have h18 : ((x4 - x3)).toInt = (x4).toInt - (x3).toInt := sub_iv rfl rfl (by omega) (by omega)
      refine Sf.i (fun c_h19 => ?_) (fun c_h19 => ?_)
      · have h20 := eq_iv rfl li_22 c_h19
        refine Sf.bp (s_fX0_two_1 fu hfu x3 S_102 I_S_102) (fun r_114 p_r_114 => ?_)
        have h21 := i32 r_114
        refine Sf.i (fun c_h22 => ?_) (fun c_h22 => ?_)
        · have h23 := eq_iv rfl li_0 c_h22
          exact Sf.so ⟨I_S_102, F_S_102, trivial⟩
        · have h24 := neq_iv rfl li_0 c_h22
          exact Sf.so ⟨I_S_102, F_S_102, trivial⟩
      · have h25 := neq_iv rfl li_22 c_h19
        exact Sf.so ⟨I_S_102, F_S_102, trivial⟩
    · have h26 := neq_iv rfl li_6 c_h12
      refine Sf.i (fun c_h27 => ?_) (fun c_h27 => ?_)
      · have h28 := eq_iv rfl li_16 c_h27
        have h29 := i32 x3
        try have h30 : ((x3 + (1 : Int32))).toInt = (x3).toInt + (1) := add_iv rfl li_1 (by omega) (by omega)
        refine Sf.bp (s_fX0_four_1 fu hfu (x3 + (1 : Int32)) S I_S) (fun r_66 p_r_66 => ?_)
        have h31 := i32 r_66
        refine Sf.w I_S F_S rfl (i32 _).1 (i32 _).2 (fun S_69 I_S_69 F_S_69 v_S_69 f_S_69 l_S_69 => ?_)
        have h32 := i32 x4
        try have h33 : ((x4 - x3)).toInt = (x4).toInt - (x3).toInt := sub_iv rfl rfl (by omega) (by omega)
        refine Sf.i (fun c_h34 => ?_) (fun c_h34 => ?_)
        · have h35 := eq_iv rfl li_5 c_h34
          refine Sf.bp (s_fX0_at_1 fu hfu x3 S_69 I_S_69) (fun r_80 p_r_80 => ?_)
          have h36 := i32 r_80
          refine Sf.i (fun c_h37 => ?_) (fun c_h37 => ?_)
          · have h38 := eq_iv rfl li_4 c_h37
            exact Sf.so ⟨I_S_69, F_S_69, trivial⟩
          · have h39 := neq_iv rfl li_4 c_h37
            exact Sf.so ⟨I_S_69, F_S_69, trivial⟩
        · have h40 := neq_iv rfl li_5 c_h34
          exact Sf.so ⟨I_S_69, F_S_69, trivial⟩
      · have h41 := neq_iv rfl li_16 c_h27
        exact Sf.so ⟨I_S, F_S, trivial⟩
theorem s_fX5_add_30 (fu : Nat) (hfu : 1000000000000000000 ≤ fu) (x1 : Int32) (x2 : Int32) (x3 : Int32) (x4 : Int32) (x5 : Int32) (S : St) (I_S : Inv S) : Sf (fX5_add fu 30 x1 x2 x3 x4 x5 S) (fun U r => Inv U ∧ Fr [(30, 6), (31, 0), (32, 0), (33, 0), (34, 0), (35, 0)] S U ∧ (True)) := by
  unfold fX5_add
  try simp only [Nat.reduceAdd]
  have F_S : Fr [(30, 6), (31, 0), (32, 0), (33, 0), (34, 0), (35, 0)] S S := Fr.refl _ _
  have h1 := b_30_5 I_S
  refine Sf.i (fun c_h2 => ?_) (fun c_h2 => ?_)
  · have h3 := lt_iv rfl li_90 c_h2
    refine Sf.g (ck_iv (by omega) (by omega)) ?_
    have h4 := i32 x1
    refine Sf.w I_S F_S rfl (i32 _).1 (i32 _).2 (fun S_19 I_S_19 F_S_19 v_S_19 f_S_19 l_S_19 => ?_)
    have h5 := ti_eq (f_S_19 30 5 (fun e => absurd e (by decide)))
    have h6 : (S_19.1 31 (((S.1 30 5)).toNatClampNeg)).toInt = (x1).toInt := eq_iv rfl rfl v_S_19
    have h7 : (S_19.1 31 (((S_19.1 30 5)).toNatClampNeg)).toInt = (x1).toInt := by rw [f_S_19 30 5 (fun e => absurd e (by decide))]; exact eq_iv rfl rfl v_S_19
    have h8 := b_30_5 I_S_19
    refine Sf.g (ck_iv (by omega) (by omega)) ?_
    have h9 := i32 x2
    refine Sf.w I_S_19 F_S_19 rfl (i32 _).1 (i32 _).2 (fun S_29 I_S_29 F_S_29 v_S_29 f_S_29 l_S_29 => ?_)
    have h10 := ti_eq (f_S_29 30 5 (fun e => absurd e (by decide)))
    have h11 : (S_29.1 32 (((S_19.1 30 5)).toNatClampNeg)).toInt = (x2).toInt := eq_iv rfl rfl v_S_29
    have h12 : (S_29.1 32 (((S_29.1 30 5)).toNatClampNeg)).toInt = (x2).toInt := by rw [f_S_29 30 5 (fun e => absurd e (by decide))]; exact eq_iv rfl rfl v_S_29
    have h13 : (S_29.1 31 (((S.1 30 5)).toNatClampNeg)).toInt = (S_19.1 31 (((S.1 30 5)).toNatClampNeg)).toInt := ti_eq (f_S_29 31 (((S.1 30 5)).toNatClampNeg) (fun e => absurd e (by decide)))
    have h14 : (S_29.1 31 (((S_19.1 30 5)).toNatClampNeg)).toInt = (S_19.1 31 (((S_19.1 30 5)).toNatClampNeg)).toInt := ti_eq (f_S_29 31 (((S_19.1 30 5)).toNatClampNeg) (fun e => absurd e (by decide)))
    have h15 : (S_29.1 31 (((S_29.1 30 5)).toNatClampNeg)).toInt = (S_19.1 31 (((S_19.1 30 5)).toNatClampNeg)).toInt := by rw [f_S_29 30 5 (fun e => absurd e (by decide))]; exact ti_eq (f_S_29 31 (((S_19.1 30 5)).toNatClampNeg) (fun e => absurd e (by decide)))
    have h16 := b_30_5 I_S_29
    refine Sf.g (ck_iv (by omega) (by omega)) ?_
    have h17 := i32 x3
    refine Sf.w I_S_29 F_S_29 rfl (i32 _).1 (i32 _).2 (fun S_39 I_S_39 F_S_39 v_S_39 f_S_39 l_S_39 => ?_)
    have h18 := ti_eq (f_S_39 30 5 (fun e => absurd e (by decide)))
    have h19 : (S_39.1 33 (((S_29.1 30 5)).toNatClampNeg)).toInt = (x3).toInt := eq_iv rfl rfl v_S_39
    have h20 : (S_39.1 33 (((S_39.1 30 5)).toNatClampNeg)).toInt = (x3).toInt := by rw [f_S_39 30 5 (fun e => absurd e (by decide))]; exact eq_iv rfl rfl v_S_39
    have h21 : (S_39.1 31 (((S.1 30 5)).toNatClampNeg)).toInt = (S_29.1 31 (((S.1 30 5)).toNatClampNeg)).toInt := ti_eq (f_S_39 31 (((S.1 30 5)).toNatClampNeg) (fun e => absurd e (by decide)))
    have h22 : (S_39.1 31 (((S_19.1 30 5)).toNatClampNeg)).toInt = (S_29.1 31 (((S_19.1 30 5)).toNatClampNeg)).toInt := ti_eq (f_S_39 31 (((S_19.1 30 5)).toNatClampNeg) (fun e => absurd e (by decide)))
    have h23 : (S_39.1 31 (((S_29.1 30 5)).toNatClampNeg)).toInt = (S_29.1 31 (((S_29.1 30 5)).toNatClampNeg)).toInt := ti_eq (f_S_39 31 (((S_29.1 30 5)).toNatClampNeg) (fun e => absurd e (by decide)))
    have h24 : (S_39.1 31 (((S_39.1 30 5)).toNatClampNeg)).toInt = (S_29.1 31 (((S_29.1 30 5)).toNatClampNeg)).toInt := by rw [f_S_39 30 5 (fun e => absurd e (by decide))]; exact ti_eq (f_S_39 31 (((S_29.1 30 5)).toNatClampNeg) (fun e => absurd e (by decide)))
    have h25 : (S_39.1 32 (((S_19.1 30 5)).toNatClampNeg)).toInt = (S_29.1 32 (((S_19.1 30 5)).toNatClampNeg)).toInt := ti_eq (f_S_39 32 (((S_19.1 30 5)).toNatClampNeg) (fun e => absurd e (by decide)))
    have h26 : (S_39.1 32 (((S_29.1 30 5)).toNatClampNeg)).toInt = (S_29.1 32 (((S_29.1 30 5)).toNatClampNeg)).toInt := ti_eq (f_S_39 32 (((S_29.1 30 5)).toNatClampNeg) (fun e => absurd e (by decide)))
    have h27 : (S_39.1 32 (((S_39.1 30 5)).toNatClampNeg)).toInt = (S_29.1 32 (((S_29.1 30 5)).toNatClampNeg)).toInt := by rw [f_S_39 30 5 (fun e => absurd e (by decide))]; exact ti_eq (f_S_39 32 (((S_29.1 30 5)).toNatClampNeg) (fun e => absurd e (by decide)))
    have h28 := b_30_5 I_S_39
    refine Sf.g (ck_iv (by omega) (by omega)) ?_
    have h29 := i32 x4
    refine Sf.w I_S_39 F_S_39 rfl (i32 _).1 (i32 _).2 (fun S_50 I_S_50 F_S_50 v_S_50 f_S_50 l_S_50 => ?_)
    have h30 := ti_eq (f_S_50 30 5 (fun e => absurd e (by decide)))
    have h31 : (S_50.1 34 (((S_39.1 30 5)).toNatClampNeg)).toInt = (x4).toInt := eq_iv rfl rfl v_S_50
    have h32 : (S_50.1 34 (((S_50.1 30 5)).toNatClampNeg)).toInt = (x4).toInt := by rw [f_S_50 30 5 (fun e => absurd e (by decide))]; exact eq_iv rfl rfl v_S_50
    have h33 : (S_50.1 31 (((S.1 30 5)).toNatClampNeg)).toInt = (S_39.1 31 (((S.1 30 5)).toNatClampNeg)).toInt := ti_eq (f_S_50 31 (((S.1 30 5)).toNatClampNeg) (fun e => absurd e (by decide)))
    have h34 : (S_50.1 31 (((S_19.1 30 5)).toNatClampNeg)).toInt = (S_39.1 31 (((S_19.1 30 5)).toNatClampNeg)).toInt := ti_eq (f_S_50 31 (((S_19.1 30 5)).toNatClampNeg) (fun e => absurd e (by decide)))
    have h35 : (S_50.1 31 (((S_29.1 30 5)).toNatClampNeg)).toInt = (S_39.1 31 (((S_29.1 30 5)).toNatClampNeg)).toInt := ti_eq (f_S_50 31 (((S_29.1 30 5)).toNatClampNeg) (fun e => absurd e (by decide)))
    have h36 : (S_50.1 31 (((S_39.1 30 5)).toNatClampNeg)).toInt = (S_39.1 31 (((S_39.1 30 5)).toNatClampNeg)).toInt := ti_eq (f_S_50 31 (((S_39.1 30 5)).toNatClampNeg) (fun e => absurd e (by decide)))
    have h37 : (S_50.1 31 (((S_50.1 30 5)).toNatClampNeg)).toInt = (S_39.1 31 (((S_39.1 30 5)).toNatClampNeg)).toInt := by rw [f_S_50 30 5 (fun e => absurd e (by decide))]; exact ti_eq (f_S_50 31 (((S_39.1 30 5)).toNatClampNeg) (fun e => absurd e (by decide)))
    have h38 : (S_50.1 32 (((S_19.1 30 5)).toNatClampNeg)).toInt = (S_39.1 32 (((S_19.1 30 5)).toNatClampNeg)).toInt := ti_eq (f_S_50 32 (((S_19.1 30 5)).toNatClampNeg) (fun e => absurd e (by decide)))
    have h39 : (S_50.1 32 (((S_29.1 30 5)).toNatClampNeg)).toInt = (S_39.1 32 (((S_29.1 30 5)).toNatClampNeg)).toInt := ti_eq (f_S_50 32 (((S_29.1 30 5)).toNatClampNeg) (fun e => absurd e (by decide)))
    have h40 : (S_50.1 32 (((S_39.1 30 5)).toNatClampNeg)).toInt = (S_39.1 32 (((S_39.1 30 5)).toNatClampNeg)).toInt := ti_eq (f_S_50 32 (((S_39.1 30 5)).toNatClampNeg) (fun e => absurd e (by decide)))
    have h41 : (S_50.1 32 (((S_50.1 30 5)).toNatClampNeg)).toInt = (S_39.1 32 (((S_39.1 30 5)).toNatClampNeg)).toInt := by rw [f_S_50 30 5 (fun e => absurd e (by decide))]; exact ti_eq (f_S_50 32 (((S_39.1 30 5)).toNatClampNeg) (fun e => absurd e (by decide)))
    have h42 : (S_50.1 33 (((S_29.1 30 5)).toNatClampNeg)).toInt = (S_39.1 33 (((S_29.1 30 5)).toNatClampNeg)).toInt := ti_eq (f_S_50 33 (((S_29.1 30 5)).toNatClampNeg) (fun e => absurd e (by decide)))
    have h43 : (S_50.1 33 (((S_39.1 30 5)).toNatClampNeg)).toInt = (S_39.1 33 (((S_39.1 30 5)).toNatClampNeg)).toInt := ti_eq (f_S_50 33 (((S_39.1 30 5)).toNatClampNeg) (fun e => absurd e (by decide)))
    have h44 : (S_50.1 33 (((S_50.1 30 5)).toNatClampNeg)).toInt = (S_39.1 33 (((S_39.1 30 5)).toNatClampNeg)).toInt := by rw [f_S_50 30 5 (fun e => absurd e (by decide))]; exact ti_eq (f_S_50 33 (((S_39.1 30 5)).toNatClampNeg) (fun e => absurd e (by decide)))
    have h45 := b_30_5 I_S_50
    refine Sf.g (ck_iv (by omega) (by omega)) ?_
    have h46 := i32 x5
    refine Sf.w I_S_50 F_S_50 rfl (i32 _).1 (i32 _).2 (fun S_61 I_S_61 F_S_61 v_S_61 f_S_61 l_S_61 => ?_)
    have h47 := ti_eq (f_S_61 30 5 (fun e => absurd e (by decide)))
    have h48 : (S_61.1 35 (((S_50.1 30 5)).toNatClampNeg)).toInt = (x5).toInt := eq_iv rfl rfl v_S_61
    have h49 : (S_61.1 35 (((S_61.1 30 5)).toNatClampNeg)).toInt = (x5).toInt := by rw [f_S_61 30 5 (fun e => absurd e (by decide))]; exact eq_iv rfl rfl v_S_61
    have h50 : (S_61.1 31 (((S.1 30 5)).toNatClampNeg)).toInt = (S_50.1 31 (((S.1 30 5)).toNatClampNeg)).toInt := ti_eq (f_S_61 31 (((S.1 30 5)).toNatClampNeg) (fun e => absurd e (by decide)))
    have h51 : (S_61.1 31 (((S_19.1 30 5)).toNatClampNeg)).toInt = (S_50.1 31 (((S_19.1 30 5)).toNatClampNeg)).toInt := ti_eq (f_S_61 31 (((S_19.1 30 5)).toNatClampNeg) (fun e => absurd e (by decide)))
    have h52 : (S_61.1 31 (((S_29.1 30 5)).toNatClampNeg)).toInt = (S_50.1 31 (((S_29.1 30 5)).toNatClampNeg)).toInt := ti_eq (f_S_61 31 (((S_29.1 30 5)).toNatClampNeg) (fun e => absurd e (by decide)))
    have h53 : (S_61.1 31 (((S_39.1 30 5)).toNatClampNeg)).toInt = (S_50.1 31 (((S_39.1 30 5)).toNatClampNeg)).toInt := ti_eq (f_S_61 31 (((S_39.1 30 5)).toNatClampNeg) (fun e => absurd e (by decide)))
    have h54 : (S_61.1 31 (((S_50.1 30 5)).toNatClampNeg)).toInt = (S_50.1 31 (((S_50.1 30 5)).toNatClampNeg)).toInt := ti_eq (f_S_61 31 (((S_50.1 30 5)).toNatClampNeg) (fun e => absurd e (by decide)))
    have h55 : (S_61.1 31 (((S_61.1 30 5)).toNatClampNeg)).toInt = (S_50.1 31 (((S_50.1 30 5)).toNatClampNeg)).toInt := by rw [f_S_61 30 5 (fun e => absurd e (by decide))]; exact ti_eq (f_S_61 31 (((S_50.1 30 5)).toNatClampNeg) (fun e => absurd e (by decide)))
    have h56 : (S_61.1 32 (((S_19.1 30 5)).toNatClampNeg)).toInt = (S_50.1 32 (((S_19.1 30 5)).toNatClampNeg)).toInt := ti_eq (f_S_61 32 (((S_19.1 30 5)).toNatClampNeg) (fun e => absurd e (by decide)))
    have h57 : (S_61.1 32 (((S_29.1 30 5)).toNatClampNeg)).toInt = (S_50.1 32 (((S_29.1 30 5)).toNatClampNeg)).toInt := ti_eq (f_S_61 32 (((S_29.1 30 5)).toNatClampNeg) (fun e => absurd e (by decide)))
    have h58 : (S_61.1 32 (((S_39.1 30 5)).toNatClampNeg)).toInt = (S_50.1 32 (((S_39.1 30 5)).toNatClampNeg)).toInt := ti_eq (f_S_61 32 (((S_39.1 30 5)).toNatClampNeg) (fun e => absurd e (by decide)))
    have h59 : (S_61.1 32 (((S_50.1 30 5)).toNatClampNeg)).toInt = (S_50.1 32 (((S_50.1 30 5)).toNatClampNeg)).toInt := ti_eq (f_S_61 32 (((S_50.1 30 5)).toNatClampNeg) (fun e => absurd e (by decide)))
    have h60 : (S_61.1 32 (((S_61.1 30 5)).toNatClampNeg)).toInt = (S_50.1 32 (((S_50.1 30 5)).toNatClampNeg)).toInt := by rw [f_S_61 30 5 (fun e => absurd e (by decide))]; exact ti_eq (f_S_61 32 (((S_50.1 30 5)).toNatClampNeg) (fun e => absurd e (by decide)))
    have h61 : (S_61.1 33 (((S_29.1 30 5)).toNatClampNeg)).toInt = (S_50.1 33 (((S_29.1 30 5)).toNatClampNeg)).toInt := ti_eq (f_S_61 33 (((S_29.1 30 5)).toNatClampNeg) (fun e => absurd e (by decide)))
    have h62 : (S_61.1 33 (((S_39.1 30 5)).toNatClampNeg)).toInt = (S_50.1 33 (((S_39.1 30 5)).toNatClampNeg)).toInt := ti_eq (f_S_61 33 (((S_39.1 30 5)).toNatClampNeg) (fun e => absurd e (by decide)))
    have h63 : (S_61.1 33 (((S_50.1 30 5)).toNatClampNeg)).toInt = (S_50.1 33 (((S_50.1 30 5)).toNatClampNeg)).toInt := ti_eq (f_S_61 33 (((S_50.1 30 5)).toNatClampNeg) (fun e => absurd e (by decide)))
    have h64 : (S_61.1 33 (((S_61.1 30 5)).toNatClampNeg)).toInt = (S_50.1 33 (((S_50.1 30 5)).toNatClampNeg)).toInt := by rw [f_S_61 30 5 (fun e => absurd e (by decide))]; exact ti_eq (f_S_61 33 (((S_50.1 30 5)).toNatClampNeg) (fun e => absurd e (by decide)))
    have h65 : (S_61.1 34 (((S_39.1 30 5)).toNatClampNeg)).toInt = (S_50.1 34 (((S_39.1 30 5)).toNatClampNeg)).toInt := ti_eq (f_S_61 34 (((S_39.1 30 5)).toNatClampNeg) (fun e => absurd e (by decide)))
    have h66 : (S_61.1 34 (((S_50.1 30 5)).toNatClampNeg)).toInt = (S_50.1 34 (((S_50.1 30 5)).toNatClampNeg)).toInt := ti_eq (f_S_61 34 (((S_50.1 30 5)).toNatClampNeg) (fun e => absurd e (by decide)))
    have h67 : (S_61.1 34 (((S_61.1 30 5)).toNatClampNeg)).toInt = (S_50.1 34 (((S_50.1 30 5)).toNatClampNeg)).toInt := by rw [f_S_61 30 5 (fun e => absurd e (by decide))]; exact ti_eq (f_S_61 34 (((S_50.1 30 5)).toNatClampNeg) (fun e => absurd e (by decide)))
    have h68 := b_30_5 I_S_61
    try have h69 : (((S_61.1 30 5) + (1 : Int32))).toInt = ((S_61.1 30 5)).toInt + (1) := add_iv rfl li_1 (by omega) (by omega)
    refine Sf.w I_S_61 F_S_61 rfl (show ((0) : Int) ≤ (((S_61.1 30 5) + (1 : Int32))).toInt by omega) (show (((S_61.1 30 5) + (1 : Int32))).toInt ≤ (90 : Int) by omega) (fun S_69 I_S_69 F_S_69 v_S_69 f_S_69 l_S_69 => ?_)
    have h70 := eq_iv rfl rfl v_S_69
    have h71 : (S_69.1 31 (((S.1 30 5)).toNatClampNeg)).toInt = (S_61.1 31 (((S.1 30 5)).toNatClampNeg)).toInt := ti_eq (f_S_69 31 (((S.1 30 5)).toNatClampNeg) (fun e => absurd e (by decide)))
    have h72 : (S_69.1 31 (((S_19.1 30 5)).toNatClampNeg)).toInt = (S_61.1 31 (((S_19.1 30 5)).toNatClampNeg)).toInt := ti_eq (f_S_69 31 (((S_19.1 30 5)).toNatClampNeg) (fun e => absurd e (by decide)))
    have h73 : (S_69.1 31 (((S_29.1 30 5)).toNatClampNeg)).toInt = (S_61.1 31 (((S_29.1 30 5)).toNatClampNeg)).toInt := ti_eq (f_S_69 31 (((S_29.1 30 5)).toNatClampNeg) (fun e => absurd e (by decide)))
    have h74 : (S_69.1 31 (((S_39.1 30 5)).toNatClampNeg)).toInt = (S_61.1 31 (((S_39.1 30 5)).toNatClampNeg)).toInt := ti_eq (f_S_69 31 (((S_39.1 30 5)).toNatClampNeg) (fun e => absurd e (by decide)))
    have h75 : (S_69.1 31 (((S_50.1 30 5)).toNatClampNeg)).toInt = (S_61.1 31 (((S_50.1 30 5)).toNatClampNeg)).toInt := ti_eq (f_S_69 31 (((S_50.1 30 5)).toNatClampNeg) (fun e => absurd e (by decide)))
    have h76 : (S_69.1 31 (((S_61.1 30 5)).toNatClampNeg)).toInt = (S_61.1 31 (((S_61.1 30 5)).toNatClampNeg)).toInt := ti_eq (f_S_69 31 (((S_61.1 30 5)).toNatClampNeg) (fun e => absurd e (by decide)))
    have h77 : (S_69.1 32 (((S_19.1 30 5)).toNatClampNeg)).toInt = (S_61.1 32 (((S_19.1 30 5)).toNatClampNeg)).toInt := ti_eq (f_S_69 32 (((S_19.1 30 5)).toNatClampNeg) (fun e => absurd e (by decide)))
    have h78 : (S_69.1 32 (((S_29.1 30 5)).toNatClampNeg)).toInt = (S_61.1 32 (((S_29.1 30 5)).toNatClampNeg)).toInt := ti_eq (f_S_69 32 (((S_29.1 30 5)).toNatClampNeg) (fun e => absurd e (by decide)))
    have h79 : (S_69.1 32 (((S_39.1 30 5)).toNatClampNeg)).toInt = (S_61.1 32 (((S_39.1 30 5)).toNatClampNeg)).toInt := ti_eq (f_S_69 32 (((S_39.1 30 5)).toNatClampNeg) (fun e => absurd e (by decide)))
    have h80 : (S_69.1 32 (((S_50.1 30 5)).toNatClampNeg)).toInt = (S_61.1 32 (((S_50.1 30 5)).toNatClampNeg)).toInt := ti_eq (f_S_69 32 (((S_50.1 30 5)).toNatClampNeg) (fun e => absurd e (by decide)))
    have h81 : (S_69.1 32 (((S_61.1 30 5)).toNatClampNeg)).toInt = (S_61.1 32 (((S_61.1 30 5)).toNatClampNeg)).toInt := ti_eq (f_S_69 32 (((S_61.1 30 5)).toNatClampNeg) (fun e => absurd e (by decide)))
    have h82 : (S_69.1 33 (((S_29.1 30 5)).toNatClampNeg)).toInt = (S_61.1 33 (((S_29.1 30 5)).toNatClampNeg)).toInt := ti_eq (f_S_69 33 (((S_29.1 30 5)).toNatClampNeg) (fun e => absurd e (by decide)))
    have h83 : (S_69.1 33 (((S_39.1 30 5)).toNatClampNeg)).toInt = (S_61.1 33 (((S_39.1 30 5)).toNatClampNeg)).toInt := ti_eq (f_S_69 33 (((S_39.1 30 5)).toNatClampNeg) (fun e => absurd e (by decide)))
    have h84 : (S_69.1 33 (((S_50.1 30 5)).toNatClampNeg)).toInt = (S_61.1 33 (((S_50.1 30 5)).toNatClampNeg)).toInt := ti_eq (f_S_69 33 (((S_50.1 30 5)).toNatClampNeg) (fun e => absurd e (by decide)))
    have h85 : (S_69.1 33 (((S_61.1 30 5)).toNatClampNeg)).toInt = (S_61.1 33 (((S_61.1 30 5)).toNatClampNeg)).toInt := ti_eq (f_S_69 33 (((S_61.1 30 5)).toNatClampNeg) (fun e => absurd e (by decide)))
    have h86 : (S_69.1 34 (((S_39.1 30 5)).toNatClampNeg)).toInt = (S_61.1 34 (((S_39.1 30 5)).toNatClampNeg)).toInt := ti_eq (f_S_69 34 (((S_39.1 30 5)).toNatClampNeg) (fun e => absurd e (by decide)))
    have h87 : (S_69.1 34 (((S_50.1 30 5)).toNatClampNeg)).toInt = (S_61.1 34 (((S_50.1 30 5)).toNatClampNeg)).toInt := ti_eq (f_S_69 34 (((S_50.1 30 5)).toNatClampNeg) (fun e => absurd e (by decide)))
    have h88 : (S_69.1 34 (((S_61.1 30 5)).toNatClampNeg)).toInt = (S_61.1 34 (((S_61.1 30 5)).toNatClampNeg)).toInt := ti_eq (f_S_69 34 (((S_61.1 30 5)).toNatClampNeg) (fun e => absurd e (by decide)))
    have h89 : (S_69.1 35 (((S_50.1 30 5)).toNatClampNeg)).toInt = (S_61.1 35 (((S_50.1 30 5)).toNatClampNeg)).toInt := ti_eq (f_S_69 35 (((S_50.1 30 5)).toNatClampNeg) (fun e => absurd e (by decide)))
    have h90 : (S_69.1 35 (((S_61.1 30 5)).toNatClampNeg)).toInt = (S_61.1 35 (((S_61.1 30 5)).toNatClampNeg)).toInt := ti_eq (f_S_69 35 (((S_61.1 30 5)).toNatClampNeg) (fun e => absurd e (by decide)))
    exact Sf.so ⟨I_S_69, F_S_69, trivial⟩
  · have h91 := nlt_iv rfl li_90 c_h2
    exact Sf.so ⟨I_S, F_S, trivial⟩
theorem s_fX4_readDataName_1 (fu : Nat) (hfu : 1000000000000000000 ≤ fu) (x2 : Int32) (x3 : Int32) (S : St) (I_S : Inv S) : Sf (fX4_readDataName fu 1 x2 x3 S) (fun U r => Inv U ∧ Fr [(3, 4), (4, 0), (6, 0), (26, 9), (26, 10), (27, 3), (29, 0)] S U ∧ (True)) := by
  unfold fX4_readDataName
  try simp only [Nat.reduceAdd]
  have F_S : Fr [(3, 4), (4, 0), (6, 0), (26, 9), (26, 10), (27, 3), (29, 0)] S S := Fr.refl _ _
  have h1 := i32 x2
  refine Sf.w I_S F_S rfl (i32 _).1 (i32 _).2 (fun S_2 I_S_2 F_S_2 v_S_2 f_S_2 l_S_2 => ?_)
  have h2 := eq_iv rfl rfl v_S_2
  refine Sf.b (s_fX4_readName_1 fu hfu S_2 I_S_2) (fun S_7 r_7 p_r_7 => ?_)
  obtain ⟨I_S_7, G_S_7, p_r_7⟩ := p_r_7
  have F_S_7 := Fr.tr F_S_2 G_S_7 rfl
  have h3 := i32 r_7
  refine Sf.i (fun c_h4 => ?_) (fun c_h4 => ?_)
  · have h5 := eq_iv rfl li_6 c_h4
    exact Sf.so ⟨I_S_7, F_S_7, trivial⟩
  · have h6 := neq_iv rfl li_6 c_h4
    refine Sf.i (fun c_h7 => ?_) (fun c_h7 => ?_)
    · have h8 := eq_iv rfl li_0 c_h7
      have h9 := i32 x3
      refine Sf.i (fun c_h10 => ?_) (fun c_h10 => ?_)
      · have h11 := eq_iv rfl rfl c_h10
        exact Sf.so ⟨I_S_7, F_S_7, trivial⟩
      · have h12 := neq_iv rfl rfl c_h10
        exact Sf.so ⟨I_S_7, F_S_7, trivial⟩
    · have h13 := neq_iv rfl li_0 c_h7
      exact Sf.so ⟨I_S_7, F_S_7, trivial⟩
theorem s_fX4_readRecord_1 (fu : Nat) (hfu : 1000000000000000000 ≤ fu) (x2 : Int32) (S : St) (I_S : Inv S) : Sf (fX4_readRecord fu 1 x2 S) (fun U r => Inv U ∧ Fr [(3, 4), (4, 0), (6, 0), (26, 9), (26, 10), (27, 3), (29, 0), (30, 6), (31, 0), (32, 0), (33, 0), (34, 0), (35, 0)] S U ∧ (True)) := by
  unfold fX4_readRecord
  try simp only [Nat.reduceAdd]
  have F_S : Fr [(3, 4), (4, 0), (6, 0), (26, 9), (26, 10), (27, 3), (29, 0), (30, 6), (31, 0), (32, 0), (33, 0), (34, 0), (35, 0)] S S := Fr.refl _ _
  refine Sf.b (s_fX4_readName_1 fu hfu S I_S) (fun S_2 r_2 p_r_2 => ?_)
  obtain ⟨I_S_2, G_S_2, p_r_2⟩ := p_r_2
  have F_S_2 := Fr.tr F_S G_S_2 rfl
  have h1 := ti_eq (G_S_2 1 1 rfl)
  have h2 := i32 r_2
  refine Sf.i (fun c_h3 => ?_) (fun c_h3 => ?_)
  · have h4 := eq_iv rfl li_0 c_h3
    have h5 := b_1_1 I_S_2
    refine Sf.bp (s_fX0_size_1 fu hfu S_2 I_S_2) (fun r_34 p_r_34 => ?_)
    have h6 := i32 r_34
    try have h7 : (((S_2.1 26 8) + (10 : Int32))).toInt = ((S_2.1 26 8)).toInt + (10) := add_iv rfl li_10 (by omega) (by omega)
    refine Sf.i (fun c_h8 => ?_) (fun c_h8 => ?_)
    · have h9 := le_iv rfl rfl c_h8
      refine Sf.bp (s_fX0_two_1 fu hfu (S_2.1 26 8) S_2 I_S_2) (fun r_45 p_r_45 => ?_)
      try have h10 : (((S_2.1 26 8) + (8 : Int32))).toInt = ((S_2.1 26 8)).toInt + (8) := add_iv rfl li_8 (by omega) (by omega)
      refine Sf.bp (s_fX0_two_1 fu hfu ((S_2.1 26 8) + (8 : Int32)) S_2 I_S_2) (fun r_58 p_r_58 => ?_)
      refine Sf.bp (s_fX0_size_1 fu hfu S_2 I_S_2) (fun r_67 p_r_67 => ?_)
      have h11 := i32 r_58
      have h12 := i32 r_67
      try have h13 : ((((S_2.1 26 8) + (10 : Int32)) + r_58)).toInt = (((S_2.1 26 8) + (10 : Int32))).toInt + (r_58).toInt := add_iv rfl rfl (by omega) (by omega)
      refine Sf.i (fun c_h14 => ?_) (fun c_h14 => ?_)
      · have h15 := le_iv rfl rfl c_h14
        have h16 := i32 r_45
        refine Sf.bp (s_fX11_isNamed fu hfu r_45 S_2 I_S_2) (fun r_77 p_r_77 => ?_)
        have h17 := i32 r_77
        refine Sf.i (fun c_h18 => ?_) (fun c_h18 => ?_)
        · have h19 := eq_iv rfl li_0 c_h18
          refine Sf.b (s_fX4_readData_1 fu hfu r_45 ((S_2.1 26 8) + (10 : Int32)) (((S_2.1 26 8) + (10 : Int32)) + r_58) S_2 I_S_2) (fun S_103 r_103 p_r_103 => ?_)
          obtain ⟨I_S_103, G_S_103, p_r_103⟩ := p_r_103
          have F_S_103 := Fr.tr F_S_2 G_S_103 rfl
          have h20 := ti_eq (G_S_103 1 1 rfl)
          have h21 := ti_eq (G_S_103 26 8 rfl)
          unfold fX4_readRecord_106
          try simp only [Nat.reduceAdd]
          have h22 := i32 r_103
          refine Sf.i (fun c_h23 => ?_) (fun c_h23 => ?_)
          · have h24 := eq_iv rfl li_0 c_h23
            refine Sf.w I_S_103 F_S_103 rfl (i32 _).1 (i32 _).2 (fun S_116 I_S_116 F_S_116 v_S_116 f_S_116 l_S_116 => ?_)
            have h25 := ti_eq (f_S_116 1 1 (fun e => absurd e (by decide)))
            have h26 := eq_iv rfl rfl v_S_116
            have h27 := ti_eq (f_S_116 26 9 (fun _ e => absurd e (by decide)))
            try have h28 : (((S_2.1 26 8) + (2 : Int32))).toInt = ((S_2.1 26 8)).toInt + (2) := add_iv rfl li_2 (by omega) (by omega)
            refine Sf.bp (s_fX0_two_1 fu hfu ((S_2.1 26 8) + (2 : Int32)) S_116 I_S_116) (fun r_124 p_r_124 => ?_)
            have h29 := i32 r_124
            refine Sf.i (fun c_h30 => ?_) (fun c_h30 => ?_)
            · have h31 := eq_iv rfl li_1 c_h30
              refine Sf.bp (s_fX11_isKept fu hfu r_45 S_116 I_S_116) (fun r_133 p_r_133 => ?_)
              have h32 := i32 r_133
              refine Sf.i (fun c_h33 => ?_) (fun c_h33 => ?_)
              · have h34 := eq_iv rfl li_0 c_h33
                refine Sf.i (fun c_h35 => ?_) (fun c_h35 => ?_)
                · have h36 := eq_iv rfl li_6 c_h35
                  unfold fX4_readRecord_146
                  try simp only [Nat.reduceAdd]
                  try have h37 : (((S_2.1 26 8) + (4 : Int32))).toInt = ((S_2.1 26 8)).toInt + (4) := add_iv rfl li_4 (by omega) (by omega)
                  refine Sf.bp (s_fX0_four_1 fu hfu ((S_2.1 26 8) + (4 : Int32)) S_116 I_S_116) (fun r_164 p_r_164 => ?_)
                  have h38 := i32 x2
                  have h39 := i32 r_164
                  refine Sf.b (s_fX5_add_30 fu hfu x2 (S_2.1 26 9) r_45 (S_116.1 26 9) r_164 S_116 I_S_116) (fun S_167 r_167_ p_r_167_ => ?_)
                  obtain ⟨I_S_167, G_S_167, p_r_167_⟩ := p_r_167_
                  have F_S_167 := Fr.tr F_S_116 G_S_167 rfl
                  have h40 := ti_eq (G_S_167 1 1 rfl)
                  have h41 := ti_eq (G_S_167 26 8 rfl)
                  have h42 := ti_eq (G_S_167 26 9 rfl)
                  exact Sf.so ⟨I_S_167, F_S_167, trivial⟩
                · have h43 := neq_iv rfl li_6 c_h35
                  exact Sf.so ⟨I_S_116, F_S_116, trivial⟩
              · have h44 := neq_iv rfl li_0 c_h33
                unfold fX4_readRecord_146
                try simp only [Nat.reduceAdd]
                try have h45 : (((S_2.1 26 8) + (4 : Int32))).toInt = ((S_2.1 26 8)).toInt + (4) := add_iv rfl li_4 (by omega) (by omega)
                refine Sf.bp (s_fX0_four_1 fu hfu ((S_2.1 26 8) + (4 : Int32)) S_116 I_S_116) (fun r_164 p_r_164 => ?_)
                have h46 := i32 x2
                have h47 := i32 r_164
                refine Sf.b (s_fX5_add_30 fu hfu x2 (S_2.1 26 9) r_45 (S_116.1 26 9) r_164 S_116 I_S_116) (fun S_167 r_167_ p_r_167_ => ?_)
                obtain ⟨I_S_167, G_S_167, p_r_167_⟩ := p_r_167_
                have F_S_167 := Fr.tr F_S_116 G_S_167 rfl
                have h48 := ti_eq (G_S_167 1 1 rfl)
                have h49 := ti_eq (G_S_167 26 8 rfl)
                have h50 := ti_eq (G_S_167 26 9 rfl)
                exact Sf.so ⟨I_S_167, F_S_167, trivial⟩
            · have h51 := neq_iv rfl li_1 c_h30
              exact Sf.so ⟨I_S_116, F_S_116, trivial⟩
          · have h52 := neq_iv rfl li_0 c_h23
            exact Sf.so ⟨I_S_103, F_S_103, trivial⟩
        · have h53 := neq_iv rfl li_0 c_h18
          refine Sf.b (s_fX4_readDataName_1 fu hfu ((S_2.1 26 8) + (10 : Int32)) (((S_2.1 26 8) + (10 : Int32)) + r_58) S_2 I_S_2) (fun S_89 r_89 p_r_89 => ?_)
          obtain ⟨I_S_89, G_S_89, p_r_89⟩ := p_r_89
          have F_S_89 := Fr.tr F_S_2 G_S_89 rfl
          have h54 := ti_eq (G_S_89 1 1 rfl)
          unfold fX4_readRecord_106
          try simp only [Nat.reduceAdd]
          have h55 := i32 r_89
          refine Sf.i (fun c_h56 => ?_) (fun c_h56 => ?_)
          · have h57 := eq_iv rfl li_0 c_h56
            refine Sf.w I_S_89 F_S_89 rfl (i32 _).1 (i32 _).2 (fun S_116 I_S_116 F_S_116 v_S_116 f_S_116 l_S_116 => ?_)
            have h58 := ti_eq (f_S_116 1 1 (fun e => absurd e (by decide)))
            have h59 := eq_iv rfl rfl v_S_116
            have h60 := ti_eq (f_S_116 26 9 (fun _ e => absurd e (by decide)))
            try have h61 : (((S_2.1 26 8) + (2 : Int32))).toInt = ((S_2.1 26 8)).toInt + (2) := add_iv rfl li_2 (by omega) (by omega)
            refine Sf.bp (s_fX0_two_1 fu hfu ((S_2.1 26 8) + (2 : Int32)) S_116 I_S_116) (fun r_124 p_r_124 => ?_)
            have h62 := i32 r_124
            refine Sf.i (fun c_h63 => ?_) (fun c_h63 => ?_)
            · have h64 := eq_iv rfl li_1 c_h63
              refine Sf.bp (s_fX11_isKept fu hfu r_45 S_116 I_S_116) (fun r_133 p_r_133 => ?_)
              have h65 := i32 r_133
              refine Sf.i (fun c_h66 => ?_) (fun c_h66 => ?_)
              · have h67 := eq_iv rfl li_0 c_h66
                refine Sf.i (fun c_h68 => ?_) (fun c_h68 => ?_)
                · have h69 := eq_iv rfl li_6 c_h68
                  unfold fX4_readRecord_146
                  try simp only [Nat.reduceAdd]
                  try have h70 : (((S_2.1 26 8) + (4 : Int32))).toInt = ((S_2.1 26 8)).toInt + (4) := add_iv rfl li_4 (by omega) (by omega)
                  refine Sf.bp (s_fX0_four_1 fu hfu ((S_2.1 26 8) + (4 : Int32)) S_116 I_S_116) (fun r_164 p_r_164 => ?_)
                  have h71 := i32 x2
                  have h72 := i32 r_164
                  refine Sf.b (s_fX5_add_30 fu hfu x2 (S_2.1 26 9) r_45 (S_116.1 26 9) r_164 S_116 I_S_116) (fun S_167 r_167_ p_r_167_ => ?_)
                  obtain ⟨I_S_167, G_S_167, p_r_167_⟩ := p_r_167_
                  have F_S_167 := Fr.tr F_S_116 G_S_167 rfl
                  have h73 := ti_eq (G_S_167 1 1 rfl)
                  have h74 := ti_eq (G_S_167 26 8 rfl)
                  have h75 := ti_eq (G_S_167 26 9 rfl)
                  exact Sf.so ⟨I_S_167, F_S_167, trivial⟩
                · have h76 := neq_iv rfl li_6 c_h68
                  exact Sf.so ⟨I_S_116, F_S_116, trivial⟩
              · have h77 := neq_iv rfl li_0 c_h66
                unfold fX4_readRecord_146
                try simp only [Nat.reduceAdd]
                try have h78 : (((S_2.1 26 8) + (4 : Int32))).toInt = ((S_2.1 26 8)).toInt + (4) := add_iv rfl li_4 (by omega) (by omega)
                refine Sf.bp (s_fX0_four_1 fu hfu ((S_2.1 26 8) + (4 : Int32)) S_116 I_S_116) (fun r_164 p_r_164 => ?_)
                have h79 := i32 x2
                have h80 := i32 r_164
                refine Sf.b (s_fX5_add_30 fu hfu x2 (S_2.1 26 9) r_45 (S_116.1 26 9) r_164 S_116 I_S_116) (fun S_167 r_167_ p_r_167_ => ?_)
                obtain ⟨I_S_167, G_S_167, p_r_167_⟩ := p_r_167_
                have F_S_167 := Fr.tr F_S_116 G_S_167 rfl
                have h81 := ti_eq (G_S_167 1 1 rfl)
                have h82 := ti_eq (G_S_167 26 8 rfl)
                have h83 := ti_eq (G_S_167 26 9 rfl)
                exact Sf.so ⟨I_S_167, F_S_167, trivial⟩
            · have h84 := neq_iv rfl li_1 c_h63
              exact Sf.so ⟨I_S_116, F_S_116, trivial⟩
          · have h85 := neq_iv rfl li_0 c_h56
            exact Sf.so ⟨I_S_89, F_S_89, trivial⟩
      · have h86 := nle_iv rfl rfl c_h14
        exact Sf.so ⟨I_S_2, F_S_2, trivial⟩
    · have h87 := nle_iv rfl rfl c_h8
      exact Sf.so ⟨I_S_2, F_S_2, trivial⟩
  · have h88 := neq_iv rfl li_0 c_h3
    exact Sf.so ⟨I_S_2, F_S_2, trivial⟩
theorem s_fX4_read_79_1 (fu : Nat) (hfu : 1000000000000000000 ≤ fu) (k_59 : Int32 → Int32 → St → Option (St × Int32)) (N : Nat) (hk_k_59 : ∀ (x2 : Int32) (x3 : Int32) (S : St), Inv S → (0 ≤ (x3).toInt) → (3 - (x3).toInt).toNat < N → Sf (k_59 x2 x3 S) (fun U r => Inv U ∧ Fr [(3, 4), (4, 0), (6, 0), (26, 9), (26, 10), (27, 3), (29, 0), (30, 6), (31, 0), (32, 0), (33, 0), (34, 0), (35, 0)] S U ∧ (True))) : ∀ (n : Nat) (x2 : Int32) (x3 : Int32) (x4 : Int32) (x5 : Int32) (S : St), Inv S → (0 ≤ (x5).toInt) → (0 ≤ (x3).toInt) → ((x3).toInt < 3) → ((3 - (x3).toInt).toNat ≤ N) → ((x4).toInt - (x5).toInt).toNat < n → Sf (fX4_read_79 fu 1 k_59 n x2 x3 x4 x5 S) (fun U r => Inv U ∧ Fr [(3, 4), (4, 0), (6, 0), (26, 9), (26, 10), (27, 3), (29, 0), (30, 6), (31, 0), (32, 0), (33, 0), (34, 0), (35, 0)] S U ∧ (True)) := by
  intro n
  induction n with
  | zero => intro x2 x3 x4 x5 S I_S g0 g1 g2 g3 hm; exact absurd hm (Nat.not_lt_zero _)
  | succ n ih =>
    intro x2 x3 x4 x5 S I_S g0 g1 g2 g3 hm
    rw [fX4_read_79_s]
    try simp only [Nat.reduceAdd]
    have F_S : Fr [(3, 4), (4, 0), (6, 0), (26, 9), (26, 10), (27, 3), (29, 0), (30, 6), (31, 0), (32, 0), (33, 0), (34, 0), (35, 0)] S S := Fr.refl _ _
    have h1 := i32 x4
    have h2 := i32 x5
    refine Sf.i (fun c_h3 => ?_) (fun c_h3 => ?_)
    · have h4 := le_iv rfl rfl c_h3
      unfold fX4_read_103
      try simp only [Nat.reduceAdd]
      have h5 := i32 x2
      have h6 := i32 x3
      try have h7 : ((x3 + (1 : Int32))).toInt = (x3).toInt + (1) := add_iv rfl li_1 (by omega) (by omega)
      refine Sf.mono (hk_k_59 x2 (x3 + (1 : Int32)) S I_S (by omega) (by omega)) (fun U r p_h8 => ?_)
      obtain ⟨I_U, G_U, p_h8⟩ := p_h8
      exact ⟨I_U, Fr.tr F_S G_U rfl, trivial⟩
    · have h9 := nle_iv rfl rfl c_h3
      have h10 := i32 x2
      refine Sf.i (fun c_h11 => ?_) (fun c_h11 => ?_)
      · have h12 := eq_iv rfl li_0 c_h11
        have h13 := i32 x3
        refine Sf.b (s_fX4_readRecord_1 fu hfu x3 S I_S) (fun S_93 r_93 p_r_93 => ?_)
        obtain ⟨I_S_93, G_S_93, p_r_93⟩ := p_r_93
        have F_S_93 := Fr.tr F_S G_S_93 rfl
        have h14 := i32 r_93
        try have h15 : ((x5 + (1 : Int32))).toInt = (x5).toInt + (1) := add_iv rfl li_1 (by omega) (by omega)
        refine Sf.mono (ih r_93 x3 x4 (x5 + (1 : Int32)) S_93 I_S_93 (by omega) (by omega) (by omega) (by omega) (by omega)) (fun U r p_h16 => ?_)
        obtain ⟨I_U, G_U, p_h16⟩ := p_h16
        exact ⟨I_U, Fr.tr F_S_93 G_U rfl, trivial⟩
      · have h17 := neq_iv rfl li_0 c_h11
        unfold fX4_read_103
        try simp only [Nat.reduceAdd]
        have h18 := i32 x3
        try have h19 : ((x3 + (1 : Int32))).toInt = (x3).toInt + (1) := add_iv rfl li_1 (by omega) (by omega)
        refine Sf.mono (hk_k_59 x2 (x3 + (1 : Int32)) S I_S (by omega) (by omega)) (fun U r p_h20 => ?_)
        obtain ⟨I_U, G_U, p_h20⟩ := p_h20
        exact ⟨I_U, Fr.tr F_S G_U rfl, trivial⟩
theorem s_fX4_read_59_1 (fu : Nat) (hfu : 1000000000000000000 ≤ fu) : ∀ (n : Nat) (x2 : Int32) (x3 : Int32) (S : St), Inv S → (0 ≤ (x3).toInt) → (3 - (x3).toInt).toNat < n → Sf (fX4_read_59 fu 1 n x2 x3 S) (fun U r => Inv U ∧ Fr [(3, 4), (4, 0), (6, 0), (26, 9), (26, 10), (27, 3), (29, 0), (30, 6), (31, 0), (32, 0), (33, 0), (34, 0), (35, 0)] S U ∧ (True)) := by
  intro n
  induction n with
  | zero => intro x2 x3 S I_S g0 hm; exact absurd hm (Nat.not_lt_zero _)
  | succ n ih =>
    intro x2 x3 S I_S g0 hm
    rw [fX4_read_59_s]
    try simp only [Nat.reduceAdd]
    have F_S : Fr [(3, 4), (4, 0), (6, 0), (26, 9), (26, 10), (27, 3), (29, 0), (30, 6), (31, 0), (32, 0), (33, 0), (34, 0), (35, 0)] S S := Fr.refl _ _
    have h1 := i32 x3
    refine Sf.i (fun c_h2 => ?_) (fun c_h2 => ?_)
    · have h3 := le_iv li_3 rfl c_h2
      have h4 := i32 x2
      refine Sf.i (fun c_h5 => ?_) (fun c_h5 => ?_)
      · have h6 := eq_iv rfl li_0 c_h5
        have h7 := b_1_1 I_S
        refine Sf.bp (s_fX0_size_1 fu hfu S I_S) (fun r_118 p_r_118 => ?_)
        have h8 := i32 r_118
        refine Sf.i (fun c_h9 => ?_) (fun c_h9 => ?_)
        · have h10 := le_iv rfl rfl c_h9
          exact Sf.so ⟨I_S, F_S, trivial⟩
        · have h11 := nle_iv rfl rfl c_h9
          exact Sf.so ⟨I_S, F_S, trivial⟩
      · have h12 := neq_iv rfl li_0 c_h5
        exact Sf.so ⟨I_S, F_S, trivial⟩
    · have h13 := nle_iv li_3 rfl c_h2
      try have h14 : (((2 : Int32) * x3)).toInt = (2) * (x3).toInt := mul_iv li_2 rfl (by omega) (by omega)
      try have h15 : (((6 : Int32) + ((2 : Int32) * x3))).toInt = (6) + (((2 : Int32) * x3)).toInt := add_iv li_6 rfl (by omega) (by omega)
      refine Sf.bp (s_fX0_two_1 fu hfu ((6 : Int32) + ((2 : Int32) * x3)) S I_S) (fun r_71 p_r_71 => ?_)
      have h16 := i32 x2
      have h17 := i32 r_71
      have h18 : ((0 : Int32)).toInt = 0 := li_0
      refine Sf.mono (s_fX4_read_79_1 fu hfu _ _ ih fu x2 x3 r_71 (0 : Int32) S I_S (by omega) (by omega) (by omega) (by omega) (by omega)) (fun U r p_h19 => ?_)
      obtain ⟨I_U, G_U, p_h19⟩ := p_h19
      have h20 := ti_eq (G_U 1 1 rfl)
      exact ⟨I_U, Fr.tr F_S G_U rfl, trivial⟩
theorem s_fX4_read_1 (fu : Nat) (hfu : 1000000000000000000 ≤ fu) (S : St) (I_S : Inv S) : Sf (fX4_read fu 1 S) (fun U r => Inv U ∧ Fr [(3, 4), (4, 0), (6, 0), (26, 4), (26, 5), (26, 6), (26, 7), (26, 8), (26, 9), (26, 10), (27, 3), (29, 0), (30, 6), (31, 0), (32, 0), (33, 0), (34, 0), (35, 0)] S U ∧ (True)) := by
  unfold fX4_read
  try simp only [Nat.reduceAdd]
  have F_S : Fr [(3, 4), (4, 0), (6, 0), (26, 4), (26, 5), (26, 6), (26, 7), (26, 8), (26, 9), (26, 10), (27, 3), (29, 0), (30, 6), (31, 0), (32, 0), (33, 0), (34, 0), (35, 0)] S S := Fr.refl _ _
  refine Sf.b (s_fX5_clear_30 fu hfu S I_S) (fun S_4 r_4_ p_r_4_ => ?_)
  obtain ⟨I_S_4, G_S_4, p_r_4_⟩ := p_r_4_
  have F_S_4 := Fr.tr F_S G_S_4 rfl
  have h1 := ti_eq (G_S_4 1 1 rfl)
  have h2 := ti_eq (G_S_4 26 8 rfl)
  have h3 := b_1_1 I_S_4
  refine Sf.bp (s_fX0_size_1 fu hfu S_4 I_S_4) (fun r_8 p_r_8 => ?_)
  have h4 := i32 r_8
  refine Sf.i (fun c_h5 => ?_) (fun c_h5 => ?_)
  · have h6 := lt_iv rfl li_12 c_h5
    exact Sf.so ⟨I_S_4, F_S_4, trivial⟩
  · have h7 := nlt_iv rfl li_12 c_h5
    have h8 : ((4 : Int32)).toInt = 4 := li_4
    refine Sf.bp (s_fX0_two_1 fu hfu (4 : Int32) S_4 I_S_4) (fun r_18 p_r_18 => ?_)
    have h9 := i32 r_18
    refine Sf.i (fun c_h10 => ?_) (fun c_h10 => ?_)
    · have h11 := eq_iv rfl li_1 c_h10
      have h12 : ((0 : Int32)).toInt = 0 := li_0
      refine Sf.bp (s_fX0_two_1 fu hfu (0 : Int32) S_4 I_S_4) (fun r_30 p_r_30 => ?_)
      have h13 := i32 r_30
      refine Sf.w I_S_4 F_S_4 rfl (i32 _).1 (i32 _).2 (fun S_33 I_S_33 F_S_33 v_S_33 f_S_33 l_S_33 => ?_)
      have h14 := ti_eq (f_S_33 1 1 (fun e => absurd e (by decide)))
      have h15 := ti_eq (f_S_33 26 8 (fun _ e => absurd e (by decide)))
      have h16 : ((2 : Int32)).toInt = 2 := li_2
      refine Sf.bp (s_fX0_two_1 fu hfu (2 : Int32) S_33 I_S_33) (fun r_39 p_r_39 => ?_)
      have h17 := i32 r_39
      refine Sf.w I_S_33 F_S_33 rfl (i32 _).1 (i32 _).2 (fun S_42 I_S_42 F_S_42 v_S_42 f_S_42 l_S_42 => ?_)
      have h18 := ti_eq (f_S_42 1 1 (fun e => absurd e (by decide)))
      have h19 := ti_eq (f_S_42 26 8 (fun _ e => absurd e (by decide)))
      refine Sf.w I_S_42 F_S_42 rfl (i32 _).1 (i32 _).2 (fun S_48 I_S_48 F_S_48 v_S_48 f_S_48 l_S_48 => ?_)
      have h20 := ti_eq (f_S_48 1 1 (fun e => absurd e (by decide)))
      have h21 := eq_iv rfl li_12 v_S_48
      refine Sf.b (s_fX4_readQuestion_1 fu hfu S_48 I_S_48) (fun S_53 r_53 p_r_53 => ?_)
      obtain ⟨I_S_53, G_S_53, p_r_53⟩ := p_r_53
      have F_S_53 := Fr.tr F_S_48 G_S_53 rfl
      have h22 := ti_eq (G_S_53 1 1 rfl)
      have h23 := i32 r_53
      refine Sf.mono (s_fX4_read_59_1 fu hfu fu r_53 (0 : Int32) S_53 I_S_53 (by omega) (by omega)) (fun U r p_h24 => ?_)
      obtain ⟨I_U, G_U, p_h24⟩ := p_h24
      have h25 := ti_eq (G_U 1 1 rfl)
      exact ⟨I_U, Fr.tr F_S_53 G_U rfl, trivial⟩
    · have h26 := neq_iv rfl li_1 c_h10
      exact Sf.so ⟨I_S_4, F_S_4, trivial⟩
theorem s_fX4_rows (fu : Nat) (hfu : 1000000000000000000 ≤ fu) (S : St) (I_S : Inv S) : Sp (fX4_rows fu S) S (fun r => True) := by
  unfold fX4_rows
  exact Sp.so trivial
theorem s_fX5_clear_36 (fu : Nat) (hfu : 1000000000000000000 ≤ fu) (S : St) (I_S : Inv S) : Sf (fX5_clear fu 36 S) (fun U r => Inv U ∧ Fr [(36, 6)] S U ∧ (True)) := by
  unfold fX5_clear
  try simp only [Nat.reduceAdd]
  have F_S : Fr [(36, 6)] S S := Fr.refl _ _
  refine Sf.w I_S F_S rfl (show ((0) : Int) ≤ ((0 : Int32)).toInt by rw [li_0]; omega) (show ((0 : Int32)).toInt ≤ (90 : Int) by rw [li_0]; omega) (fun S_2 I_S_2 F_S_2 v_S_2 f_S_2 l_S_2 => ?_)
  exact Sf.so ⟨I_S_2, F_S_2, trivial⟩
theorem s_fX5_add_36 (fu : Nat) (hfu : 1000000000000000000 ≤ fu) (x1 : Int32) (x2 : Int32) (x3 : Int32) (x4 : Int32) (x5 : Int32) (S : St) (I_S : Inv S) : Sf (fX5_add fu 36 x1 x2 x3 x4 x5 S) (fun U r => Inv U ∧ Fr [(36, 6), (37, 0), (38, 0), (39, 0), (40, 0), (41, 0)] S U ∧ (True)) := by
  unfold fX5_add
  try simp only [Nat.reduceAdd]
  have F_S : Fr [(36, 6), (37, 0), (38, 0), (39, 0), (40, 0), (41, 0)] S S := Fr.refl _ _
  have h1 := b_36_5 I_S
  refine Sf.i (fun c_h2 => ?_) (fun c_h2 => ?_)
  · have h3 := lt_iv rfl li_90 c_h2
    refine Sf.g (ck_iv (by omega) (by omega)) ?_
    have h4 := i32 x1
    refine Sf.w I_S F_S rfl (i32 _).1 (i32 _).2 (fun S_19 I_S_19 F_S_19 v_S_19 f_S_19 l_S_19 => ?_)
    have h5 := ti_eq (f_S_19 36 5 (fun e => absurd e (by decide)))
    have h6 : (S_19.1 37 (((S.1 36 5)).toNatClampNeg)).toInt = (x1).toInt := eq_iv rfl rfl v_S_19
    have h7 : (S_19.1 37 (((S_19.1 36 5)).toNatClampNeg)).toInt = (x1).toInt := by rw [f_S_19 36 5 (fun e => absurd e (by decide))]; exact eq_iv rfl rfl v_S_19
    have h8 := b_36_5 I_S_19
    refine Sf.g (ck_iv (by omega) (by omega)) ?_
    have h9 := i32 x2
    refine Sf.w I_S_19 F_S_19 rfl (i32 _).1 (i32 _).2 (fun S_29 I_S_29 F_S_29 v_S_29 f_S_29 l_S_29 => ?_)
    have h10 := ti_eq (f_S_29 36 5 (fun e => absurd e (by decide)))
    have h11 : (S_29.1 38 (((S_19.1 36 5)).toNatClampNeg)).toInt = (x2).toInt := eq_iv rfl rfl v_S_29
    have h12 : (S_29.1 38 (((S_29.1 36 5)).toNatClampNeg)).toInt = (x2).toInt := by rw [f_S_29 36 5 (fun e => absurd e (by decide))]; exact eq_iv rfl rfl v_S_29
    have h13 : (S_29.1 37 (((S.1 36 5)).toNatClampNeg)).toInt = (S_19.1 37 (((S.1 36 5)).toNatClampNeg)).toInt := ti_eq (f_S_29 37 (((S.1 36 5)).toNatClampNeg) (fun e => absurd e (by decide)))
    have h14 : (S_29.1 37 (((S_19.1 36 5)).toNatClampNeg)).toInt = (S_19.1 37 (((S_19.1 36 5)).toNatClampNeg)).toInt := ti_eq (f_S_29 37 (((S_19.1 36 5)).toNatClampNeg) (fun e => absurd e (by decide)))
    have h15 : (S_29.1 37 (((S_29.1 36 5)).toNatClampNeg)).toInt = (S_19.1 37 (((S_19.1 36 5)).toNatClampNeg)).toInt := by rw [f_S_29 36 5 (fun e => absurd e (by decide))]; exact ti_eq (f_S_29 37 (((S_19.1 36 5)).toNatClampNeg) (fun e => absurd e (by decide)))
    have h16 := b_36_5 I_S_29
    refine Sf.g (ck_iv (by omega) (by omega)) ?_
    have h17 := i32 x3
    refine Sf.w I_S_29 F_S_29 rfl (i32 _).1 (i32 _).2 (fun S_39 I_S_39 F_S_39 v_S_39 f_S_39 l_S_39 => ?_)
    have h18 := ti_eq (f_S_39 36 5 (fun e => absurd e (by decide)))
    have h19 : (S_39.1 39 (((S_29.1 36 5)).toNatClampNeg)).toInt = (x3).toInt := eq_iv rfl rfl v_S_39
    have h20 : (S_39.1 39 (((S_39.1 36 5)).toNatClampNeg)).toInt = (x3).toInt := by rw [f_S_39 36 5 (fun e => absurd e (by decide))]; exact eq_iv rfl rfl v_S_39
    have h21 : (S_39.1 37 (((S.1 36 5)).toNatClampNeg)).toInt = (S_29.1 37 (((S.1 36 5)).toNatClampNeg)).toInt := ti_eq (f_S_39 37 (((S.1 36 5)).toNatClampNeg) (fun e => absurd e (by decide)))
    have h22 : (S_39.1 37 (((S_19.1 36 5)).toNatClampNeg)).toInt = (S_29.1 37 (((S_19.1 36 5)).toNatClampNeg)).toInt := ti_eq (f_S_39 37 (((S_19.1 36 5)).toNatClampNeg) (fun e => absurd e (by decide)))
    have h23 : (S_39.1 37 (((S_29.1 36 5)).toNatClampNeg)).toInt = (S_29.1 37 (((S_29.1 36 5)).toNatClampNeg)).toInt := ti_eq (f_S_39 37 (((S_29.1 36 5)).toNatClampNeg) (fun e => absurd e (by decide)))
    have h24 : (S_39.1 37 (((S_39.1 36 5)).toNatClampNeg)).toInt = (S_29.1 37 (((S_29.1 36 5)).toNatClampNeg)).toInt := by rw [f_S_39 36 5 (fun e => absurd e (by decide))]; exact ti_eq (f_S_39 37 (((S_29.1 36 5)).toNatClampNeg) (fun e => absurd e (by decide)))
    have h25 : (S_39.1 38 (((S_19.1 36 5)).toNatClampNeg)).toInt = (S_29.1 38 (((S_19.1 36 5)).toNatClampNeg)).toInt := ti_eq (f_S_39 38 (((S_19.1 36 5)).toNatClampNeg) (fun e => absurd e (by decide)))
    have h26 : (S_39.1 38 (((S_29.1 36 5)).toNatClampNeg)).toInt = (S_29.1 38 (((S_29.1 36 5)).toNatClampNeg)).toInt := ti_eq (f_S_39 38 (((S_29.1 36 5)).toNatClampNeg) (fun e => absurd e (by decide)))
    have h27 : (S_39.1 38 (((S_39.1 36 5)).toNatClampNeg)).toInt = (S_29.1 38 (((S_29.1 36 5)).toNatClampNeg)).toInt := by rw [f_S_39 36 5 (fun e => absurd e (by decide))]; exact ti_eq (f_S_39 38 (((S_29.1 36 5)).toNatClampNeg) (fun e => absurd e (by decide)))
    have h28 := b_36_5 I_S_39
    refine Sf.g (ck_iv (by omega) (by omega)) ?_
    have h29 := i32 x4
    refine Sf.w I_S_39 F_S_39 rfl (i32 _).1 (i32 _).2 (fun S_50 I_S_50 F_S_50 v_S_50 f_S_50 l_S_50 => ?_)
    have h30 := ti_eq (f_S_50 36 5 (fun e => absurd e (by decide)))
    have h31 : (S_50.1 40 (((S_39.1 36 5)).toNatClampNeg)).toInt = (x4).toInt := eq_iv rfl rfl v_S_50
    have h32 : (S_50.1 40 (((S_50.1 36 5)).toNatClampNeg)).toInt = (x4).toInt := by rw [f_S_50 36 5 (fun e => absurd e (by decide))]; exact eq_iv rfl rfl v_S_50
    have h33 : (S_50.1 37 (((S.1 36 5)).toNatClampNeg)).toInt = (S_39.1 37 (((S.1 36 5)).toNatClampNeg)).toInt := ti_eq (f_S_50 37 (((S.1 36 5)).toNatClampNeg) (fun e => absurd e (by decide)))
    have h34 : (S_50.1 37 (((S_19.1 36 5)).toNatClampNeg)).toInt = (S_39.1 37 (((S_19.1 36 5)).toNatClampNeg)).toInt := ti_eq (f_S_50 37 (((S_19.1 36 5)).toNatClampNeg) (fun e => absurd e (by decide)))
    have h35 : (S_50.1 37 (((S_29.1 36 5)).toNatClampNeg)).toInt = (S_39.1 37 (((S_29.1 36 5)).toNatClampNeg)).toInt := ti_eq (f_S_50 37 (((S_29.1 36 5)).toNatClampNeg) (fun e => absurd e (by decide)))
    have h36 : (S_50.1 37 (((S_39.1 36 5)).toNatClampNeg)).toInt = (S_39.1 37 (((S_39.1 36 5)).toNatClampNeg)).toInt := ti_eq (f_S_50 37 (((S_39.1 36 5)).toNatClampNeg) (fun e => absurd e (by decide)))
    have h37 : (S_50.1 37 (((S_50.1 36 5)).toNatClampNeg)).toInt = (S_39.1 37 (((S_39.1 36 5)).toNatClampNeg)).toInt := by rw [f_S_50 36 5 (fun e => absurd e (by decide))]; exact ti_eq (f_S_50 37 (((S_39.1 36 5)).toNatClampNeg) (fun e => absurd e (by decide)))
    have h38 : (S_50.1 38 (((S_19.1 36 5)).toNatClampNeg)).toInt = (S_39.1 38 (((S_19.1 36 5)).toNatClampNeg)).toInt := ti_eq (f_S_50 38 (((S_19.1 36 5)).toNatClampNeg) (fun e => absurd e (by decide)))
    have h39 : (S_50.1 38 (((S_29.1 36 5)).toNatClampNeg)).toInt = (S_39.1 38 (((S_29.1 36 5)).toNatClampNeg)).toInt := ti_eq (f_S_50 38 (((S_29.1 36 5)).toNatClampNeg) (fun e => absurd e (by decide)))
    have h40 : (S_50.1 38 (((S_39.1 36 5)).toNatClampNeg)).toInt = (S_39.1 38 (((S_39.1 36 5)).toNatClampNeg)).toInt := ti_eq (f_S_50 38 (((S_39.1 36 5)).toNatClampNeg) (fun e => absurd e (by decide)))
    have h41 : (S_50.1 38 (((S_50.1 36 5)).toNatClampNeg)).toInt = (S_39.1 38 (((S_39.1 36 5)).toNatClampNeg)).toInt := by rw [f_S_50 36 5 (fun e => absurd e (by decide))]; exact ti_eq (f_S_50 38 (((S_39.1 36 5)).toNatClampNeg) (fun e => absurd e (by decide)))
    have h42 : (S_50.1 39 (((S_29.1 36 5)).toNatClampNeg)).toInt = (S_39.1 39 (((S_29.1 36 5)).toNatClampNeg)).toInt := ti_eq (f_S_50 39 (((S_29.1 36 5)).toNatClampNeg) (fun e => absurd e (by decide)))
    have h43 : (S_50.1 39 (((S_39.1 36 5)).toNatClampNeg)).toInt = (S_39.1 39 (((S_39.1 36 5)).toNatClampNeg)).toInt := ti_eq (f_S_50 39 (((S_39.1 36 5)).toNatClampNeg) (fun e => absurd e (by decide)))
    have h44 : (S_50.1 39 (((S_50.1 36 5)).toNatClampNeg)).toInt = (S_39.1 39 (((S_39.1 36 5)).toNatClampNeg)).toInt := by rw [f_S_50 36 5 (fun e => absurd e (by decide))]; exact ti_eq (f_S_50 39 (((S_39.1 36 5)).toNatClampNeg) (fun e => absurd e (by decide)))
    have h45 := b_36_5 I_S_50
    refine Sf.g (ck_iv (by omega) (by omega)) ?_
    have h46 := i32 x5
    refine Sf.w I_S_50 F_S_50 rfl (i32 _).1 (i32 _).2 (fun S_61 I_S_61 F_S_61 v_S_61 f_S_61 l_S_61 => ?_)
    have h47 := ti_eq (f_S_61 36 5 (fun e => absurd e (by decide)))
    have h48 : (S_61.1 41 (((S_50.1 36 5)).toNatClampNeg)).toInt = (x5).toInt := eq_iv rfl rfl v_S_61
    have h49 : (S_61.1 41 (((S_61.1 36 5)).toNatClampNeg)).toInt = (x5).toInt := by rw [f_S_61 36 5 (fun e => absurd e (by decide))]; exact eq_iv rfl rfl v_S_61
    have h50 : (S_61.1 37 (((S.1 36 5)).toNatClampNeg)).toInt = (S_50.1 37 (((S.1 36 5)).toNatClampNeg)).toInt := ti_eq (f_S_61 37 (((S.1 36 5)).toNatClampNeg) (fun e => absurd e (by decide)))
    have h51 : (S_61.1 37 (((S_19.1 36 5)).toNatClampNeg)).toInt = (S_50.1 37 (((S_19.1 36 5)).toNatClampNeg)).toInt := ti_eq (f_S_61 37 (((S_19.1 36 5)).toNatClampNeg) (fun e => absurd e (by decide)))
    have h52 : (S_61.1 37 (((S_29.1 36 5)).toNatClampNeg)).toInt = (S_50.1 37 (((S_29.1 36 5)).toNatClampNeg)).toInt := ti_eq (f_S_61 37 (((S_29.1 36 5)).toNatClampNeg) (fun e => absurd e (by decide)))
    have h53 : (S_61.1 37 (((S_39.1 36 5)).toNatClampNeg)).toInt = (S_50.1 37 (((S_39.1 36 5)).toNatClampNeg)).toInt := ti_eq (f_S_61 37 (((S_39.1 36 5)).toNatClampNeg) (fun e => absurd e (by decide)))
    have h54 : (S_61.1 37 (((S_50.1 36 5)).toNatClampNeg)).toInt = (S_50.1 37 (((S_50.1 36 5)).toNatClampNeg)).toInt := ti_eq (f_S_61 37 (((S_50.1 36 5)).toNatClampNeg) (fun e => absurd e (by decide)))
    have h55 : (S_61.1 37 (((S_61.1 36 5)).toNatClampNeg)).toInt = (S_50.1 37 (((S_50.1 36 5)).toNatClampNeg)).toInt := by rw [f_S_61 36 5 (fun e => absurd e (by decide))]; exact ti_eq (f_S_61 37 (((S_50.1 36 5)).toNatClampNeg) (fun e => absurd e (by decide)))
    have h56 : (S_61.1 38 (((S_19.1 36 5)).toNatClampNeg)).toInt = (S_50.1 38 (((S_19.1 36 5)).toNatClampNeg)).toInt := ti_eq (f_S_61 38 (((S_19.1 36 5)).toNatClampNeg) (fun e => absurd e (by decide)))
    have h57 : (S_61.1 38 (((S_29.1 36 5)).toNatClampNeg)).toInt = (S_50.1 38 (((S_29.1 36 5)).toNatClampNeg)).toInt := ti_eq (f_S_61 38 (((S_29.1 36 5)).toNatClampNeg) (fun e => absurd e (by decide)))
    have h58 : (S_61.1 38 (((S_39.1 36 5)).toNatClampNeg)).toInt = (S_50.1 38 (((S_39.1 36 5)).toNatClampNeg)).toInt := ti_eq (f_S_61 38 (((S_39.1 36 5)).toNatClampNeg) (fun e => absurd e (by decide)))
    have h59 : (S_61.1 38 (((S_50.1 36 5)).toNatClampNeg)).toInt = (S_50.1 38 (((S_50.1 36 5)).toNatClampNeg)).toInt := ti_eq (f_S_61 38 (((S_50.1 36 5)).toNatClampNeg) (fun e => absurd e (by decide)))
    have h60 : (S_61.1 38 (((S_61.1 36 5)).toNatClampNeg)).toInt = (S_50.1 38 (((S_50.1 36 5)).toNatClampNeg)).toInt := by rw [f_S_61 36 5 (fun e => absurd e (by decide))]; exact ti_eq (f_S_61 38 (((S_50.1 36 5)).toNatClampNeg) (fun e => absurd e (by decide)))
    have h61 : (S_61.1 39 (((S_29.1 36 5)).toNatClampNeg)).toInt = (S_50.1 39 (((S_29.1 36 5)).toNatClampNeg)).toInt := ti_eq (f_S_61 39 (((S_29.1 36 5)).toNatClampNeg) (fun e => absurd e (by decide)))
    have h62 : (S_61.1 39 (((S_39.1 36 5)).toNatClampNeg)).toInt = (S_50.1 39 (((S_39.1 36 5)).toNatClampNeg)).toInt := ti_eq (f_S_61 39 (((S_39.1 36 5)).toNatClampNeg) (fun e => absurd e (by decide)))
    have h63 : (S_61.1 39 (((S_50.1 36 5)).toNatClampNeg)).toInt = (S_50.1 39 (((S_50.1 36 5)).toNatClampNeg)).toInt := ti_eq (f_S_61 39 (((S_50.1 36 5)).toNatClampNeg) (fun e => absurd e (by decide)))
    have h64 : (S_61.1 39 (((S_61.1 36 5)).toNatClampNeg)).toInt = (S_50.1 39 (((S_50.1 36 5)).toNatClampNeg)).toInt := by rw [f_S_61 36 5 (fun e => absurd e (by decide))]; exact ti_eq (f_S_61 39 (((S_50.1 36 5)).toNatClampNeg) (fun e => absurd e (by decide)))
    have h65 : (S_61.1 40 (((S_39.1 36 5)).toNatClampNeg)).toInt = (S_50.1 40 (((S_39.1 36 5)).toNatClampNeg)).toInt := ti_eq (f_S_61 40 (((S_39.1 36 5)).toNatClampNeg) (fun e => absurd e (by decide)))
    have h66 : (S_61.1 40 (((S_50.1 36 5)).toNatClampNeg)).toInt = (S_50.1 40 (((S_50.1 36 5)).toNatClampNeg)).toInt := ti_eq (f_S_61 40 (((S_50.1 36 5)).toNatClampNeg) (fun e => absurd e (by decide)))
    have h67 : (S_61.1 40 (((S_61.1 36 5)).toNatClampNeg)).toInt = (S_50.1 40 (((S_50.1 36 5)).toNatClampNeg)).toInt := by rw [f_S_61 36 5 (fun e => absurd e (by decide))]; exact ti_eq (f_S_61 40 (((S_50.1 36 5)).toNatClampNeg) (fun e => absurd e (by decide)))
    have h68 := b_36_5 I_S_61
    try have h69 : (((S_61.1 36 5) + (1 : Int32))).toInt = ((S_61.1 36 5)).toInt + (1) := add_iv rfl li_1 (by omega) (by omega)
    refine Sf.w I_S_61 F_S_61 rfl (show ((0) : Int) ≤ (((S_61.1 36 5) + (1 : Int32))).toInt by omega) (show (((S_61.1 36 5) + (1 : Int32))).toInt ≤ (90 : Int) by omega) (fun S_69 I_S_69 F_S_69 v_S_69 f_S_69 l_S_69 => ?_)
    have h70 := eq_iv rfl rfl v_S_69
    have h71 : (S_69.1 37 (((S.1 36 5)).toNatClampNeg)).toInt = (S_61.1 37 (((S.1 36 5)).toNatClampNeg)).toInt := ti_eq (f_S_69 37 (((S.1 36 5)).toNatClampNeg) (fun e => absurd e (by decide)))
    have h72 : (S_69.1 37 (((S_19.1 36 5)).toNatClampNeg)).toInt = (S_61.1 37 (((S_19.1 36 5)).toNatClampNeg)).toInt := ti_eq (f_S_69 37 (((S_19.1 36 5)).toNatClampNeg) (fun e => absurd e (by decide)))
    have h73 : (S_69.1 37 (((S_29.1 36 5)).toNatClampNeg)).toInt = (S_61.1 37 (((S_29.1 36 5)).toNatClampNeg)).toInt := ti_eq (f_S_69 37 (((S_29.1 36 5)).toNatClampNeg) (fun e => absurd e (by decide)))
    have h74 : (S_69.1 37 (((S_39.1 36 5)).toNatClampNeg)).toInt = (S_61.1 37 (((S_39.1 36 5)).toNatClampNeg)).toInt := ti_eq (f_S_69 37 (((S_39.1 36 5)).toNatClampNeg) (fun e => absurd e (by decide)))
    have h75 : (S_69.1 37 (((S_50.1 36 5)).toNatClampNeg)).toInt = (S_61.1 37 (((S_50.1 36 5)).toNatClampNeg)).toInt := ti_eq (f_S_69 37 (((S_50.1 36 5)).toNatClampNeg) (fun e => absurd e (by decide)))
    have h76 : (S_69.1 37 (((S_61.1 36 5)).toNatClampNeg)).toInt = (S_61.1 37 (((S_61.1 36 5)).toNatClampNeg)).toInt := ti_eq (f_S_69 37 (((S_61.1 36 5)).toNatClampNeg) (fun e => absurd e (by decide)))
    have h77 : (S_69.1 38 (((S_19.1 36 5)).toNatClampNeg)).toInt = (S_61.1 38 (((S_19.1 36 5)).toNatClampNeg)).toInt := ti_eq (f_S_69 38 (((S_19.1 36 5)).toNatClampNeg) (fun e => absurd e (by decide)))
    have h78 : (S_69.1 38 (((S_29.1 36 5)).toNatClampNeg)).toInt = (S_61.1 38 (((S_29.1 36 5)).toNatClampNeg)).toInt := ti_eq (f_S_69 38 (((S_29.1 36 5)).toNatClampNeg) (fun e => absurd e (by decide)))
    have h79 : (S_69.1 38 (((S_39.1 36 5)).toNatClampNeg)).toInt = (S_61.1 38 (((S_39.1 36 5)).toNatClampNeg)).toInt := ti_eq (f_S_69 38 (((S_39.1 36 5)).toNatClampNeg) (fun e => absurd e (by decide)))
    have h80 : (S_69.1 38 (((S_50.1 36 5)).toNatClampNeg)).toInt = (S_61.1 38 (((S_50.1 36 5)).toNatClampNeg)).toInt := ti_eq (f_S_69 38 (((S_50.1 36 5)).toNatClampNeg) (fun e => absurd e (by decide)))
    have h81 : (S_69.1 38 (((S_61.1 36 5)).toNatClampNeg)).toInt = (S_61.1 38 (((S_61.1 36 5)).toNatClampNeg)).toInt := ti_eq (f_S_69 38 (((S_61.1 36 5)).toNatClampNeg) (fun e => absurd e (by decide)))
    have h82 : (S_69.1 39 (((S_29.1 36 5)).toNatClampNeg)).toInt = (S_61.1 39 (((S_29.1 36 5)).toNatClampNeg)).toInt := ti_eq (f_S_69 39 (((S_29.1 36 5)).toNatClampNeg) (fun e => absurd e (by decide)))
    have h83 : (S_69.1 39 (((S_39.1 36 5)).toNatClampNeg)).toInt = (S_61.1 39 (((S_39.1 36 5)).toNatClampNeg)).toInt := ti_eq (f_S_69 39 (((S_39.1 36 5)).toNatClampNeg) (fun e => absurd e (by decide)))
    have h84 : (S_69.1 39 (((S_50.1 36 5)).toNatClampNeg)).toInt = (S_61.1 39 (((S_50.1 36 5)).toNatClampNeg)).toInt := ti_eq (f_S_69 39 (((S_50.1 36 5)).toNatClampNeg) (fun e => absurd e (by decide)))
    have h85 : (S_69.1 39 (((S_61.1 36 5)).toNatClampNeg)).toInt = (S_61.1 39 (((S_61.1 36 5)).toNatClampNeg)).toInt := ti_eq (f_S_69 39 (((S_61.1 36 5)).toNatClampNeg) (fun e => absurd e (by decide)))
    have h86 : (S_69.1 40 (((S_39.1 36 5)).toNatClampNeg)).toInt = (S_61.1 40 (((S_39.1 36 5)).toNatClampNeg)).toInt := ti_eq (f_S_69 40 (((S_39.1 36 5)).toNatClampNeg) (fun e => absurd e (by decide)))
    have h87 : (S_69.1 40 (((S_50.1 36 5)).toNatClampNeg)).toInt = (S_61.1 40 (((S_50.1 36 5)).toNatClampNeg)).toInt := ti_eq (f_S_69 40 (((S_50.1 36 5)).toNatClampNeg) (fun e => absurd e (by decide)))
    have h88 : (S_69.1 40 (((S_61.1 36 5)).toNatClampNeg)).toInt = (S_61.1 40 (((S_61.1 36 5)).toNatClampNeg)).toInt := ti_eq (f_S_69 40 (((S_61.1 36 5)).toNatClampNeg) (fun e => absurd e (by decide)))
    have h89 : (S_69.1 41 (((S_50.1 36 5)).toNatClampNeg)).toInt = (S_61.1 41 (((S_50.1 36 5)).toNatClampNeg)).toInt := ti_eq (f_S_69 41 (((S_50.1 36 5)).toNatClampNeg) (fun e => absurd e (by decide)))
    have h90 : (S_69.1 41 (((S_61.1 36 5)).toNatClampNeg)).toInt = (S_61.1 41 (((S_61.1 36 5)).toNatClampNeg)).toInt := ti_eq (f_S_69 41 (((S_61.1 36 5)).toNatClampNeg) (fun e => absurd e (by decide)))
    exact Sf.so ⟨I_S_69, F_S_69, trivial⟩
  · have h91 := nlt_iv rfl li_90 c_h2
    exact Sf.so ⟨I_S, F_S, trivial⟩
theorem s_fX5_copy_6 (fu : Nat) (hfu : 1000000000000000000 ≤ fu) : ∀ (n : Nat) (x2 : Int32) (S : St), Inv S → (0 ≤ (x2).toInt) → (90 - (x2).toInt).toNat < n → Sf (fX5_copy_6 fu n x2 S) (fun U r => Inv U ∧ Fr [(36, 6), (37, 0), (38, 0), (39, 0), (40, 0), (41, 0)] S U ∧ (True)) := by
  intro n
  induction n with
  | zero => intro x2 S I_S g0 hm; exact absurd hm (Nat.not_lt_zero _)
  | succ n ih =>
    intro x2 S I_S g0 hm
    rw [fX5_copy_6_s]
    have F_S : Fr [(36, 6), (37, 0), (38, 0), (39, 0), (40, 0), (41, 0)] S S := Fr.refl _ _
    have h1 := b_30_5 I_S
    have h2 := i32 x2
    refine Sf.i (fun c_h3 => ?_) (fun c_h3 => ?_)
    · have h4 := le_iv rfl rfl c_h3
      exact Sf.so ⟨I_S, F_S, trivial⟩
    · have h5 := nle_iv rfl rfl c_h3
      refine Sf.g (ck_iv (by omega) (by omega)) ?_
      refine Sf.g (ck_iv (by omega) (by omega)) ?_
      refine Sf.g (ck_iv (by omega) (by omega)) ?_
      refine Sf.g (ck_iv (by omega) (by omega)) ?_
      refine Sf.g (ck_iv (by omega) (by omega)) ?_
      refine Sf.b (s_fX5_add_36 fu hfu (S.1 31 ((x2).toNatClampNeg)) (S.1 32 ((x2).toNatClampNeg)) (S.1 33 ((x2).toNatClampNeg)) (S.1 34 ((x2).toNatClampNeg)) (S.1 35 ((x2).toNatClampNeg)) S I_S) (fun S_45 r_45_ p_r_45_ => ?_)
      obtain ⟨I_S_45, G_S_45, p_r_45_⟩ := p_r_45_
      have F_S_45 := Fr.tr F_S G_S_45 rfl
      have h6 := ti_eq (G_S_45 30 5 rfl)
      have h7 : (S_45.1 31 ((x2).toNatClampNeg)).toInt = (S.1 31 ((x2).toNatClampNeg)).toInt := ti_eq (G_S_45 31 ((x2).toNatClampNeg) rfl)
      have h8 : (S_45.1 32 ((x2).toNatClampNeg)).toInt = (S.1 32 ((x2).toNatClampNeg)).toInt := ti_eq (G_S_45 32 ((x2).toNatClampNeg) rfl)
      have h9 : (S_45.1 33 ((x2).toNatClampNeg)).toInt = (S.1 33 ((x2).toNatClampNeg)).toInt := ti_eq (G_S_45 33 ((x2).toNatClampNeg) rfl)
      have h10 : (S_45.1 34 ((x2).toNatClampNeg)).toInt = (S.1 34 ((x2).toNatClampNeg)).toInt := ti_eq (G_S_45 34 ((x2).toNatClampNeg) rfl)
      have h11 : (S_45.1 35 ((x2).toNatClampNeg)).toInt = (S.1 35 ((x2).toNatClampNeg)).toInt := ti_eq (G_S_45 35 ((x2).toNatClampNeg) rfl)
      try have h12 : ((x2 + (1 : Int32))).toInt = (x2).toInt + (1) := add_iv rfl li_1 (by omega) (by omega)
      refine Sf.mono (ih (x2 + (1 : Int32)) S_45 I_S_45 (by omega) (by omega)) (fun U r p_h13 => ?_)
      obtain ⟨I_U, G_U, p_h13⟩ := p_h13
      have h14 := ti_eq (G_U 30 5 rfl)
      exact ⟨I_U, Fr.tr F_S_45 G_U rfl, trivial⟩
theorem s_fX5_copy (fu : Nat) (hfu : 1000000000000000000 ≤ fu) (S : St) (I_S : Inv S) : Sf (fX5_copy fu S) (fun U r => Inv U ∧ Fr [(36, 6), (37, 0), (38, 0), (39, 0), (40, 0), (41, 0)] S U ∧ (True)) := by
  unfold fX5_copy
  have F_S : Fr [(36, 6), (37, 0), (38, 0), (39, 0), (40, 0), (41, 0)] S S := Fr.refl _ _
  refine Sf.b (s_fX5_clear_36 fu hfu S I_S) (fun S_1 r_1_ p_r_1_ => ?_)
  obtain ⟨I_S_1, G_S_1, p_r_1_⟩ := p_r_1_
  have F_S_1 := Fr.tr F_S G_S_1 rfl
  have h1 := ti_eq (G_S_1 30 5 rfl)
  have h2 : ((0 : Int32)).toInt = 0 := li_0
  refine Sf.mono (s_fX5_copy_6 fu hfu fu (0 : Int32) S_1 I_S_1 (by omega) (by omega)) (fun U r p_h3 => ?_)
  obtain ⟨I_U, G_U, p_h3⟩ := p_h3
  have h4 := ti_eq (G_U 30 5 rfl)
  exact ⟨I_U, Fr.tr F_S_1 G_U rfl, trivial⟩
theorem s_fX5_size_36 (fu : Nat) (hfu : 1000000000000000000 ≤ fu) (S : St) (I_S : Inv S) : Sp (fX5_size fu 36 S) S (fun r => (r.toInt = (S.1 36 5).toInt)) := by
  unfold fX5_size
  try simp only [Nat.reduceAdd]
  have h1 := b_36_5 I_S
  have h2 := b_36_5 I_S
  exact Sp.so (by omega)
theorem s_fX11_parse (fu : Nat) (hfu : 1000000000000000000 ≤ fu) (S : St) (I_S : Inv S) : Sf (fX11_parse fu S) (fun U r => Inv U ∧ Fr [(1, 2), (1, 3), (3, 4), (4, 0), (6, 0), (26, 4), (26, 5), (26, 6), (26, 7), (26, 8), (26, 9), (26, 10), (27, 3), (29, 0), (30, 6), (31, 0), (32, 0), (33, 0), (34, 0), (35, 0), (36, 6), (37, 0), (38, 0), (39, 0), (40, 0), (41, 0)] S U ∧ (True)) := by
  unfold fX11_parse
  have F_S : Fr [(1, 2), (1, 3), (3, 4), (4, 0), (6, 0), (26, 4), (26, 5), (26, 6), (26, 7), (26, 8), (26, 9), (26, 10), (27, 3), (29, 0), (30, 6), (31, 0), (32, 0), (33, 0), (34, 0), (35, 0), (36, 6), (37, 0), (38, 0), (39, 0), (40, 0), (41, 0)] S S := Fr.refl _ _
  refine Sf.b (s_fX4_read_1 fu hfu S I_S) (fun S_8 r_8 p_r_8 => ?_)
  obtain ⟨I_S_8, G_S_8, p_r_8⟩ := p_r_8
  have F_S_8 := Fr.tr F_S G_S_8 rfl
  have h1 := ti_eq (G_S_8 36 5 rfl)
  refine Sf.b (s_fX0_clear_1 fu hfu S_8 I_S_8) (fun S_16 r_16_ p_r_16_ => ?_)
  obtain ⟨I_S_16, G_S_16, p_r_16_⟩ := p_r_16_
  have F_S_16 := Fr.tr F_S_8 G_S_16 rfl
  have h2 := ti_eq (G_S_16 36 5 rfl)
  have h3 := i32 r_8
  refine Sf.i (fun c_h4 => ?_) (fun c_h4 => ?_)
  · have h5 := eq_iv rfl li_0 c_h4
    refine Sf.bp (s_fX4_rows fu hfu S_16 I_S_16) (fun r_34_ p_r_34_ => ?_)
    refine Sf.b (s_fX5_copy fu hfu S_16 I_S_16) (fun S_37 r_37_ p_r_37_ => ?_)
    obtain ⟨I_S_37, G_S_37, p_r_37_⟩ := p_r_37_
    have F_S_37 := Fr.tr F_S_16 G_S_37 rfl
    have h6 := b_36_5 I_S_37
    refine Sf.bp (s_fX5_size_36 fu hfu S_37 I_S_37) (fun r_44 p_r_44 => ?_)
    exact Sf.so ⟨I_S_37, F_S_37, trivial⟩
  · have h7 := neq_iv rfl li_0 c_h4
    exact Sf.so ⟨I_S_16, F_S_16, trivial⟩
theorem s_fX5_has_36 (fu : Nat) (hfu : 1000000000000000000 ≤ fu) (x1 : Int32) (S : St) (I_S : Inv S) : Sp (fX5_has fu 36 x1 S) S (fun r => ((r.toInt = 0 ∨ r.toInt = 1 ∧ 0 ≤ (x1).toInt ∧ (x1).toInt < (S.1 36 5).toInt))) := by
  unfold fX5_has
  try simp only [Nat.reduceAdd]
  have h1 := i32 x1
  refine Sp.i (fun c_h2 => ?_) (fun c_h2 => ?_)
  · have h3 := lt_iv rfl li_0 c_h2
    have h4 := b_36_5 I_S
    have h5 : ((0 : Int32)).toInt = 0 := li_0
    exact Sp.so (by omega)
  · have h6 := nlt_iv rfl li_0 c_h2
    have h7 := b_36_5 I_S
    refine Sp.i (fun c_h8 => ?_) (fun c_h8 => ?_)
    · have h9 := le_iv rfl rfl c_h8
      have h10 := b_36_5 I_S
      have h11 : ((0 : Int32)).toInt = 0 := li_0
      exact Sp.so (by omega)
    · have h12 := nle_iv rfl rfl c_h8
      have h13 := b_36_5 I_S
      have h14 : ((1 : Int32)).toInt = 1 := li_1
      exact Sp.so (by omega)
theorem s_fX5_section_36 (fu : Nat) (hfu : 1000000000000000000 ≤ fu) (x1 : Int32) (S : St) (I_S : Inv S) : Sp (fX5_section fu 36 x1 S) S (fun r => True) := by
  unfold fX5_section
  try simp only [Nat.reduceAdd]
  have h1 := i32 x1
  have h2 := b_36_5 I_S
  refine Sp.b (s_fX5_has_36 fu hfu x1 S I_S) (fun r_2 p_r_2 => ?_)
  have h3 := i32 r_2
  refine Sp.i (fun c_h4 => ?_) (fun c_h4 => ?_)
  · have h5 := eq_iv rfl li_0 c_h4
    exact Sp.so trivial
  · have h6 := neq_iv rfl li_0 c_h4
    refine Sp.g (ck_iv (by omega) (by omega)) ?_
    exact Sp.so trivial
theorem s_fX5_owner_36 (fu : Nat) (hfu : 1000000000000000000 ≤ fu) (x1 : Int32) (S : St) (I_S : Inv S) : Sp (fX5_owner fu 36 x1 S) S (fun r => True) := by
  unfold fX5_owner
  try simp only [Nat.reduceAdd]
  have h1 := i32 x1
  have h2 := b_36_5 I_S
  refine Sp.b (s_fX5_has_36 fu hfu x1 S I_S) (fun r_2 p_r_2 => ?_)
  have h3 := i32 r_2
  refine Sp.i (fun c_h4 => ?_) (fun c_h4 => ?_)
  · have h5 := eq_iv rfl li_0 c_h4
    exact Sp.so trivial
  · have h6 := neq_iv rfl li_0 c_h4
    refine Sp.g (ck_iv (by omega) (by omega)) ?_
    exact Sp.so trivial
theorem s_fX5_type_36 (fu : Nat) (hfu : 1000000000000000000 ≤ fu) (x1 : Int32) (S : St) (I_S : Inv S) : Sp (fX5_type fu 36 x1 S) S (fun r => True) := by
  unfold fX5_type
  try simp only [Nat.reduceAdd]
  have h1 := i32 x1
  have h2 := b_36_5 I_S
  refine Sp.b (s_fX5_has_36 fu hfu x1 S I_S) (fun r_2 p_r_2 => ?_)
  have h3 := i32 r_2
  refine Sp.i (fun c_h4 => ?_) (fun c_h4 => ?_)
  · have h5 := eq_iv rfl li_0 c_h4
    exact Sp.so trivial
  · have h6 := neq_iv rfl li_0 c_h4
    refine Sp.g (ck_iv (by omega) (by omega)) ?_
    exact Sp.so trivial
theorem s_fX5_value_36 (fu : Nat) (hfu : 1000000000000000000 ≤ fu) (x1 : Int32) (S : St) (I_S : Inv S) : Sp (fX5_value fu 36 x1 S) S (fun r => True) := by
  unfold fX5_value
  try simp only [Nat.reduceAdd]
  have h1 := i32 x1
  have h2 := b_36_5 I_S
  refine Sp.b (s_fX5_has_36 fu hfu x1 S I_S) (fun r_2 p_r_2 => ?_)
  have h3 := i32 r_2
  refine Sp.i (fun c_h4 => ?_) (fun c_h4 => ?_)
  · have h5 := eq_iv rfl li_0 c_h4
    exact Sp.so trivial
  · have h6 := neq_iv rfl li_0 c_h4
    refine Sp.g (ck_iv (by omega) (by omega)) ?_
    exact Sp.so trivial
theorem s_fX5_life_36 (fu : Nat) (hfu : 1000000000000000000 ≤ fu) (x1 : Int32) (S : St) (I_S : Inv S) : Sp (fX5_life fu 36 x1 S) S (fun r => True) := by
  unfold fX5_life
  try simp only [Nat.reduceAdd]
  have h1 := i32 x1
  have h2 := b_36_5 I_S
  refine Sp.b (s_fX5_has_36 fu hfu x1 S I_S) (fun r_2 p_r_2 => ?_)
  have h3 := i32 r_2
  refine Sp.i (fun c_h4 => ?_) (fun c_h4 => ?_)
  · have h5 := eq_iv rfl li_0 c_h4
    exact Sp.so trivial
  · have h6 := neq_iv rfl li_0 c_h4
    refine Sp.g (ck_iv (by omega) (by omega)) ?_
    exact Sp.so trivial
theorem s_fX11_parsed (fu : Nat) (hfu : 1000000000000000000 ≤ fu) (x1 : Int32) (x2 : Int32) (S : St) (I_S : Inv S) : Sp (fX11_parsed fu x1 x2 S) S (fun r => ((r.1 = 0 ∨ r.1 = 4))) := by
  unfold fX11_parsed
  have h1 := i32 x1
  have h2 := b_36_5 I_S
  refine Sp.b (s_fX5_has_36 fu hfu x1 S I_S) (fun r_5 p_r_5 => ?_)
  have h3 := i32 r_5
  refine Sp.i (fun c_h4 => ?_) (fun c_h4 => ?_)
  · have h5 := eq_iv rfl li_0 c_h4
    exact Sp.so (show (((4 : Nat) = 0 ∨ (4 : Nat) = 4)) by omega)
  · have h6 := neq_iv rfl li_0 c_h4
    have h7 := i32 x2
    refine Sp.i (fun c_h8 => ?_) (fun c_h8 => ?_)
    · have h9 := eq_iv rfl li_0 c_h8
      refine Sp.b (s_fX5_section_36 fu hfu x1 S I_S) (fun r_61 p_r_61 => ?_)
      exact Sp.so (show (((0 : Nat) = 0 ∨ (0 : Nat) = 4)) by omega)
    · have h10 := neq_iv rfl li_0 c_h8
      refine Sp.i (fun c_h11 => ?_) (fun c_h11 => ?_)
      · have h12 := eq_iv rfl li_1 c_h11
        refine Sp.b (s_fX5_owner_36 fu hfu x1 S I_S) (fun r_70 p_r_70 => ?_)
        exact Sp.so (show (((0 : Nat) = 0 ∨ (0 : Nat) = 4)) by omega)
      · have h13 := neq_iv rfl li_1 c_h11
        refine Sp.i (fun c_h14 => ?_) (fun c_h14 => ?_)
        · have h15 := eq_iv rfl li_2 c_h14
          refine Sp.b (s_fX5_type_36 fu hfu x1 S I_S) (fun r_79 p_r_79 => ?_)
          exact Sp.so (show (((0 : Nat) = 0 ∨ (0 : Nat) = 4)) by omega)
        · have h16 := neq_iv rfl li_2 c_h14
          refine Sp.i (fun c_h17 => ?_) (fun c_h17 => ?_)
          · have h18 := eq_iv rfl li_3 c_h17
            refine Sp.b (s_fX5_value_36 fu hfu x1 S I_S) (fun r_88 p_r_88 => ?_)
            exact Sp.so (show (((0 : Nat) = 0 ∨ (0 : Nat) = 4)) by omega)
          · have h19 := neq_iv rfl li_3 c_h17
            refine Sp.i (fun c_h20 => ?_) (fun c_h20 => ?_)
            · have h21 := eq_iv rfl li_4 c_h20
              refine Sp.b (s_fX5_life_36 fu hfu x1 S I_S) (fun r_97 p_r_97 => ?_)
              exact Sp.so (show (((0 : Nat) = 0 ∨ (0 : Nat) = 4)) by omega)
            · have h22 := neq_iv rfl li_4 c_h20
              exact Sp.so (show (((4 : Nat) = 0 ∨ (4 : Nat) = 4)) by omega)
theorem s_fX6_addHint (fu : Nat) (hfu : 1000000000000000000 ≤ fu) (x1 : Int32) (S : St) (I_S : Inv S) : Sf (fX6_addHint fu x1 S) (fun U r => Inv U ∧ Fr [(49, 5), (59, 0)] S U ∧ (True)) := by
  unfold fX6_addHint
  have F_S : Fr [(49, 5), (59, 0)] S S := Fr.refl _ _
  have h1 := b_49_4 I_S
  refine Sf.i (fun c_h2 => ?_) (fun c_h2 => ?_)
  · have h3 := lt_iv rfl li_4 c_h2
    refine Sf.g (ck_iv (by omega) (by omega)) ?_
    have h4 := i32 x1
    refine Sf.w I_S F_S rfl (i32 _).1 (i32 _).2 (fun S_19 I_S_19 F_S_19 v_S_19 f_S_19 l_S_19 => ?_)
    have h5 := ti_eq (f_S_19 49 4 (fun e => absurd e (by decide)))
    have h6 : (S_19.1 59 (((S.1 49 4)).toNatClampNeg)).toInt = (x1).toInt := eq_iv rfl rfl v_S_19
    have h7 : (S_19.1 59 (((S_19.1 49 4)).toNatClampNeg)).toInt = (x1).toInt := by rw [f_S_19 49 4 (fun e => absurd e (by decide))]; exact eq_iv rfl rfl v_S_19
    have h8 := b_49_4 I_S_19
    try have h9 : (((S_19.1 49 4) + (1 : Int32))).toInt = ((S_19.1 49 4)).toInt + (1) := add_iv rfl li_1 (by omega) (by omega)
    refine Sf.w I_S_19 F_S_19 rfl (show ((0) : Int) ≤ (((S_19.1 49 4) + (1 : Int32))).toInt by omega) (show (((S_19.1 49 4) + (1 : Int32))).toInt ≤ (4 : Int) by omega) (fun S_27 I_S_27 F_S_27 v_S_27 f_S_27 l_S_27 => ?_)
    have h10 := eq_iv rfl rfl v_S_27
    have h11 : (S_27.1 59 (((S.1 49 4)).toNatClampNeg)).toInt = (S_19.1 59 (((S.1 49 4)).toNatClampNeg)).toInt := ti_eq (f_S_27 59 (((S.1 49 4)).toNatClampNeg) (fun e => absurd e (by decide)))
    have h12 : (S_27.1 59 (((S_19.1 49 4)).toNatClampNeg)).toInt = (S_19.1 59 (((S_19.1 49 4)).toNatClampNeg)).toInt := ti_eq (f_S_27 59 (((S_19.1 49 4)).toNatClampNeg) (fun e => absurd e (by decide)))
    exact Sf.so ⟨I_S_27, F_S_27, trivial⟩
  · have h13 := nlt_iv rfl li_4 c_h2
    exact Sf.so ⟨I_S, F_S, trivial⟩
theorem s_fX11_hint (fu : Nat) (hfu : 1000000000000000000 ≤ fu) (x1 : Int32) (S : St) (I_S : Inv S) : Sf (fX11_hint fu x1 S) (fun U r => Inv U ∧ Fr [(49, 5), (59, 0)] S U ∧ (True)) := by
  unfold fX11_hint
  have F_S : Fr [(49, 5), (59, 0)] S S := Fr.refl _ _
  have h1 := i32 x1
  refine Sf.b (s_fX6_addHint fu hfu x1 S I_S) (fun S_5 r_5 p_r_5 => ?_)
  obtain ⟨I_S_5, G_S_5, p_r_5⟩ := p_r_5
  have F_S_5 := Fr.tr F_S G_S_5 rfl
  exact Sf.so ⟨I_S_5, F_S_5, trivial⟩
theorem s_fX1_goOn (fu : Nat) (hfu : 1000000000000000000 ≤ fu) (x1 : Int32) (S : St) (I_S : Inv S) : Sf (fX1_goOn fu x1 S) (fun U r => Inv U ∧ Fr [(42, 9)] S U ∧ (True)) := by
  unfold fX1_goOn
  have F_S : Fr [(42, 9)] S S := Fr.refl _ _
  have h1 := i32 x1
  try have h2 : (((S.1 42 8) + x1)).toInt = ((S.1 42 8)).toInt + (x1).toInt := add_iv rfl rfl (by omega) (by omega)
  refine Sf.w I_S F_S rfl (i32 _).1 (i32 _).2 (fun S_7 I_S_7 F_S_7 v_S_7 f_S_7 l_S_7 => ?_)
  have h3 := eq_iv rfl rfl v_S_7
  exact Sf.so ⟨I_S_7, F_S_7, trivial⟩
theorem s_fX11_tick (fu : Nat) (hfu : 1000000000000000000 ≤ fu) (x1 : Int32) (S : St) (I_S : Inv S) : Sf (fX11_tick fu x1 S) (fun U r => Inv U ∧ Fr [(42, 9)] S U ∧ (((r.1 = 0 ∨ r.1 = 1)))) := by
  unfold fX11_tick
  have F_S : Fr [(42, 9)] S S := Fr.refl _ _
  have h1 := i32 x1
  refine Sf.i (fun c_h2 => ?_) (fun c_h2 => ?_)
  · have h3 := lt_iv rfl li_0 c_h2
    unfold fX11_tick_11
    exact Sf.so ⟨I_S, F_S, (show (((1 : Nat) = 0 ∨ (1 : Nat) = 1)) by omega)⟩
  · have h4 := nlt_iv rfl li_0 c_h2
    refine Sf.i (fun c_h5 => ?_) (fun c_h5 => ?_)
    · have h6 := le_iv rfl li_100000 c_h5
      refine Sf.b (s_fX1_goOn fu hfu x1 S I_S) (fun S_27 r_27 p_r_27 => ?_)
      obtain ⟨I_S_27, G_S_27, p_r_27⟩ := p_r_27
      have F_S_27 := Fr.tr F_S G_S_27 rfl
      exact Sf.so ⟨I_S_27, F_S_27, (show (((0 : Nat) = 0 ∨ (0 : Nat) = 1)) by omega)⟩
    · have h7 := nle_iv rfl li_100000 c_h5
      unfold fX11_tick_11
      exact Sf.so ⟨I_S, F_S, (show (((1 : Nat) = 0 ∨ (1 : Nat) = 1)) by omega)⟩
theorem s_fX6_state (fu : Nat) (hfu : 1000000000000000000 ≤ fu) (S : St) (I_S : Inv S) : Sp (fX6_state fu S) S (fun r => (r.toInt = (S.1 49 5).toInt)) := by
  unfold fX6_state
  exact Sp.so (by omega)
theorem s_fX2_clear (fu : Nat) (hfu : 1000000000000000000 ≤ fu) (S : St) (I_S : Inv S) : Sf (fX2_clear fu S) (fun U r => Inv U ∧ Fr [(50, 9), (50, 10)] S U ∧ (True)) := by
  unfold fX2_clear
  have F_S : Fr [(50, 9), (50, 10)] S S := Fr.refl _ _
  refine Sf.w I_S F_S rfl (show ((0) : Int) ≤ ((0 : Int32)).toInt by rw [li_0]; omega) (show ((0 : Int32)).toInt ≤ (4 : Int) by rw [li_0]; omega) (fun S_2 I_S_2 F_S_2 v_S_2 f_S_2 l_S_2 => ?_)
  refine Sf.w I_S_2 F_S_2 rfl (show ((0) : Int) ≤ ((0 : Int32)).toInt by rw [li_0]; omega) (show ((0 : Int32)).toInt ≤ (3 : Int) by rw [li_0]; omega) (fun S_7 I_S_7 F_S_7 v_S_7 f_S_7 l_S_7 => ?_)
  exact Sf.so ⟨I_S_7, F_S_7, trivial⟩
theorem s_fX2_forget (fu : Nat) (hfu : 1000000000000000000 ≤ fu) (S : St) (I_S : Inv S) : Sf (fX2_forget fu S) (fun U r => Inv U ∧ Fr [(56, 0), (58, 0)] S U ∧ (True)) := by
  unfold fX2_forget
  have F_S : Fr [(56, 0), (58, 0)] S S := Fr.refl _ _
  have h1 := b_50_9 I_S
  refine Sf.g (ck_iv (by omega) (by omega)) ?_
  refine Sf.w I_S F_S rfl (show ((0) : Int) ≤ ((0 : Int32)).toInt by rw [li_0]; omega) (show ((0 : Int32)).toInt ≤ (40 : Int) by rw [li_0]; omega) (fun S_9 I_S_9 F_S_9 v_S_9 f_S_9 l_S_9 => ?_)
  have h2 := ti_eq (f_S_9 50 9 (fun e => absurd e (by decide)))
  have h3 : (S_9.1 56 (((S.1 50 9)).toNatClampNeg)).toInt = (0) := eq_iv rfl li_0 v_S_9
  have h4 : (S_9.1 56 (((S_9.1 50 9)).toNatClampNeg)).toInt = (0) := by rw [f_S_9 50 9 (fun e => absurd e (by decide))]; exact eq_iv rfl li_0 v_S_9
  have h5 := b_50_9 I_S_9
  refine Sf.g (ck_iv (by omega) (by omega)) ?_
  refine Sf.w I_S_9 F_S_9 rfl (show ((0) : Int) ≤ ((0 : Int32)).toInt by rw [li_0]; omega) (show ((0 : Int32)).toInt ≤ (300 : Int) by rw [li_0]; omega) (fun S_19 I_S_19 F_S_19 v_S_19 f_S_19 l_S_19 => ?_)
  have h6 := ti_eq (f_S_19 50 9 (fun e => absurd e (by decide)))
  have h7 : (S_19.1 58 (((S_9.1 50 9)).toNatClampNeg)).toInt = (0) := eq_iv rfl li_0 v_S_19
  have h8 : (S_19.1 58 (((S_19.1 50 9)).toNatClampNeg)).toInt = (0) := by rw [f_S_19 50 9 (fun e => absurd e (by decide))]; exact eq_iv rfl li_0 v_S_19
  have h9 : (S_19.1 56 (((S.1 50 9)).toNatClampNeg)).toInt = (S_9.1 56 (((S.1 50 9)).toNatClampNeg)).toInt := ti_eq (f_S_19 56 (((S.1 50 9)).toNatClampNeg) (fun e => absurd e (by decide)))
  have h10 : (S_19.1 56 (((S_9.1 50 9)).toNatClampNeg)).toInt = (S_9.1 56 (((S_9.1 50 9)).toNatClampNeg)).toInt := ti_eq (f_S_19 56 (((S_9.1 50 9)).toNatClampNeg) (fun e => absurd e (by decide)))
  have h11 : (S_19.1 56 (((S_19.1 50 9)).toNatClampNeg)).toInt = (S_9.1 56 (((S_9.1 50 9)).toNatClampNeg)).toInt := by rw [f_S_19 50 9 (fun e => absurd e (by decide))]; exact ti_eq (f_S_19 56 (((S_9.1 50 9)).toNatClampNeg) (fun e => absurd e (by decide)))
  exact Sf.so ⟨I_S_19, F_S_19, trivial⟩
theorem s_fX2_push (fu : Nat) (hfu : 1000000000000000000 ≤ fu) (x1 : Int32) (x2 : Int32) (S : St) (I_S : Inv S) : Sf (fX2_push fu x1 x2 S) (fun U r => Inv U ∧ Fr [(50, 9), (50, 10), (51, 0), (52, 0), (53, 0), (54, 0), (56, 0), (58, 0)] S U ∧ ((0 ≤ r.toInt) ∧ (r.toInt ≤ 1))) := by
  unfold fX2_push
  have F_S : Fr [(50, 9), (50, 10), (51, 0), (52, 0), (53, 0), (54, 0), (56, 0), (58, 0)] S S := Fr.refl _ _
  have h1 := b_50_8 I_S
  refine Sf.i (fun c_h2 => ?_) (fun c_h2 => ?_)
  · have h3 := lt_iv rfl li_4 c_h2
    refine Sf.w I_S F_S rfl (show ((0) : Int) ≤ ((S.1 50 8)).toInt by omega) (show ((S.1 50 8)).toInt ≤ (3 : Int) by omega) (fun S_15 I_S_15 F_S_15 v_S_15 f_S_15 l_S_15 => ?_)
    have h4 := ti_eq (f_S_15 50 8 (fun _ e => absurd e (by decide)))
    have h5 := eq_iv rfl rfl v_S_15
    have h6 := b_50_8 I_S_15
    try have h7 : (((S_15.1 50 8) + (1 : Int32))).toInt = ((S_15.1 50 8)).toInt + (1) := add_iv rfl li_1 (by omega) (by omega)
    refine Sf.w I_S_15 F_S_15 rfl (show ((0) : Int) ≤ (((S_15.1 50 8) + (1 : Int32))).toInt by omega) (show (((S_15.1 50 8) + (1 : Int32))).toInt ≤ (4 : Int) by omega) (fun S_25 I_S_25 F_S_25 v_S_25 f_S_25 l_S_25 => ?_)
    have h8 := eq_iv rfl rfl v_S_25
    have h9 := ti_eq (f_S_25 50 9 (fun _ e => absurd e (by decide)))
    have h10 := b_50_9 I_S_25
    refine Sf.g (ck_iv (by omega) (by omega)) ?_
    have h11 := i32 x1
    refine Sf.w I_S_25 F_S_25 rfl (i32 _).1 (i32 _).2 (fun S_37 I_S_37 F_S_37 v_S_37 f_S_37 l_S_37 => ?_)
    have h12 := ti_eq (f_S_37 50 8 (fun e => absurd e (by decide)))
    have h13 := ti_eq (f_S_37 50 9 (fun e => absurd e (by decide)))
    have h14 : (S_37.1 51 (((S_25.1 50 9)).toNatClampNeg)).toInt = (x1).toInt := eq_iv rfl rfl v_S_37
    have h15 : (S_37.1 51 (((S_37.1 50 9)).toNatClampNeg)).toInt = (x1).toInt := by rw [f_S_37 50 9 (fun e => absurd e (by decide))]; exact eq_iv rfl rfl v_S_37
    have h16 := b_50_9 I_S_37
    refine Sf.g (ck_iv (by omega) (by omega)) ?_
    have h17 := i32 x2
    refine Sf.w I_S_37 F_S_37 rfl (i32 _).1 (i32 _).2 (fun S_47 I_S_47 F_S_47 v_S_47 f_S_47 l_S_47 => ?_)
    have h18 := ti_eq (f_S_47 50 8 (fun e => absurd e (by decide)))
    have h19 := ti_eq (f_S_47 50 9 (fun e => absurd e (by decide)))
    have h20 : (S_47.1 52 (((S_37.1 50 9)).toNatClampNeg)).toInt = (x2).toInt := eq_iv rfl rfl v_S_47
    have h21 : (S_47.1 52 (((S_47.1 50 9)).toNatClampNeg)).toInt = (x2).toInt := by rw [f_S_47 50 9 (fun e => absurd e (by decide))]; exact eq_iv rfl rfl v_S_47
    have h22 : (S_47.1 51 (((S_25.1 50 9)).toNatClampNeg)).toInt = (S_37.1 51 (((S_25.1 50 9)).toNatClampNeg)).toInt := ti_eq (f_S_47 51 (((S_25.1 50 9)).toNatClampNeg) (fun e => absurd e (by decide)))
    have h23 : (S_47.1 51 (((S_37.1 50 9)).toNatClampNeg)).toInt = (S_37.1 51 (((S_37.1 50 9)).toNatClampNeg)).toInt := ti_eq (f_S_47 51 (((S_37.1 50 9)).toNatClampNeg) (fun e => absurd e (by decide)))
    have h24 : (S_47.1 51 (((S_47.1 50 9)).toNatClampNeg)).toInt = (S_37.1 51 (((S_37.1 50 9)).toNatClampNeg)).toInt := by rw [f_S_47 50 9 (fun e => absurd e (by decide))]; exact ti_eq (f_S_47 51 (((S_37.1 50 9)).toNatClampNeg) (fun e => absurd e (by decide)))
    have h25 := b_50_9 I_S_47
    refine Sf.g (ck_iv (by omega) (by omega)) ?_
    refine Sf.w I_S_47 F_S_47 rfl (i32 _).1 (i32 _).2 (fun S_57 I_S_57 F_S_57 v_S_57 f_S_57 l_S_57 => ?_)
    have h26 := ti_eq (f_S_57 50 8 (fun e => absurd e (by decide)))
    have h27 := ti_eq (f_S_57 50 9 (fun e => absurd e (by decide)))
    have h28 : (S_57.1 53 (((S_47.1 50 9)).toNatClampNeg)).toInt = (0) := eq_iv rfl li_0 v_S_57
    have h29 : (S_57.1 53 (((S_57.1 50 9)).toNatClampNeg)).toInt = (0) := by rw [f_S_57 50 9 (fun e => absurd e (by decide))]; exact eq_iv rfl li_0 v_S_57
    have h30 : (S_57.1 51 (((S_25.1 50 9)).toNatClampNeg)).toInt = (S_47.1 51 (((S_25.1 50 9)).toNatClampNeg)).toInt := ti_eq (f_S_57 51 (((S_25.1 50 9)).toNatClampNeg) (fun e => absurd e (by decide)))
    have h31 : (S_57.1 51 (((S_37.1 50 9)).toNatClampNeg)).toInt = (S_47.1 51 (((S_37.1 50 9)).toNatClampNeg)).toInt := ti_eq (f_S_57 51 (((S_37.1 50 9)).toNatClampNeg) (fun e => absurd e (by decide)))
    have h32 : (S_57.1 51 (((S_47.1 50 9)).toNatClampNeg)).toInt = (S_47.1 51 (((S_47.1 50 9)).toNatClampNeg)).toInt := ti_eq (f_S_57 51 (((S_47.1 50 9)).toNatClampNeg) (fun e => absurd e (by decide)))
    have h33 : (S_57.1 51 (((S_57.1 50 9)).toNatClampNeg)).toInt = (S_47.1 51 (((S_47.1 50 9)).toNatClampNeg)).toInt := by rw [f_S_57 50 9 (fun e => absurd e (by decide))]; exact ti_eq (f_S_57 51 (((S_47.1 50 9)).toNatClampNeg) (fun e => absurd e (by decide)))
    have h34 : (S_57.1 52 (((S_37.1 50 9)).toNatClampNeg)).toInt = (S_47.1 52 (((S_37.1 50 9)).toNatClampNeg)).toInt := ti_eq (f_S_57 52 (((S_37.1 50 9)).toNatClampNeg) (fun e => absurd e (by decide)))
    have h35 : (S_57.1 52 (((S_47.1 50 9)).toNatClampNeg)).toInt = (S_47.1 52 (((S_47.1 50 9)).toNatClampNeg)).toInt := ti_eq (f_S_57 52 (((S_47.1 50 9)).toNatClampNeg) (fun e => absurd e (by decide)))
    have h36 : (S_57.1 52 (((S_57.1 50 9)).toNatClampNeg)).toInt = (S_47.1 52 (((S_47.1 50 9)).toNatClampNeg)).toInt := by rw [f_S_57 50 9 (fun e => absurd e (by decide))]; exact ti_eq (f_S_57 52 (((S_47.1 50 9)).toNatClampNeg) (fun e => absurd e (by decide)))
    have h37 := b_50_9 I_S_57
    refine Sf.g (ck_iv (by omega) (by omega)) ?_
    refine Sf.w I_S_57 F_S_57 rfl (i32 _).1 (i32 _).2 (fun S_67 I_S_67 F_S_67 v_S_67 f_S_67 l_S_67 => ?_)
    have h38 := ti_eq (f_S_67 50 8 (fun e => absurd e (by decide)))
    have h39 := ti_eq (f_S_67 50 9 (fun e => absurd e (by decide)))
    have h40 : (S_67.1 54 (((S_57.1 50 9)).toNatClampNeg)).toInt = (-1) := eq_iv rfl li_m1 v_S_67
    have h41 : (S_67.1 54 (((S_67.1 50 9)).toNatClampNeg)).toInt = (-1) := by rw [f_S_67 50 9 (fun e => absurd e (by decide))]; exact eq_iv rfl li_m1 v_S_67
    have h42 : (S_67.1 51 (((S_25.1 50 9)).toNatClampNeg)).toInt = (S_57.1 51 (((S_25.1 50 9)).toNatClampNeg)).toInt := ti_eq (f_S_67 51 (((S_25.1 50 9)).toNatClampNeg) (fun e => absurd e (by decide)))
    have h43 : (S_67.1 51 (((S_37.1 50 9)).toNatClampNeg)).toInt = (S_57.1 51 (((S_37.1 50 9)).toNatClampNeg)).toInt := ti_eq (f_S_67 51 (((S_37.1 50 9)).toNatClampNeg) (fun e => absurd e (by decide)))
    have h44 : (S_67.1 51 (((S_47.1 50 9)).toNatClampNeg)).toInt = (S_57.1 51 (((S_47.1 50 9)).toNatClampNeg)).toInt := ti_eq (f_S_67 51 (((S_47.1 50 9)).toNatClampNeg) (fun e => absurd e (by decide)))
    have h45 : (S_67.1 51 (((S_57.1 50 9)).toNatClampNeg)).toInt = (S_57.1 51 (((S_57.1 50 9)).toNatClampNeg)).toInt := ti_eq (f_S_67 51 (((S_57.1 50 9)).toNatClampNeg) (fun e => absurd e (by decide)))
    have h46 : (S_67.1 51 (((S_67.1 50 9)).toNatClampNeg)).toInt = (S_57.1 51 (((S_57.1 50 9)).toNatClampNeg)).toInt := by rw [f_S_67 50 9 (fun e => absurd e (by decide))]; exact ti_eq (f_S_67 51 (((S_57.1 50 9)).toNatClampNeg) (fun e => absurd e (by decide)))
    have h47 : (S_67.1 52 (((S_37.1 50 9)).toNatClampNeg)).toInt = (S_57.1 52 (((S_37.1 50 9)).toNatClampNeg)).toInt := ti_eq (f_S_67 52 (((S_37.1 50 9)).toNatClampNeg) (fun e => absurd e (by decide)))
    have h48 : (S_67.1 52 (((S_47.1 50 9)).toNatClampNeg)).toInt = (S_57.1 52 (((S_47.1 50 9)).toNatClampNeg)).toInt := ti_eq (f_S_67 52 (((S_47.1 50 9)).toNatClampNeg) (fun e => absurd e (by decide)))
    have h49 : (S_67.1 52 (((S_57.1 50 9)).toNatClampNeg)).toInt = (S_57.1 52 (((S_57.1 50 9)).toNatClampNeg)).toInt := ti_eq (f_S_67 52 (((S_57.1 50 9)).toNatClampNeg) (fun e => absurd e (by decide)))
    have h50 : (S_67.1 52 (((S_67.1 50 9)).toNatClampNeg)).toInt = (S_57.1 52 (((S_57.1 50 9)).toNatClampNeg)).toInt := by rw [f_S_67 50 9 (fun e => absurd e (by decide))]; exact ti_eq (f_S_67 52 (((S_57.1 50 9)).toNatClampNeg) (fun e => absurd e (by decide)))
    have h51 : (S_67.1 53 (((S_47.1 50 9)).toNatClampNeg)).toInt = (S_57.1 53 (((S_47.1 50 9)).toNatClampNeg)).toInt := ti_eq (f_S_67 53 (((S_47.1 50 9)).toNatClampNeg) (fun e => absurd e (by decide)))
    have h52 : (S_67.1 53 (((S_57.1 50 9)).toNatClampNeg)).toInt = (S_57.1 53 (((S_57.1 50 9)).toNatClampNeg)).toInt := ti_eq (f_S_67 53 (((S_57.1 50 9)).toNatClampNeg) (fun e => absurd e (by decide)))
    have h53 : (S_67.1 53 (((S_67.1 50 9)).toNatClampNeg)).toInt = (S_57.1 53 (((S_57.1 50 9)).toNatClampNeg)).toInt := by rw [f_S_67 50 9 (fun e => absurd e (by decide))]; exact ti_eq (f_S_67 53 (((S_57.1 50 9)).toNatClampNeg) (fun e => absurd e (by decide)))
    refine Sf.b (s_fX2_forget fu hfu S_67 I_S_67) (fun S_69 r_69_ p_r_69_ => ?_)
    obtain ⟨I_S_69, G_S_69, p_r_69_⟩ := p_r_69_
    have F_S_69 := Fr.tr F_S_67 G_S_69 rfl
    have h54 := ti_eq (G_S_69 50 8 rfl)
    have h55 := ti_eq (G_S_69 50 9 rfl)
    have h56 : (S_69.1 51 (((S_25.1 50 9)).toNatClampNeg)).toInt = (S_67.1 51 (((S_25.1 50 9)).toNatClampNeg)).toInt := ti_eq (G_S_69 51 (((S_25.1 50 9)).toNatClampNeg) rfl)
    have h57 : (S_69.1 51 (((S_37.1 50 9)).toNatClampNeg)).toInt = (S_67.1 51 (((S_37.1 50 9)).toNatClampNeg)).toInt := ti_eq (G_S_69 51 (((S_37.1 50 9)).toNatClampNeg) rfl)
    have h58 : (S_69.1 51 (((S_47.1 50 9)).toNatClampNeg)).toInt = (S_67.1 51 (((S_47.1 50 9)).toNatClampNeg)).toInt := ti_eq (G_S_69 51 (((S_47.1 50 9)).toNatClampNeg) rfl)
    have h59 : (S_69.1 51 (((S_57.1 50 9)).toNatClampNeg)).toInt = (S_67.1 51 (((S_57.1 50 9)).toNatClampNeg)).toInt := ti_eq (G_S_69 51 (((S_57.1 50 9)).toNatClampNeg) rfl)
    have h60 : (S_69.1 51 (((S_67.1 50 9)).toNatClampNeg)).toInt = (S_67.1 51 (((S_67.1 50 9)).toNatClampNeg)).toInt := ti_eq (G_S_69 51 (((S_67.1 50 9)).toNatClampNeg) rfl)
    have h61 : (S_69.1 51 (((S_69.1 50 9)).toNatClampNeg)).toInt = (S_67.1 51 (((S_67.1 50 9)).toNatClampNeg)).toInt := by rw [G_S_69 50 9 rfl]; exact ti_eq (G_S_69 51 (((S_67.1 50 9)).toNatClampNeg) rfl)
    have h62 : (S_69.1 52 (((S_37.1 50 9)).toNatClampNeg)).toInt = (S_67.1 52 (((S_37.1 50 9)).toNatClampNeg)).toInt := ti_eq (G_S_69 52 (((S_37.1 50 9)).toNatClampNeg) rfl)
    have h63 : (S_69.1 52 (((S_47.1 50 9)).toNatClampNeg)).toInt = (S_67.1 52 (((S_47.1 50 9)).toNatClampNeg)).toInt := ti_eq (G_S_69 52 (((S_47.1 50 9)).toNatClampNeg) rfl)
    have h64 : (S_69.1 52 (((S_57.1 50 9)).toNatClampNeg)).toInt = (S_67.1 52 (((S_57.1 50 9)).toNatClampNeg)).toInt := ti_eq (G_S_69 52 (((S_57.1 50 9)).toNatClampNeg) rfl)
    have h65 : (S_69.1 52 (((S_67.1 50 9)).toNatClampNeg)).toInt = (S_67.1 52 (((S_67.1 50 9)).toNatClampNeg)).toInt := ti_eq (G_S_69 52 (((S_67.1 50 9)).toNatClampNeg) rfl)
    have h66 : (S_69.1 52 (((S_69.1 50 9)).toNatClampNeg)).toInt = (S_67.1 52 (((S_67.1 50 9)).toNatClampNeg)).toInt := by rw [G_S_69 50 9 rfl]; exact ti_eq (G_S_69 52 (((S_67.1 50 9)).toNatClampNeg) rfl)
    have h67 : (S_69.1 53 (((S_47.1 50 9)).toNatClampNeg)).toInt = (S_67.1 53 (((S_47.1 50 9)).toNatClampNeg)).toInt := ti_eq (G_S_69 53 (((S_47.1 50 9)).toNatClampNeg) rfl)
    have h68 : (S_69.1 53 (((S_57.1 50 9)).toNatClampNeg)).toInt = (S_67.1 53 (((S_57.1 50 9)).toNatClampNeg)).toInt := ti_eq (G_S_69 53 (((S_57.1 50 9)).toNatClampNeg) rfl)
    have h69 : (S_69.1 53 (((S_67.1 50 9)).toNatClampNeg)).toInt = (S_67.1 53 (((S_67.1 50 9)).toNatClampNeg)).toInt := ti_eq (G_S_69 53 (((S_67.1 50 9)).toNatClampNeg) rfl)
    have h70 : (S_69.1 53 (((S_69.1 50 9)).toNatClampNeg)).toInt = (S_67.1 53 (((S_67.1 50 9)).toNatClampNeg)).toInt := by rw [G_S_69 50 9 rfl]; exact ti_eq (G_S_69 53 (((S_67.1 50 9)).toNatClampNeg) rfl)
    have h71 : (S_69.1 54 (((S_57.1 50 9)).toNatClampNeg)).toInt = (S_67.1 54 (((S_57.1 50 9)).toNatClampNeg)).toInt := ti_eq (G_S_69 54 (((S_57.1 50 9)).toNatClampNeg) rfl)
    have h72 : (S_69.1 54 (((S_67.1 50 9)).toNatClampNeg)).toInt = (S_67.1 54 (((S_67.1 50 9)).toNatClampNeg)).toInt := ti_eq (G_S_69 54 (((S_67.1 50 9)).toNatClampNeg) rfl)
    have h73 : (S_69.1 54 (((S_69.1 50 9)).toNatClampNeg)).toInt = (S_67.1 54 (((S_67.1 50 9)).toNatClampNeg)).toInt := by rw [G_S_69 50 9 rfl]; exact ti_eq (G_S_69 54 (((S_67.1 50 9)).toNatClampNeg) rfl)
    have h74 : ((1 : Int32)).toInt = 1 := li_1
    exact Sf.so ⟨I_S_69, F_S_69, by omega⟩
  · have h75 := nlt_iv rfl li_4 c_h2
    have h76 : ((0 : Int32)).toInt = 0 := li_0
    exact Sf.so ⟨I_S, F_S, by omega⟩
theorem s_fX6_begin (fu : Nat) (hfu : 1000000000000000000 ≤ fu) (x1 : Int32) (x2 : Int32) (S : St) (I_S : Inv S) : Sf (fX6_begin fu x1 x2 S) (fun U r => Inv U ∧ Fr [(49, 6), (49, 7), (49, 12), (50, 9), (50, 10), (51, 0), (52, 0), (53, 0), (54, 0), (56, 0), (58, 0)] S U ∧ (True)) := by
  unfold fX6_begin
  have F_S : Fr [(49, 6), (49, 7), (49, 12), (50, 9), (50, 10), (51, 0), (52, 0), (53, 0), (54, 0), (56, 0), (58, 0)] S S := Fr.refl _ _
  refine Sf.w I_S F_S rfl (i32 _).1 (i32 _).2 (fun S_2 I_S_2 F_S_2 v_S_2 f_S_2 l_S_2 => ?_)
  refine Sf.w I_S_2 F_S_2 rfl (i32 _).1 (i32 _).2 (fun S_7 I_S_7 F_S_7 v_S_7 f_S_7 l_S_7 => ?_)
  refine Sf.w I_S_7 F_S_7 rfl (show ((0) : Int) ≤ ((0 : Int32)).toInt by rw [li_0]; omega) (show ((0 : Int32)).toInt ≤ (10 : Int) by rw [li_0]; omega) (fun S_12 I_S_12 F_S_12 v_S_12 f_S_12 l_S_12 => ?_)
  refine Sf.b (s_fX2_clear fu hfu S_12 I_S_12) (fun S_19 r_19_ p_r_19_ => ?_)
  obtain ⟨I_S_19, G_S_19, p_r_19_⟩ := p_r_19_
  have F_S_19 := Fr.tr F_S_12 G_S_19 rfl
  have h1 := i32 x1
  have h2 := i32 x2
  refine Sf.b (s_fX2_push fu hfu x1 x2 S_19 I_S_19) (fun S_28 r_28 p_r_28 => ?_)
  obtain ⟨I_S_28, G_S_28, p_r_28⟩ := p_r_28
  have F_S_28 := Fr.tr F_S_19 G_S_28 rfl
  exact Sf.so ⟨I_S_28, F_S_28, trivial⟩
theorem s_fX2_topName (fu : Nat) (hfu : 1000000000000000000 ≤ fu) (S : St) (I_S : Inv S) : Sp (fX2_topName fu S) S (fun r => True) := by
  unfold fX2_topName
  have h1 := b_50_9 I_S
  refine Sp.g (ck_iv (by omega) (by omega)) ?_
  exact Sp.so trivial
theorem s_fX2_topType (fu : Nat) (hfu : 1000000000000000000 ≤ fu) (S : St) (I_S : Inv S) : Sp (fX2_topType fu S) S (fun r => True) := by
  unfold fX2_topType
  have h1 := b_50_9 I_S
  refine Sp.g (ck_iv (by omega) (by omega)) ?_
  exact Sp.so trivial
theorem s_fX1_slotOf_2 (fu : Nat) (hfu : 1000000000000000000 ≤ fu) : ∀ (n : Nat) (x1 : Int32) (x2 : Int32) (x3 : Int32) (S : St), Inv S → (0 ≤ (x3).toInt) → (100 - (x3).toInt).toNat < n → Sp (fX1_slotOf_2 fu n x1 x2 x3 S) S (fun r => (-1 ≤ r.toInt) ∧ (r.toInt < (S.1 42 6).toInt)) := by
  intro n
  induction n with
  | zero => intro x1 x2 x3 S I_S g0 hm; exact absurd hm (Nat.not_lt_zero _)
  | succ n ih =>
    intro x1 x2 x3 S I_S g0 hm
    rw [fX1_slotOf_2_s]
    have h1 := b_42_6 I_S
    have h2 := i32 x3
    refine Sp.i (fun c_h3 => ?_) (fun c_h3 => ?_)
    · have h4 := le_iv rfl rfl c_h3
      have h5 := b_42_6 I_S
      have h6 : ((-1 : Int32)).toInt = -1 := li_m1
      exact Sp.so (by omega)
    · have h7 := nle_iv rfl rfl c_h3
      refine Sp.g (ck_iv (by omega) (by omega)) ?_
      have h8 := i32 x1
      refine Sp.i (fun c_h9 => ?_) (fun c_h9 => ?_)
      · have h10 := eq_iv rfl rfl c_h9
        refine Sp.g (ck_iv (by omega) (by omega)) ?_
        have h11 := i32 x2
        refine Sp.i (fun c_h12 => ?_) (fun c_h12 => ?_)
        · have h13 := eq_iv rfl rfl c_h12
          have h14 := b_42_6 I_S
          exact Sp.so (by omega)
        · have h15 := neq_iv rfl rfl c_h12
          unfold fX1_slotOf_32
          try have h16 : ((x3 + (1 : Int32))).toInt = (x3).toInt + (1) := add_iv rfl li_1 (by omega) (by omega)
          refine Sp.mono (ih x1 x2 (x3 + (1 : Int32)) S I_S (by omega) (by omega)) (fun r p_h17 => ?_)
          exact by omega
      · have h18 := neq_iv rfl rfl c_h9
        unfold fX1_slotOf_32
        have h19 := i32 x2
        try have h20 : ((x3 + (1 : Int32))).toInt = (x3).toInt + (1) := add_iv rfl li_1 (by omega) (by omega)
        refine Sp.mono (ih x1 x2 (x3 + (1 : Int32)) S I_S (by omega) (by omega)) (fun r p_h21 => ?_)
        exact by omega
theorem s_fX1_slotOf (fu : Nat) (hfu : 1000000000000000000 ≤ fu) (x1 : Int32) (x2 : Int32) (S : St) (I_S : Inv S) : Sp (fX1_slotOf fu x1 x2 S) S (fun r => (-1 ≤ r.toInt) ∧ (r.toInt < (S.1 42 6).toInt)) := by
  unfold fX1_slotOf
  have h1 := i32 x1
  have h2 := i32 x2
  have h3 : ((0 : Int32)).toInt = 0 := li_0
  have h4 := b_42_6 I_S
  refine Sp.mono (s_fX1_slotOf_2 fu hfu fu x1 x2 (0 : Int32) S I_S (by omega) (by omega)) (fun r p_h5 => ?_)
  exact by omega
theorem s_fX1_setOf (fu : Nat) (hfu : 1000000000000000000 ≤ fu) (x1 : Int32) (x2 : Int32) (S : St) (I_S : Inv S) : Sp (fX1_setOf fu x1 x2 S) S (fun r => (-1 ≤ r.toInt) ∧ (r.toInt < (S.1 42 6).toInt)) := by
  unfold fX1_setOf
  have h1 := i32 x1
  have h2 := i32 x2
  have h3 := b_42_6 I_S
  refine Sp.b (s_fX1_slotOf fu hfu x1 x2 S I_S) (fun r_3 p_r_3 => ?_)
  have h4 := i32 r_3
  refine Sp.i (fun c_h5 => ?_) (fun c_h5 => ?_)
  · have h6 := eq_iv rfl li_m1 c_h5
    have h7 := b_42_6 I_S
    have h8 : ((-1 : Int32)).toInt = -1 := li_m1
    exact Sp.so (by omega)
  · have h9 := neq_iv rfl li_m1 c_h5
    refine Sp.g (ck_iv (by omega) (by omega)) ?_
    refine Sp.i (fun c_h10 => ?_) (fun c_h10 => ?_)
    · have h11 := le_iv li_0 rfl c_h10
      have h12 := b_42_6 I_S
      have h13 : ((-1 : Int32)).toInt = -1 := li_m1
      exact Sp.so (by omega)
    · have h14 := nle_iv li_0 rfl c_h10
      refine Sp.g (ck_iv (by omega) (by omega)) ?_
      have h15 := a_47 I_S ((r_3).toNatClampNeg)
      refine Sp.i (fun c_h16 => ?_) (fun c_h16 => ?_)
      · have h17 := le_iv rfl li_0 c_h16
        have h18 := b_42_6 I_S
        have h19 : ((-1 : Int32)).toInt = -1 := li_m1
        exact Sp.so (by omega)
      · have h20 := nle_iv rfl li_0 c_h16
        have h21 := b_42_6 I_S
        exact Sp.so (by omega)
theorem s_fX1_held (fu : Nat) (hfu : 1000000000000000000 ≤ fu) (x1 : Int32) (x2 : Int32) (S : St) (I_S : Inv S) : Sp (fX1_held fu x1 x2 S) S (fun r => True) := by
  unfold fX1_held
  have h1 := i32 x1
  have h2 := i32 x2
  have h3 := b_42_6 I_S
  refine Sp.b (s_fX1_slotOf fu hfu x1 x2 S I_S) (fun r_3 p_r_3 => ?_)
  have h4 := i32 r_3
  refine Sp.i (fun c_h5 => ?_) (fun c_h5 => ?_)
  · have h6 := eq_iv rfl li_m1 c_h5
    exact Sp.so trivial
  · have h7 := neq_iv rfl li_m1 c_h5
    refine Sp.g (ck_iv (by omega) (by omega)) ?_
    refine Sp.i (fun c_h8 => ?_) (fun c_h8 => ?_)
    · have h9 := le_iv li_0 rfl c_h8
      exact Sp.so trivial
    · have h10 := nle_iv li_0 rfl c_h8
      refine Sp.g (ck_iv (by omega) (by omega)) ?_
      exact Sp.so trivial
theorem s_fX2_pop (fu : Nat) (hfu : 1000000000000000000 ≤ fu) (S : St) (I_S : Inv S) : Sf (fX2_pop fu S) (fun U r => Inv U ∧ Fr [(50, 9), (50, 10)] S U ∧ (True)) := by
  unfold fX2_pop
  have F_S : Fr [(50, 9), (50, 10)] S S := Fr.refl _ _
  have h1 := b_50_8 I_S
  refine Sf.i (fun c_h2 => ?_) (fun c_h2 => ?_)
  · have h3 := le_iv rfl li_0 c_h2
    unfold fX2_pop_18
    refine Sf.w I_S F_S rfl (show ((0) : Int) ≤ ((0 : Int32)).toInt by rw [li_0]; omega) (show ((0 : Int32)).toInt ≤ (4 : Int) by rw [li_0]; omega) (fun S_18 I_S_18 F_S_18 v_S_18 f_S_18 l_S_18 => ?_)
    have h4 := eq_iv rfl li_0 v_S_18
    have h5 := b_50_8 I_S_18
    refine Sf.i (fun c_h6 => ?_) (fun c_h6 => ?_)
    · have h7 := le_iv rfl li_0 c_h6
      unfold fX2_pop_39
      refine Sf.w I_S_18 F_S_18 rfl (show ((0) : Int) ≤ ((0 : Int32)).toInt by rw [li_0]; omega) (show ((0 : Int32)).toInt ≤ (3 : Int) by rw [li_0]; omega) (fun S_39 I_S_39 F_S_39 v_S_39 f_S_39 l_S_39 => ?_)
      have h8 := ti_eq (f_S_39 50 8 (fun _ e => absurd e (by decide)))
      exact Sf.so ⟨I_S_39, F_S_39, trivial⟩
    · have h9 := nle_iv rfl li_0 c_h6
      unfold fX2_pop_39
      try have h10 : (((S_18.1 50 8) - (1 : Int32))).toInt = ((S_18.1 50 8)).toInt - (1) := sub_iv rfl li_1 (by omega) (by omega)
      refine Sf.w I_S_18 F_S_18 rfl (show ((0) : Int) ≤ (((S_18.1 50 8) - (1 : Int32))).toInt by omega) (show (((S_18.1 50 8) - (1 : Int32))).toInt ≤ (3 : Int) by omega) (fun S_39 I_S_39 F_S_39 v_S_39 f_S_39 l_S_39 => ?_)
      have h11 := ti_eq (f_S_39 50 8 (fun _ e => absurd e (by decide)))
      exact Sf.so ⟨I_S_39, F_S_39, trivial⟩
  · have h12 := nle_iv rfl li_0 c_h2
    unfold fX2_pop_18
    try have h13 : (((S.1 50 8) - (1 : Int32))).toInt = ((S.1 50 8)).toInt - (1) := sub_iv rfl li_1 (by omega) (by omega)
    refine Sf.w I_S F_S rfl (show ((0) : Int) ≤ (((S.1 50 8) - (1 : Int32))).toInt by omega) (show (((S.1 50 8) - (1 : Int32))).toInt ≤ (4 : Int) by omega) (fun S_18 I_S_18 F_S_18 v_S_18 f_S_18 l_S_18 => ?_)
    have h14 := eq_iv rfl rfl v_S_18
    have h15 := b_50_8 I_S_18
    refine Sf.i (fun c_h16 => ?_) (fun c_h16 => ?_)
    · have h17 := le_iv rfl li_0 c_h16
      unfold fX2_pop_39
      refine Sf.w I_S_18 F_S_18 rfl (show ((0) : Int) ≤ ((0 : Int32)).toInt by rw [li_0]; omega) (show ((0 : Int32)).toInt ≤ (3 : Int) by rw [li_0]; omega) (fun S_39 I_S_39 F_S_39 v_S_39 f_S_39 l_S_39 => ?_)
      have h18 := ti_eq (f_S_39 50 8 (fun _ e => absurd e (by decide)))
      exact Sf.so ⟨I_S_39, F_S_39, trivial⟩
    · have h19 := nle_iv rfl li_0 c_h16
      unfold fX2_pop_39
      try have h20 : (((S_18.1 50 8) - (1 : Int32))).toInt = ((S_18.1 50 8)).toInt - (1) := sub_iv rfl li_1 (by omega) (by omega)
      refine Sf.w I_S_18 F_S_18 rfl (show ((0) : Int) ≤ (((S_18.1 50 8) - (1 : Int32))).toInt by omega) (show (((S_18.1 50 8) - (1 : Int32))).toInt ≤ (3 : Int) by omega) (fun S_39 I_S_39 F_S_39 v_S_39 f_S_39 l_S_39 => ?_)
      have h21 := ti_eq (f_S_39 50 8 (fun _ e => absurd e (by decide)))
      exact Sf.so ⟨I_S_39, F_S_39, trivial⟩
theorem s_fX2_depth (fu : Nat) (hfu : 1000000000000000000 ≤ fu) (S : St) (I_S : Inv S) : Sp (fX2_depth fu S) S (fun r => (r.toInt = (S.1 50 8).toInt)) := by
  unfold fX2_depth
  have h1 := b_50_8 I_S
  have h2 := b_50_8 I_S
  exact Sp.so (by omega)
theorem s_fX1_sizeOf (fu : Nat) (hfu : 1000000000000000000 ≤ fu) (x1 : Int32) (S : St) (I_S : Inv S) : Sp (fX1_sizeOf fu x1 S) S (fun r => (0 ≤ r.toInt) ∧ (r.toInt ≤ 10) ∧ ((0 < r.toInt → 0 ≤ (x1).toInt ∧ (x1).toInt < (S.1 42 6).toInt))) := by
  unfold fX1_sizeOf
  have h1 := i32 x1
  refine Sp.i (fun c_h2 => ?_) (fun c_h2 => ?_)
  · have h3 := lt_iv rfl li_0 c_h2
    have h4 := b_42_6 I_S
    have h5 : ((0 : Int32)).toInt = 0 := li_0
    exact Sp.so (by omega)
  · have h6 := nlt_iv rfl li_0 c_h2
    have h7 := b_42_6 I_S
    refine Sp.i (fun c_h8 => ?_) (fun c_h8 => ?_)
    · have h9 := le_iv rfl rfl c_h8
      have h10 := b_42_6 I_S
      have h11 : ((0 : Int32)).toInt = 0 := li_0
      exact Sp.so (by omega)
    · have h12 := nle_iv rfl rfl c_h8
      refine Sp.g (ck_iv (by omega) (by omega)) ?_
      have h13 := a_47 I_S ((x1).toNatClampNeg)
      have h14 := b_42_6 I_S
      exact Sp.so (by omega)
theorem s_fX1_valueOf (fu : Nat) (hfu : 1000000000000000000 ≤ fu) (x1 : Int32) (x2 : Int32) (S : St) (I_S : Inv S) : Sp (fX1_valueOf fu x1 x2 S) S (fun r => True) := by
  unfold fX1_valueOf
  have h1 := i32 x2
  refine Sp.i (fun c_h2 => ?_) (fun c_h2 => ?_)
  · have h3 := lt_iv rfl li_0 c_h2
    exact Sp.so trivial
  · have h4 := nlt_iv rfl li_0 c_h2
    have h5 := i32 x1
    have h6 := b_42_6 I_S
    refine Sp.b (s_fX1_sizeOf fu hfu x1 S I_S) (fun r_7 p_r_7 => ?_)
    have h7 := i32 r_7
    refine Sp.i (fun c_h8 => ?_) (fun c_h8 => ?_)
    · have h9 := le_iv rfl rfl c_h8
      exact Sp.so trivial
    · have h10 := nle_iv rfl rfl c_h8
      try have h11 : ((x1 * (10 : Int32))).toInt = (x1).toInt * (10) := mul_iv rfl li_10 (by omega) (by omega)
      try have h12 : (((x1 * (10 : Int32)) + x2)).toInt = ((x1 * (10 : Int32))).toInt + (x2).toInt := add_iv rfl rfl (by omega) (by omega)
      refine Sp.g (ck_iv (by omega) (by omega)) ?_
      exact Sp.so trivial
theorem s_fX6_endFrame_30 (fu : Nat) (hfu : 1000000000000000000 ≤ fu) : ∀ (n : Nat) (x2 : Int32) (x3 : Int32) (S : St), Inv S → (0 ≤ (x3).toInt) → (10 - (x3).toInt).toNat < n → Sf (fX6_endFrame_30 fu n x2 x3 S) (fun U r => Inv U ∧ Fr [(49, 12), (60, 0)] S U ∧ (True)) := by
  intro n
  induction n with
  | zero => intro x2 x3 S I_S g0 hm; exact absurd hm (Nat.not_lt_zero _)
  | succ n ih =>
    intro x2 x3 S I_S g0 hm
    rw [fX6_endFrame_30_s]
    have F_S : Fr [(49, 12), (60, 0)] S S := Fr.refl _ _
    have h1 := i32 x2
    have h2 := b_42_6 I_S
    refine Sf.bp (s_fX1_sizeOf fu hfu x2 S I_S) (fun r_36 p_r_36 => ?_)
    have h3 := i32 r_36
    have h4 := i32 x3
    refine Sf.i (fun c_h5 => ?_) (fun c_h5 => ?_)
    · have h6 := le_iv rfl rfl c_h5
      exact Sf.so ⟨I_S, F_S, trivial⟩
    · have h7 := nle_iv rfl rfl c_h5
      refine Sf.i (fun c_h8 => ?_) (fun c_h8 => ?_)
      · have h9 := le_iv li_10 rfl c_h8
        exact Sf.so ⟨I_S, F_S, trivial⟩
      · have h10 := nle_iv li_10 rfl c_h8
        refine Sf.bp (s_fX1_valueOf fu hfu x2 x3 S I_S) (fun r_59 p_r_59 => ?_)
        refine Sf.g (ck_iv (by omega) (by omega)) ?_
        have h11 := i32 r_59
        refine Sf.w I_S F_S rfl (i32 _).1 (i32 _).2 (fun S_62 I_S_62 F_S_62 v_S_62 f_S_62 l_S_62 => ?_)
        have h12 := ti_eq (f_S_62 42 6 (fun e => absurd e (by decide)))
        have h13 : (S_62.1 60 ((x3).toNatClampNeg)).toInt = (r_59).toInt := eq_iv rfl rfl v_S_62
        try have h14 : ((x3 + (1 : Int32))).toInt = (x3).toInt + (1) := add_iv rfl li_1 (by omega) (by omega)
        refine Sf.w I_S_62 F_S_62 rfl (show ((0) : Int) ≤ ((x3 + (1 : Int32))).toInt by omega) (show ((x3 + (1 : Int32))).toInt ≤ (10 : Int) by omega) (fun S_67 I_S_67 F_S_67 v_S_67 f_S_67 l_S_67 => ?_)
        have h15 := ti_eq (f_S_67 42 6 (fun e => absurd e (by decide)))
        have h16 : (S_67.1 60 ((x3).toNatClampNeg)).toInt = (S_62.1 60 ((x3).toNatClampNeg)).toInt := ti_eq (f_S_67 60 ((x3).toNatClampNeg) (fun e => absurd e (by decide)))
        refine Sf.mono (ih x2 (x3 + (1 : Int32)) S_67 I_S_67 (by omega) (by omega)) (fun U r p_h17 => ?_)
        obtain ⟨I_U, G_U, p_h17⟩ := p_h17
        have h18 := ti_eq (G_U 42 6 rfl)
        exact ⟨I_U, Fr.tr F_S_67 G_U rfl, trivial⟩
theorem s_fX6_endFrame (fu : Nat) (hfu : 1000000000000000000 ≤ fu) (x1 : Int32) (x2 : Int32) (S : St) (I_S : Inv S) : Sf (fX6_endFrame fu x1 x2 S) (fun U r => Inv U ∧ Fr [(49, 6), (49, 12), (50, 9), (50, 10), (60, 0)] S U ∧ (True)) := by
  unfold fX6_endFrame
  have F_S : Fr [(49, 6), (49, 12), (50, 9), (50, 10), (60, 0)] S S := Fr.refl _ _
  refine Sf.b (s_fX2_pop fu hfu S I_S) (fun S_4 r_4_ p_r_4_ => ?_)
  obtain ⟨I_S_4, G_S_4, p_r_4_⟩ := p_r_4_
  have F_S_4 := Fr.tr F_S G_S_4 rfl
  have h1 := ti_eq (G_S_4 42 6 rfl)
  have h2 := b_50_8 I_S_4
  refine Sf.bp (s_fX2_depth fu hfu S_4 I_S_4) (fun r_11 p_r_11 => ?_)
  have h3 := i32 r_11
  refine Sf.i (fun c_h4 => ?_) (fun c_h4 => ?_)
  · have h5 := le_iv rfl li_0 c_h4
    have h6 := i32 x1
    refine Sf.w I_S_4 F_S_4 rfl (i32 _).1 (i32 _).2 (fun S_20 I_S_20 F_S_20 v_S_20 f_S_20 l_S_20 => ?_)
    have h7 := ti_eq (f_S_20 42 6 (fun e => absurd e (by decide)))
    have h8 := ti_eq (f_S_20 50 8 (fun e => absurd e (by decide)))
    refine Sf.w I_S_20 F_S_20 rfl (show ((0) : Int) ≤ ((0 : Int32)).toInt by rw [li_0]; omega) (show ((0 : Int32)).toInt ≤ (10 : Int) by rw [li_0]; omega) (fun S_25 I_S_25 F_S_25 v_S_25 f_S_25 l_S_25 => ?_)
    have h9 := ti_eq (f_S_25 42 6 (fun e => absurd e (by decide)))
    have h10 := ti_eq (f_S_25 50 8 (fun e => absurd e (by decide)))
    have h11 := i32 x2
    have h12 : ((0 : Int32)).toInt = 0 := li_0
    refine Sf.mono (s_fX6_endFrame_30 fu hfu fu x2 (0 : Int32) S_25 I_S_25 (by omega) (by omega)) (fun U r p_h13 => ?_)
    obtain ⟨I_U, G_U, p_h13⟩ := p_h13
    have h14 := ti_eq (G_U 42 6 rfl)
    have h15 := ti_eq (G_U 50 8 rfl)
    exact ⟨I_U, Fr.tr F_S_25 G_U rfl, trivial⟩
  · have h16 := nle_iv rfl li_0 c_h4
    exact Sf.so ⟨I_S_4, F_S_4, trivial⟩
theorem s_fX6_placeOf_4 (fu : Nat) (hfu : 1000000000000000000 ≤ fu) : ∀ (n : Nat) (x2 : Int32) (x3 : Int32) (S : St), Inv S → (0 ≤ (x3).toInt) → (6 - (x3).toInt).toNat < n → Sp (fX6_placeOf_4 fu n x2 x3 S) S (fun r => True) := by
  intro n
  induction n with
  | zero => intro x2 x3 S I_S g0 hm; exact absurd hm (Nat.not_lt_zero _)
  | succ n ih =>
    intro x2 x3 S I_S g0 hm
    rw [fX6_placeOf_4_s]
    have h1 := i32 x3
    refine Sp.i (fun c_h2 => ?_) (fun c_h2 => ?_)
    · have h3 := le_iv li_6 rfl c_h2
      exact Sp.so trivial
    · have h4 := nle_iv li_6 rfl c_h2
      have h5 := i32 x2
      refine Sp.i (fun c_h6 => ?_) (fun c_h6 => ?_)
      · have h7 := eq_iv rfl li_0 c_h6
        exact Sp.so trivial
      · have h8 := neq_iv rfl li_0 c_h6
        have h9 : ((2 : Int32)).toInt = 2 := li_2
        have h10 := b_42_6 I_S
        refine Sp.b (s_fX1_setOf fu hfu x2 (2 : Int32) S I_S) (fun r_20 p_r_20 => ?_)
        have h11 := i32 r_20
        refine Sp.i (fun c_h12 => ?_) (fun c_h12 => ?_)
        · have h13 := eq_iv rfl li_m1 c_h12
          refine Sp.b (s_fX3_above fu hfu x2 S I_S) (fun r_34 p_r_34 => ?_)
          have h14 := i32 r_34
          try have h15 : ((x3 + (1 : Int32))).toInt = (x3).toInt + (1) := add_iv rfl li_1 (by omega) (by omega)
          refine Sp.mono (ih r_34 (x3 + (1 : Int32)) S I_S (by omega) (by omega)) (fun r p_h16 => ?_)
          exact trivial
        · have h17 := neq_iv rfl li_m1 c_h12
          exact Sp.so trivial
theorem s_fX6_placeOf (fu : Nat) (hfu : 1000000000000000000 ≤ fu) (x1 : Int32) (S : St) (I_S : Inv S) : Sp (fX6_placeOf fu x1 S) S (fun r => True) := by
  unfold fX6_placeOf
  have h1 := i32 x1
  have h2 : ((0 : Int32)).toInt = 0 := li_0
  refine Sp.mono (s_fX6_placeOf_4 fu hfu fu x1 (0 : Int32) S I_S (by omega) (by omega)) (fun r p_h3 => ?_)
  exact trivial
theorem s_fX2_lead (fu : Nat) (hfu : 1000000000000000000 ≤ fu) (x1 : Int32) (S : St) (I_S : Inv S) : Sf (fX2_lead fu x1 S) (fun U r => Inv U ∧ Fr [(54, 0), (56, 0), (58, 0)] S U ∧ (True)) := by
  unfold fX2_lead
  have F_S : Fr [(54, 0), (56, 0), (58, 0)] S S := Fr.refl _ _
  have h1 := b_50_9 I_S
  refine Sf.g (ck_iv (by omega) (by omega)) ?_
  have h2 := i32 x1
  refine Sf.i (fun c_h3 => ?_) (fun c_h3 => ?_)
  · have h4 := eq_iv rfl rfl c_h3
    exact Sf.so ⟨I_S, F_S, trivial⟩
  · have h5 := neq_iv rfl rfl c_h3
    refine Sf.g (ck_iv (by omega) (by omega)) ?_
    refine Sf.w I_S F_S rfl (i32 _).1 (i32 _).2 (fun S_22 I_S_22 F_S_22 v_S_22 f_S_22 l_S_22 => ?_)
    have h6 := ti_eq (f_S_22 50 9 (fun e => absurd e (by decide)))
    have h7 : (S_22.1 54 (((S.1 50 9)).toNatClampNeg)).toInt = (x1).toInt := eq_iv rfl rfl v_S_22
    have h8 : (S_22.1 54 (((S_22.1 50 9)).toNatClampNeg)).toInt = (x1).toInt := by rw [f_S_22 50 9 (fun e => absurd e (by decide))]; exact eq_iv rfl rfl v_S_22
    refine Sf.b (s_fX2_forget fu hfu S_22 I_S_22) (fun S_24 r_24_ p_r_24_ => ?_)
    obtain ⟨I_S_24, G_S_24, p_r_24_⟩ := p_r_24_
    have F_S_24 := Fr.tr F_S_22 G_S_24 rfl
    have h9 := ti_eq (G_S_24 50 9 rfl)
    have h10 : (S_24.1 54 (((S.1 50 9)).toNatClampNeg)).toInt = (S_22.1 54 (((S.1 50 9)).toNatClampNeg)).toInt := ti_eq (G_S_24 54 (((S.1 50 9)).toNatClampNeg) rfl)
    have h11 : (S_24.1 54 (((S_22.1 50 9)).toNatClampNeg)).toInt = (S_22.1 54 (((S_22.1 50 9)).toNatClampNeg)).toInt := ti_eq (G_S_24 54 (((S_22.1 50 9)).toNatClampNeg) rfl)
    have h12 : (S_24.1 54 (((S_24.1 50 9)).toNatClampNeg)).toInt = (S_22.1 54 (((S_22.1 50 9)).toNatClampNeg)).toInt := by rw [G_S_24 50 9 rfl]; exact ti_eq (G_S_24 54 (((S_22.1 50 9)).toNatClampNeg) rfl)
    exact Sf.so ⟨I_S_24, F_S_24, trivial⟩
theorem s_fX2_hasTried_2 (fu : Nat) (hfu : 1000000000000000000 ≤ fu) : ∀ (n : Nat) (x1 : Int32) (x2 : Int32) (S : St), Inv S → (0 ≤ (x2).toInt) → (40 - (x2).toInt).toNat < n → Sp (fX2_hasTried_2 fu n x1 x2 S) S (fun r => (0 ≤ r.toInt) ∧ (r.toInt ≤ 1)) := by
  intro n
  induction n with
  | zero => intro x1 x2 S I_S g0 hm; exact absurd hm (Nat.not_lt_zero _)
  | succ n ih =>
    intro x1 x2 S I_S g0 hm
    rw [fX2_hasTried_2_s]
    have h1 := b_50_9 I_S
    refine Sp.g (ck_iv (by omega) (by omega)) ?_
    have h2 := a_56 I_S (((S.1 50 9)).toNatClampNeg)
    have h3 := i32 x2
    refine Sp.i (fun c_h4 => ?_) (fun c_h4 => ?_)
    · have h5 := le_iv rfl rfl c_h4
      have h6 : ((0 : Int32)).toInt = 0 := li_0
      exact Sp.so (by omega)
    · have h7 := nle_iv rfl rfl c_h4
      try have h8 : (((S.1 50 9) * (40 : Int32))).toInt = ((S.1 50 9)).toInt * (40) := mul_iv rfl li_40 (by omega) (by omega)
      try have h9 : ((((S.1 50 9) * (40 : Int32)) + x2)).toInt = (((S.1 50 9) * (40 : Int32))).toInt + (x2).toInt := add_iv rfl rfl (by omega) (by omega)
      refine Sp.g (ck_iv (by omega) (by omega)) ?_
      have h10 := i32 x1
      refine Sp.i (fun c_h11 => ?_) (fun c_h11 => ?_)
      · have h12 := eq_iv rfl rfl c_h11
        have h13 : ((1 : Int32)).toInt = 1 := li_1
        exact Sp.so (by omega)
      · have h14 := neq_iv rfl rfl c_h11
        try have h15 : ((x2 + (1 : Int32))).toInt = (x2).toInt + (1) := add_iv rfl li_1 (by omega) (by omega)
        refine Sp.mono (ih x1 (x2 + (1 : Int32)) S I_S (by omega) (by omega)) (fun r p_h16 => ?_)
        exact by omega
theorem s_fX2_hasTried (fu : Nat) (hfu : 1000000000000000000 ≤ fu) (x1 : Int32) (S : St) (I_S : Inv S) : Sp (fX2_hasTried fu x1 S) S (fun r => (0 ≤ r.toInt) ∧ (r.toInt ≤ 1)) := by
  unfold fX2_hasTried
  have h1 := i32 x1
  have h2 : ((0 : Int32)).toInt = 0 := li_0
  refine Sp.mono (s_fX2_hasTried_2 fu hfu fu x1 (0 : Int32) S I_S (by omega) (by omega)) (fun r p_h3 => ?_)
  exact by omega
theorem s_fX2_addTried (fu : Nat) (hfu : 1000000000000000000 ≤ fu) (x1 : Int32) (S : St) (I_S : Inv S) : Sf (fX2_addTried fu x1 S) (fun U r => Inv U ∧ Fr [(55, 0), (56, 0)] S U ∧ (True)) := by
  unfold fX2_addTried
  have F_S : Fr [(55, 0), (56, 0)] S S := Fr.refl _ _
  have h1 := b_50_9 I_S
  refine Sf.g (ck_iv (by omega) (by omega)) ?_
  have h2 := a_56 I_S (((S.1 50 9)).toNatClampNeg)
  refine Sf.i (fun c_h3 => ?_) (fun c_h3 => ?_)
  · have h4 := le_iv li_40 rfl c_h3
    exact Sf.so ⟨I_S, F_S, trivial⟩
  · have h5 := nle_iv li_40 rfl c_h3
    refine Sf.g (ck_iv (by omega) (by omega)) ?_
    try have h6 : (((S.1 50 9) * (40 : Int32))).toInt = ((S.1 50 9)).toInt * (40) := mul_iv rfl li_40 (by omega) (by omega)
    try have h7 : ((((S.1 50 9) * (40 : Int32)) + (S.1 56 (((S.1 50 9)).toNatClampNeg)))).toInt = (((S.1 50 9) * (40 : Int32))).toInt + ((S.1 56 (((S.1 50 9)).toNatClampNeg))).toInt := add_iv rfl rfl (by omega) (by omega)
    refine Sf.g (ck_iv (by omega) (by omega)) ?_
    have h8 := i32 x1
    refine Sf.w I_S F_S rfl (i32 _).1 (i32 _).2 (fun S_36 I_S_36 F_S_36 v_S_36 f_S_36 l_S_36 => ?_)
    have h9 := ti_eq (f_S_36 50 9 (fun e => absurd e (by decide)))
    have h10 : (S_36.1 55 (((((S.1 50 9) * (40 : Int32)) + (S.1 56 (((S.1 50 9)).toNatClampNeg)))).toNatClampNeg)).toInt = (x1).toInt := eq_iv rfl rfl v_S_36
    have h11 : (S_36.1 56 (((S.1 50 9)).toNatClampNeg)).toInt = (S.1 56 (((S.1 50 9)).toNatClampNeg)).toInt := ti_eq (f_S_36 56 (((S.1 50 9)).toNatClampNeg) (fun e => absurd e (by decide)))
    have h12 : (S_36.1 56 (((S_36.1 50 9)).toNatClampNeg)).toInt = (S.1 56 (((S.1 50 9)).toNatClampNeg)).toInt := by rw [f_S_36 50 9 (fun e => absurd e (by decide))]; exact ti_eq (f_S_36 56 (((S.1 50 9)).toNatClampNeg) (fun e => absurd e (by decide)))
    have h13 := b_50_9 I_S_36
    refine Sf.g (ck_iv (by omega) (by omega)) ?_
    refine Sf.g (ck_iv (by omega) (by omega)) ?_
    try have h14 : (((S_36.1 56 (((S_36.1 50 9)).toNatClampNeg)) + (1 : Int32))).toInt = ((S_36.1 56 (((S_36.1 50 9)).toNatClampNeg))).toInt + (1) := add_iv rfl li_1 (by omega) (by omega)
    refine Sf.w I_S_36 F_S_36 rfl (show ((0) : Int) ≤ (((S_36.1 56 (((S_36.1 50 9)).toNatClampNeg)) + (1 : Int32))).toInt by omega) (show (((S_36.1 56 (((S_36.1 50 9)).toNatClampNeg)) + (1 : Int32))).toInt ≤ (40 : Int) by omega) (fun S_49 I_S_49 F_S_49 v_S_49 f_S_49 l_S_49 => ?_)
    have h15 := ti_eq (f_S_49 50 9 (fun e => absurd e (by decide)))
    have h16 : (S_49.1 56 (((S_36.1 50 9)).toNatClampNeg)).toInt = (((S_36.1 56 (((S_36.1 50 9)).toNatClampNeg)) + (1 : Int32))).toInt := eq_iv rfl rfl v_S_49
    have h17 : (S_49.1 56 (((S_49.1 50 9)).toNatClampNeg)).toInt = (((S_36.1 56 (((S_36.1 50 9)).toNatClampNeg)) + (1 : Int32))).toInt := by rw [f_S_49 50 9 (fun e => absurd e (by decide))]; exact eq_iv rfl rfl v_S_49
    have h18 : (S_49.1 55 (((((S.1 50 9) * (40 : Int32)) + (S.1 56 (((S.1 50 9)).toNatClampNeg)))).toNatClampNeg)).toInt = (S_36.1 55 (((((S.1 50 9) * (40 : Int32)) + (S.1 56 (((S.1 50 9)).toNatClampNeg)))).toNatClampNeg)).toInt := ti_eq (f_S_49 55 (((((S.1 50 9) * (40 : Int32)) + (S.1 56 (((S.1 50 9)).toNatClampNeg)))).toNatClampNeg) (fun e => absurd e (by decide)))
    exact Sf.so ⟨I_S_49, F_S_49, trivial⟩
theorem s_fX6_sendTo (fu : Nat) (hfu : 1000000000000000000 ≤ fu) (x1 : Int32) (S : St) (I_S : Inv S) : Sf (fX6_sendTo fu x1 S) (fun U r => Inv U ∧ Fr [(49, 6), (49, 7), (49, 8), (49, 9), (49, 10), (55, 0), (56, 0)] S U ∧ (True)) := by
  unfold fX6_sendTo
  have F_S : Fr [(49, 6), (49, 7), (49, 8), (49, 9), (49, 10), (55, 0), (56, 0)] S S := Fr.refl _ _
  refine Sf.i (fun c_h1 => ?_) (fun c_h1 => ?_)
  · have h2 := lt_iv rfl li_40 c_h1
    have h3 := i32 x1
    refine Sf.b (s_fX2_addTried fu hfu x1 S I_S) (fun S_20 r_20_ p_r_20_ => ?_)
    obtain ⟨I_S_20, G_S_20, p_r_20_⟩ := p_r_20_
    have F_S_20 := Fr.tr F_S G_S_20 rfl
    have h4 := ti_eq (G_S_20 49 6 rfl)
    have h5 := ti_eq (G_S_20 49 7 rfl)
    refine Sf.w I_S_20 F_S_20 rfl (i32 _).1 (i32 _).2 (fun S_25 I_S_25 F_S_25 v_S_25 f_S_25 l_S_25 => ?_)
    have h6 := ti_eq (f_S_25 49 6 (fun _ e => absurd e (by decide)))
    have h7 := ti_eq (f_S_25 49 7 (fun _ e => absurd e (by decide)))
    try have h8 : (((S_25.1 49 6) + (1 : Int32))).toInt = ((S_25.1 49 6)).toInt + (1) := add_iv rfl li_1 (by omega) (by omega)
    refine Sf.w I_S_25 F_S_25 rfl (i32 _).1 (i32 _).2 (fun S_35 I_S_35 F_S_35 v_S_35 f_S_35 l_S_35 => ?_)
    have h9 := eq_iv rfl rfl v_S_35
    have h10 := ti_eq (f_S_35 49 7 (fun _ e => absurd e (by decide)))
    try have h11 : (((S_35.1 49 7) + (1 : Int32))).toInt = ((S_35.1 49 7)).toInt + (1) := add_iv rfl li_1 (by omega) (by omega)
    refine Sf.w I_S_35 F_S_35 rfl (i32 _).1 (i32 _).2 (fun S_45 I_S_45 F_S_45 v_S_45 f_S_45 l_S_45 => ?_)
    have h12 := ti_eq (f_S_45 49 6 (fun _ e => absurd e (by decide)))
    have h13 := eq_iv rfl rfl v_S_45
    refine Sf.w I_S_45 F_S_45 rfl (show ((0) : Int) ≤ ((1 : Int32)).toInt by rw [li_1]; omega) (show ((1 : Int32)).toInt ≤ (1 : Int) by rw [li_1]; omega) (fun S_50 I_S_50 F_S_50 v_S_50 f_S_50 l_S_50 => ?_)
    have h14 := ti_eq (f_S_50 49 6 (fun _ e => absurd e (by decide)))
    have h15 := ti_eq (f_S_50 49 7 (fun _ e => absurd e (by decide)))
    exact Sf.so ⟨I_S_50, F_S_50, trivial⟩
  · have h16 := nlt_iv rfl li_40 c_h1
    refine Sf.w I_S F_S rfl (i32 _).1 (i32 _).2 (fun S_11 I_S_11 F_S_11 v_S_11 f_S_11 l_S_11 => ?_)
    have h17 := ti_eq (f_S_11 49 6 (fun _ e => absurd e (by decide)))
    have h18 := ti_eq (f_S_11 49 7 (fun _ e => absurd e (by decide)))
    exact Sf.so ⟨I_S_11, F_S_11, trivial⟩
theorem s_fX6_tryHints_2 (fu : Nat) (hfu : 1000000000000000000 ≤ fu) : ∀ (n : Nat) (x1 : Int32) (S : St), Inv S → (0 ≤ (x1).toInt) → (4 - (x1).toInt).toNat < n → Sf (fX6_tryHints_2 fu n x1 S) (fun U r => Inv U ∧ Fr [(49, 6), (49, 7), (49, 8), (49, 9), (49, 10), (55, 0), (56, 0)] S U ∧ ((0 ≤ r.toInt) ∧ (r.toInt ≤ 1))) := by
  intro n
  induction n with
  | zero => intro x1 S I_S g0 hm; exact absurd hm (Nat.not_lt_zero _)
  | succ n ih =>
    intro x1 S I_S g0 hm
    rw [fX6_tryHints_2_s]
    have F_S : Fr [(49, 6), (49, 7), (49, 8), (49, 9), (49, 10), (55, 0), (56, 0)] S S := Fr.refl _ _
    have h1 := b_49_4 I_S
    have h2 := i32 x1
    refine Sf.i (fun c_h3 => ?_) (fun c_h3 => ?_)
    · have h4 := le_iv rfl rfl c_h3
      have h5 : ((0 : Int32)).toInt = 0 := li_0
      exact Sf.so ⟨I_S, F_S, by omega⟩
    · have h6 := nle_iv rfl rfl c_h3
      refine Sf.g (ck_iv (by omega) (by omega)) ?_
      refine Sf.bp (s_fX2_hasTried fu hfu (S.1 59 ((x1).toNatClampNeg)) S I_S) (fun r_20 p_r_20 => ?_)
      have h7 := i32 r_20
      refine Sf.i (fun c_h8 => ?_) (fun c_h8 => ?_)
      · have h9 := eq_iv rfl li_0 c_h8
        refine Sf.g (ck_iv (by omega) (by omega)) ?_
        refine Sf.b (s_fX6_sendTo fu hfu (S.1 59 ((x1).toNatClampNeg)) S I_S) (fun S_33 r_33_ p_r_33_ => ?_)
        obtain ⟨I_S_33, G_S_33, p_r_33_⟩ := p_r_33_
        have F_S_33 := Fr.tr F_S G_S_33 rfl
        have h10 := ti_eq (G_S_33 49 4 rfl)
        have h11 : (S_33.1 59 ((x1).toNatClampNeg)).toInt = (S.1 59 ((x1).toNatClampNeg)).toInt := ti_eq (G_S_33 59 ((x1).toNatClampNeg) rfl)
        have h12 : ((1 : Int32)).toInt = 1 := li_1
        exact Sf.so ⟨I_S_33, F_S_33, by omega⟩
      · have h13 := neq_iv rfl li_0 c_h8
        try have h14 : ((x1 + (1 : Int32))).toInt = (x1).toInt + (1) := add_iv rfl li_1 (by omega) (by omega)
        refine Sf.mono (ih (x1 + (1 : Int32)) S I_S (by omega) (by omega)) (fun U r p_h15 => ?_)
        obtain ⟨I_U, G_U, p_h15⟩ := p_h15
        have h16 := ti_eq (G_U 49 4 rfl)
        exact ⟨I_U, Fr.tr F_S G_U rfl, by omega⟩
theorem s_fX6_tryHints (fu : Nat) (hfu : 1000000000000000000 ≤ fu) (S : St) (I_S : Inv S) : Sf (fX6_tryHints fu S) (fun U r => Inv U ∧ Fr [(49, 6), (49, 7), (49, 8), (49, 9), (49, 10), (55, 0), (56, 0)] S U ∧ ((0 ≤ r.toInt) ∧ (r.toInt ≤ 1))) := by
  unfold fX6_tryHints
  have F_S : Fr [(49, 6), (49, 7), (49, 8), (49, 9), (49, 10), (55, 0), (56, 0)] S S := Fr.refl _ _
  have h1 : ((0 : Int32)).toInt = 0 := li_0
  refine Sf.mono (s_fX6_tryHints_2 fu hfu fu (0 : Int32) S I_S (by omega) (by omega)) (fun U r p_h2 => ?_)
  obtain ⟨I_U, G_U, p_h2⟩ := p_h2
  have h3 := ti_eq (G_U 49 4 rfl)
  exact ⟨I_U, Fr.tr F_S G_U rfl, by omega⟩
theorem s_fX2_hasSentFor_2 (fu : Nat) (hfu : 1000000000000000000 ≤ fu) : ∀ (n : Nat) (x1 : Int32) (x2 : Int32) (S : St), Inv S → (0 ≤ (x2).toInt) → (300 - (x2).toInt).toNat < n → Sp (fX2_hasSentFor_2 fu n x1 x2 S) S (fun r => (0 ≤ r.toInt) ∧ (r.toInt ≤ 1)) := by
  intro n
  induction n with
  | zero => intro x1 x2 S I_S g0 hm; exact absurd hm (Nat.not_lt_zero _)
  | succ n ih =>
    intro x1 x2 S I_S g0 hm
    rw [fX2_hasSentFor_2_s]
    have h1 := b_50_9 I_S
    refine Sp.g (ck_iv (by omega) (by omega)) ?_
    have h2 := a_58 I_S (((S.1 50 9)).toNatClampNeg)
    have h3 := i32 x2
    refine Sp.i (fun c_h4 => ?_) (fun c_h4 => ?_)
    · have h5 := le_iv rfl rfl c_h4
      have h6 : ((0 : Int32)).toInt = 0 := li_0
      exact Sp.so (by omega)
    · have h7 := nle_iv rfl rfl c_h4
      try have h8 : (((S.1 50 9) * (300 : Int32))).toInt = ((S.1 50 9)).toInt * (300) := mul_iv rfl li_300 (by omega) (by omega)
      try have h9 : ((((S.1 50 9) * (300 : Int32)) + x2)).toInt = (((S.1 50 9) * (300 : Int32))).toInt + (x2).toInt := add_iv rfl rfl (by omega) (by omega)
      refine Sp.g (ck_iv (by omega) (by omega)) ?_
      have h10 := i32 x1
      refine Sp.i (fun c_h11 => ?_) (fun c_h11 => ?_)
      · have h12 := eq_iv rfl rfl c_h11
        have h13 : ((1 : Int32)).toInt = 1 := li_1
        exact Sp.so (by omega)
      · have h14 := neq_iv rfl rfl c_h11
        try have h15 : ((x2 + (1 : Int32))).toInt = (x2).toInt + (1) := add_iv rfl li_1 (by omega) (by omega)
        refine Sp.mono (ih x1 (x2 + (1 : Int32)) S I_S (by omega) (by omega)) (fun r p_h16 => ?_)
        exact by omega
theorem s_fX2_hasSentFor (fu : Nat) (hfu : 1000000000000000000 ≤ fu) (x1 : Int32) (S : St) (I_S : Inv S) : Sp (fX2_hasSentFor fu x1 S) S (fun r => (0 ≤ r.toInt) ∧ (r.toInt ≤ 1)) := by
  unfold fX2_hasSentFor
  have h1 := i32 x1
  have h2 : ((0 : Int32)).toInt = 0 := li_0
  refine Sp.mono (s_fX2_hasSentFor_2 fu hfu fu x1 (0 : Int32) S I_S (by omega) (by omega)) (fun r p_h3 => ?_)
  exact by omega
