theorem s_fX12_recordsOf_4 (fu : Nat) (hfu : 1000000000000000000 ≤ fu) : ∀ (n : Nat) (x1 : Int32) (x2 : Int32) (x3 : Int32) (S : St), Inv S → (0 ≤ (x3).toInt) → (150 - (x3).toInt).toNat < n → Sp (fX12_recordsOf_4 fu n x1 x2 x3 S) S (fun r => True) := by
  intro n
  induction n with
  | zero => intro x1 x2 x3 S I_S g0 hm; exact absurd hm (Nat.not_lt_zero _)
  | succ n ih =>
    intro x1 x2 x3 S I_S g0 hm
    rw [fX12_recordsOf_4_s]
    have h1 := b_63_20 I_S
    have h2 := i32 x3
    refine Sp.i (fun c_h3 => ?_) (fun c_h3 => ?_)
    · have h4 := le_iv rfl rfl c_h3
      exact Sp.so trivial
    · have h5 := nle_iv rfl rfl c_h3
      refine Sp.g (ck_iv (by omega) (by omega)) ?_
      have h6 := a_74 I_S ((x3).toNatClampNeg)
      have h7 := i32 x1
      refine Sp.i (fun c_h8 => ?_) (fun c_h8 => ?_)
      · have h9 := eq_iv rfl rfl c_h8
        unfold fX12_recordsOf_28
        have h10 := i32 x2
        try have h11 : ((x2 + (1 : Int32))).toInt = (x2).toInt + (1) := add_iv rfl li_1 (by omega) (by omega)
        try have h12 : ((x3 + (1 : Int32))).toInt = (x3).toInt + (1) := add_iv rfl li_1 (by omega) (by omega)
        refine Sp.mono (ih x1 (x2 + (1 : Int32)) (x3 + (1 : Int32)) S I_S (by omega) (by omega)) (fun r p_h13 => ?_)
        exact trivial
      · have h14 := neq_iv rfl rfl c_h8
        unfold fX12_recordsOf_28
        have h15 := i32 x2
        try have h16 : ((x2 + (0 : Int32))).toInt = (x2).toInt + (0) := add_iv rfl li_0 (by omega) (by omega)
        try have h17 : ((x3 + (1 : Int32))).toInt = (x3).toInt + (1) := add_iv rfl li_1 (by omega) (by omega)
        refine Sp.mono (ih x1 (x2 + (0 : Int32)) (x3 + (1 : Int32)) S I_S (by omega) (by omega)) (fun r p_h18 => ?_)
        exact trivial
theorem s_fX12_recordsOf (fu : Nat) (hfu : 1000000000000000000 ≤ fu) (x1 : Int32) (S : St) (I_S : Inv S) : Sp (fX12_recordsOf fu x1 S) S (fun r => True) := by
  unfold fX12_recordsOf
  have h1 := i32 x1
  have h2 : ((0 : Int32)).toInt = 0 := li_0
  refine Sp.mono (s_fX12_recordsOf_4 fu hfu fu x1 (0 : Int32) (0 : Int32) S I_S (by omega) (by omega)) (fun r p_h3 => ?_)
  exact trivial
theorem s_fX12_record_125 (fu : Nat) (hfu : 1000000000000000000 ≤ fu) (x1 : Int32) (x2 : Int32) (x3 : Int32) (x4 : Int32) (x5 : Int32) (t0 : Int32) (S : St) (I_S : Inv S) (RD_S : RD S) (g0 : 0 ≤ (t0).toInt) (g1 : (t0).toInt ≤ 1) (g2 : ((t0).toInt = 0 → (S.1 63 20).toInt < 150)) (g3 : 0 ≤ (x1).toInt) (g4 : (x1).toInt < 12) (g5 : 0 ≤ (x2).toInt) (g6 : (x2).toInt ≤ 299) (g7 : (((x3).toInt = 2 ∨ (x3).toInt = 5) → 0 ≤ (x4).toInt ∧ (x4).toInt ≤ 299)) : Sf (fX12_record_125 fu x1 x2 x3 x4 x5 t0 S) (fun U r => Inv U ∧ Fr [(63, 1), (63, 21), (74, 0), (75, 0), (76, 0), (77, 0), (78, 0)] S U ∧ (True) ∧ RD U) := by
  unfold fX12_record_125
  have F_S : Fr [(63, 1), (63, 21), (74, 0), (75, 0), (76, 0), (77, 0), (78, 0)] S S := Fr.refl _ _
  have h1 := b_63_20 I_S
  have h2 := i32 t0
  have h3 : ((3 : Int32)).toInt = 3 := li_3
  refine Sf.b (s_fX12_throwsIf fu hfu t0 (3 : Int32) S I_S (by omega) (by omega)) (fun S_126 r_126 p_r_126 => ?_)
  obtain ⟨I_S_126, G_S_126, p_r_126⟩ := p_r_126
  have F_S_126 := Fr.tr F_S G_S_126 rfl
  have RD_S_126 := RD_fr (U := S_126) RD_S (G_S_126 63 20 rfl) (fun b => G_S_126 76 b rfl) (fun b => G_S_126 77 b rfl)
  have h4 := ti_eq (G_S_126 63 20 rfl)
  have h5 := i32 r_126
  refine Sf.i (fun c_h6 => ?_) (fun c_h6 => ?_)
  · have h7 := eq_iv rfl li_0 c_h6
    have h8 := b_63_20 I_S_126
    refine Sf.g (ck_iv (by omega) (by omega)) ?_
    have h9 := i32 x1
    refine Sf.w I_S_126 F_S_126 rfl (show ((0) : Int) ≤ (x1).toInt by omega) (show (x1).toInt ≤ (11 : Int) by omega) (fun S_143 I_S_143 F_S_143 v_S_143 f_S_143 l_S_143 => ?_)
    have h10 := ti_eq (f_S_143 63 20 (fun e => absurd e (by decide)))
    have h11 : (S_143.1 74 (((S_126.1 63 20)).toNatClampNeg)).toInt = (x1).toInt := eq_iv rfl rfl v_S_143
    have h12 : (S_143.1 74 (((S_143.1 63 20)).toNatClampNeg)).toInt = (x1).toInt := by rw [f_S_143 63 20 (fun e => absurd e (by decide))]; exact eq_iv rfl rfl v_S_143
    have RD_S_143 := RD_fr (U := S_143) RD_S_126 (f_S_143 63 20 (fun e => absurd e (by decide))) (fun b => f_S_143 76 b (fun e => absurd e (by decide))) (fun b => f_S_143 77 b (fun e => absurd e (by decide)))
    have h13 := b_63_20 I_S_143
    refine Sf.g (ck_iv (by omega) (by omega)) ?_
    have h14 := i32 x2
    refine Sf.w I_S_143 F_S_143 rfl (show ((0) : Int) ≤ (x2).toInt by omega) (show (x2).toInt ≤ (299 : Int) by omega) (fun S_153 I_S_153 F_S_153 v_S_153 f_S_153 l_S_153 => ?_)
    have h15 := ti_eq (f_S_153 63 20 (fun e => absurd e (by decide)))
    have h16 : (S_153.1 75 (((S_143.1 63 20)).toNatClampNeg)).toInt = (x2).toInt := eq_iv rfl rfl v_S_153
    have h17 : (S_153.1 75 (((S_153.1 63 20)).toNatClampNeg)).toInt = (x2).toInt := by rw [f_S_153 63 20 (fun e => absurd e (by decide))]; exact eq_iv rfl rfl v_S_153
    have RD_S_153 := RD_fr (U := S_153) RD_S_143 (f_S_153 63 20 (fun e => absurd e (by decide))) (fun b => f_S_153 76 b (fun e => absurd e (by decide))) (fun b => f_S_153 77 b (fun e => absurd e (by decide)))
    have h18 : (S_153.1 74 (((S_126.1 63 20)).toNatClampNeg)).toInt = (S_143.1 74 (((S_126.1 63 20)).toNatClampNeg)).toInt := ti_eq (f_S_153 74 (((S_126.1 63 20)).toNatClampNeg) (fun e => absurd e (by decide)))
    have h19 : (S_153.1 74 (((S_143.1 63 20)).toNatClampNeg)).toInt = (S_143.1 74 (((S_143.1 63 20)).toNatClampNeg)).toInt := ti_eq (f_S_153 74 (((S_143.1 63 20)).toNatClampNeg) (fun e => absurd e (by decide)))
    have h20 : (S_153.1 74 (((S_153.1 63 20)).toNatClampNeg)).toInt = (S_143.1 74 (((S_143.1 63 20)).toNatClampNeg)).toInt := by rw [f_S_153 63 20 (fun e => absurd e (by decide))]; exact ti_eq (f_S_153 74 (((S_143.1 63 20)).toNatClampNeg) (fun e => absurd e (by decide)))
    have h21 := b_63_20 I_S_153
    refine Sf.g (ck_iv (by omega) (by omega)) ?_
    have h22 := i32 x3
    refine Sf.w I_S_153 F_S_153 rfl (i32 _).1 (i32 _).2 (fun S_163 I_S_163 F_S_163 v_S_163 f_S_163 l_S_163 => ?_)
    have h23 := ti_eq (f_S_163 63 20 (fun e => absurd e (by decide)))
    have h24 : (S_163.1 76 (((S_153.1 63 20)).toNatClampNeg)).toInt = (x3).toInt := eq_iv rfl rfl v_S_163
    have h25 : (S_163.1 76 (((S_163.1 63 20)).toNatClampNeg)).toInt = (x3).toInt := by rw [f_S_163 63 20 (fun e => absurd e (by decide))]; exact eq_iv rfl rfl v_S_163
    have hc3 := cl_iv (b_63_20 I_S_153).1
    have RD_S_163 : RD S_163 := RG_w RD_S_153 (by decide) (by omega) f_S_163
    have h26 : (S_163.1 74 (((S_126.1 63 20)).toNatClampNeg)).toInt = (S_153.1 74 (((S_126.1 63 20)).toNatClampNeg)).toInt := ti_eq (f_S_163 74 (((S_126.1 63 20)).toNatClampNeg) (fun e => absurd e (by decide)))
    have h27 : (S_163.1 74 (((S_143.1 63 20)).toNatClampNeg)).toInt = (S_153.1 74 (((S_143.1 63 20)).toNatClampNeg)).toInt := ti_eq (f_S_163 74 (((S_143.1 63 20)).toNatClampNeg) (fun e => absurd e (by decide)))
    have h28 : (S_163.1 74 (((S_153.1 63 20)).toNatClampNeg)).toInt = (S_153.1 74 (((S_153.1 63 20)).toNatClampNeg)).toInt := ti_eq (f_S_163 74 (((S_153.1 63 20)).toNatClampNeg) (fun e => absurd e (by decide)))
    have h29 : (S_163.1 74 (((S_163.1 63 20)).toNatClampNeg)).toInt = (S_153.1 74 (((S_153.1 63 20)).toNatClampNeg)).toInt := by rw [f_S_163 63 20 (fun e => absurd e (by decide))]; exact ti_eq (f_S_163 74 (((S_153.1 63 20)).toNatClampNeg) (fun e => absurd e (by decide)))
    have h30 : (S_163.1 75 (((S_143.1 63 20)).toNatClampNeg)).toInt = (S_153.1 75 (((S_143.1 63 20)).toNatClampNeg)).toInt := ti_eq (f_S_163 75 (((S_143.1 63 20)).toNatClampNeg) (fun e => absurd e (by decide)))
    have h31 : (S_163.1 75 (((S_153.1 63 20)).toNatClampNeg)).toInt = (S_153.1 75 (((S_153.1 63 20)).toNatClampNeg)).toInt := ti_eq (f_S_163 75 (((S_153.1 63 20)).toNatClampNeg) (fun e => absurd e (by decide)))
    have h32 : (S_163.1 75 (((S_163.1 63 20)).toNatClampNeg)).toInt = (S_153.1 75 (((S_153.1 63 20)).toNatClampNeg)).toInt := by rw [f_S_163 63 20 (fun e => absurd e (by decide))]; exact ti_eq (f_S_163 75 (((S_153.1 63 20)).toNatClampNeg) (fun e => absurd e (by decide)))
    have h33 := b_63_20 I_S_163
    refine Sf.g (ck_iv (by omega) (by omega)) ?_
    have h34 := i32 x4
    refine Sf.w I_S_163 F_S_163 rfl (i32 _).1 (i32 _).2 (fun S_174 I_S_174 F_S_174 v_S_174 f_S_174 l_S_174 => ?_)
    have h35 := ti_eq (f_S_174 63 20 (fun e => absurd e (by decide)))
    have h36 : (S_174.1 77 (((S_163.1 63 20)).toNatClampNeg)).toInt = (x4).toInt := eq_iv rfl rfl v_S_174
    have h37 : (S_174.1 77 (((S_174.1 63 20)).toNatClampNeg)).toInt = (x4).toInt := by rw [f_S_174 63 20 (fun e => absurd e (by decide))]; exact eq_iv rfl rfl v_S_174
    have hc4 := cl_iv (b_63_20 I_S_163).1
    have RD_S_174 : RD S_174 := RG_w RD_S_163 (by decide) (by omega) f_S_174
    have h38 : (S_174.1 74 (((S_126.1 63 20)).toNatClampNeg)).toInt = (S_163.1 74 (((S_126.1 63 20)).toNatClampNeg)).toInt := ti_eq (f_S_174 74 (((S_126.1 63 20)).toNatClampNeg) (fun e => absurd e (by decide)))
    have h39 : (S_174.1 74 (((S_143.1 63 20)).toNatClampNeg)).toInt = (S_163.1 74 (((S_143.1 63 20)).toNatClampNeg)).toInt := ti_eq (f_S_174 74 (((S_143.1 63 20)).toNatClampNeg) (fun e => absurd e (by decide)))
    have h40 : (S_174.1 74 (((S_153.1 63 20)).toNatClampNeg)).toInt = (S_163.1 74 (((S_153.1 63 20)).toNatClampNeg)).toInt := ti_eq (f_S_174 74 (((S_153.1 63 20)).toNatClampNeg) (fun e => absurd e (by decide)))
    have h41 : (S_174.1 74 (((S_163.1 63 20)).toNatClampNeg)).toInt = (S_163.1 74 (((S_163.1 63 20)).toNatClampNeg)).toInt := ti_eq (f_S_174 74 (((S_163.1 63 20)).toNatClampNeg) (fun e => absurd e (by decide)))
    have h42 : (S_174.1 74 (((S_174.1 63 20)).toNatClampNeg)).toInt = (S_163.1 74 (((S_163.1 63 20)).toNatClampNeg)).toInt := by rw [f_S_174 63 20 (fun e => absurd e (by decide))]; exact ti_eq (f_S_174 74 (((S_163.1 63 20)).toNatClampNeg) (fun e => absurd e (by decide)))
    have h43 : (S_174.1 75 (((S_143.1 63 20)).toNatClampNeg)).toInt = (S_163.1 75 (((S_143.1 63 20)).toNatClampNeg)).toInt := ti_eq (f_S_174 75 (((S_143.1 63 20)).toNatClampNeg) (fun e => absurd e (by decide)))
    have h44 : (S_174.1 75 (((S_153.1 63 20)).toNatClampNeg)).toInt = (S_163.1 75 (((S_153.1 63 20)).toNatClampNeg)).toInt := ti_eq (f_S_174 75 (((S_153.1 63 20)).toNatClampNeg) (fun e => absurd e (by decide)))
    have h45 : (S_174.1 75 (((S_163.1 63 20)).toNatClampNeg)).toInt = (S_163.1 75 (((S_163.1 63 20)).toNatClampNeg)).toInt := ti_eq (f_S_174 75 (((S_163.1 63 20)).toNatClampNeg) (fun e => absurd e (by decide)))
    have h46 : (S_174.1 75 (((S_174.1 63 20)).toNatClampNeg)).toInt = (S_163.1 75 (((S_163.1 63 20)).toNatClampNeg)).toInt := by rw [f_S_174 63 20 (fun e => absurd e (by decide))]; exact ti_eq (f_S_174 75 (((S_163.1 63 20)).toNatClampNeg) (fun e => absurd e (by decide)))
    have h47 : (S_174.1 76 (((S_153.1 63 20)).toNatClampNeg)).toInt = (S_163.1 76 (((S_153.1 63 20)).toNatClampNeg)).toInt := ti_eq (f_S_174 76 (((S_153.1 63 20)).toNatClampNeg) (fun e => absurd e (by decide)))
    have h48 : (S_174.1 76 (((S_163.1 63 20)).toNatClampNeg)).toInt = (S_163.1 76 (((S_163.1 63 20)).toNatClampNeg)).toInt := ti_eq (f_S_174 76 (((S_163.1 63 20)).toNatClampNeg) (fun e => absurd e (by decide)))
    have h49 : (S_174.1 76 (((S_174.1 63 20)).toNatClampNeg)).toInt = (S_163.1 76 (((S_163.1 63 20)).toNatClampNeg)).toInt := by rw [f_S_174 63 20 (fun e => absurd e (by decide))]; exact ti_eq (f_S_174 76 (((S_163.1 63 20)).toNatClampNeg) (fun e => absurd e (by decide)))
    have h50 := b_63_20 I_S_174
    refine Sf.g (ck_iv (by omega) (by omega)) ?_
    have h51 := i32 x5
    refine Sf.w I_S_174 F_S_174 rfl (i32 _).1 (i32 _).2 (fun S_185 I_S_185 F_S_185 v_S_185 f_S_185 l_S_185 => ?_)
    have h52 := ti_eq (f_S_185 63 20 (fun e => absurd e (by decide)))
    have h53 : (S_185.1 78 (((S_174.1 63 20)).toNatClampNeg)).toInt = (x5).toInt := eq_iv rfl rfl v_S_185
    have h54 : (S_185.1 78 (((S_185.1 63 20)).toNatClampNeg)).toInt = (x5).toInt := by rw [f_S_185 63 20 (fun e => absurd e (by decide))]; exact eq_iv rfl rfl v_S_185
    have RD_S_185 := RD_fr (U := S_185) RD_S_174 (f_S_185 63 20 (fun e => absurd e (by decide))) (fun b => f_S_185 76 b (fun e => absurd e (by decide))) (fun b => f_S_185 77 b (fun e => absurd e (by decide)))
    have h55 : (S_185.1 74 (((S_126.1 63 20)).toNatClampNeg)).toInt = (S_174.1 74 (((S_126.1 63 20)).toNatClampNeg)).toInt := ti_eq (f_S_185 74 (((S_126.1 63 20)).toNatClampNeg) (fun e => absurd e (by decide)))
    have h56 : (S_185.1 74 (((S_143.1 63 20)).toNatClampNeg)).toInt = (S_174.1 74 (((S_143.1 63 20)).toNatClampNeg)).toInt := ti_eq (f_S_185 74 (((S_143.1 63 20)).toNatClampNeg) (fun e => absurd e (by decide)))
    have h57 : (S_185.1 74 (((S_153.1 63 20)).toNatClampNeg)).toInt = (S_174.1 74 (((S_153.1 63 20)).toNatClampNeg)).toInt := ti_eq (f_S_185 74 (((S_153.1 63 20)).toNatClampNeg) (fun e => absurd e (by decide)))
    have h58 : (S_185.1 74 (((S_163.1 63 20)).toNatClampNeg)).toInt = (S_174.1 74 (((S_163.1 63 20)).toNatClampNeg)).toInt := ti_eq (f_S_185 74 (((S_163.1 63 20)).toNatClampNeg) (fun e => absurd e (by decide)))
    have h59 : (S_185.1 74 (((S_174.1 63 20)).toNatClampNeg)).toInt = (S_174.1 74 (((S_174.1 63 20)).toNatClampNeg)).toInt := ti_eq (f_S_185 74 (((S_174.1 63 20)).toNatClampNeg) (fun e => absurd e (by decide)))
    have h60 : (S_185.1 74 (((S_185.1 63 20)).toNatClampNeg)).toInt = (S_174.1 74 (((S_174.1 63 20)).toNatClampNeg)).toInt := by rw [f_S_185 63 20 (fun e => absurd e (by decide))]; exact ti_eq (f_S_185 74 (((S_174.1 63 20)).toNatClampNeg) (fun e => absurd e (by decide)))
    have h61 : (S_185.1 75 (((S_143.1 63 20)).toNatClampNeg)).toInt = (S_174.1 75 (((S_143.1 63 20)).toNatClampNeg)).toInt := ti_eq (f_S_185 75 (((S_143.1 63 20)).toNatClampNeg) (fun e => absurd e (by decide)))
    have h62 : (S_185.1 75 (((S_153.1 63 20)).toNatClampNeg)).toInt = (S_174.1 75 (((S_153.1 63 20)).toNatClampNeg)).toInt := ti_eq (f_S_185 75 (((S_153.1 63 20)).toNatClampNeg) (fun e => absurd e (by decide)))
    have h63 : (S_185.1 75 (((S_163.1 63 20)).toNatClampNeg)).toInt = (S_174.1 75 (((S_163.1 63 20)).toNatClampNeg)).toInt := ti_eq (f_S_185 75 (((S_163.1 63 20)).toNatClampNeg) (fun e => absurd e (by decide)))
    have h64 : (S_185.1 75 (((S_174.1 63 20)).toNatClampNeg)).toInt = (S_174.1 75 (((S_174.1 63 20)).toNatClampNeg)).toInt := ti_eq (f_S_185 75 (((S_174.1 63 20)).toNatClampNeg) (fun e => absurd e (by decide)))
    have h65 : (S_185.1 75 (((S_185.1 63 20)).toNatClampNeg)).toInt = (S_174.1 75 (((S_174.1 63 20)).toNatClampNeg)).toInt := by rw [f_S_185 63 20 (fun e => absurd e (by decide))]; exact ti_eq (f_S_185 75 (((S_174.1 63 20)).toNatClampNeg) (fun e => absurd e (by decide)))
    have h66 : (S_185.1 76 (((S_153.1 63 20)).toNatClampNeg)).toInt = (S_174.1 76 (((S_153.1 63 20)).toNatClampNeg)).toInt := ti_eq (f_S_185 76 (((S_153.1 63 20)).toNatClampNeg) (fun e => absurd e (by decide)))
    have h67 : (S_185.1 76 (((S_163.1 63 20)).toNatClampNeg)).toInt = (S_174.1 76 (((S_163.1 63 20)).toNatClampNeg)).toInt := ti_eq (f_S_185 76 (((S_163.1 63 20)).toNatClampNeg) (fun e => absurd e (by decide)))
    have h68 : (S_185.1 76 (((S_174.1 63 20)).toNatClampNeg)).toInt = (S_174.1 76 (((S_174.1 63 20)).toNatClampNeg)).toInt := ti_eq (f_S_185 76 (((S_174.1 63 20)).toNatClampNeg) (fun e => absurd e (by decide)))
    have h69 : (S_185.1 76 (((S_185.1 63 20)).toNatClampNeg)).toInt = (S_174.1 76 (((S_174.1 63 20)).toNatClampNeg)).toInt := by rw [f_S_185 63 20 (fun e => absurd e (by decide))]; exact ti_eq (f_S_185 76 (((S_174.1 63 20)).toNatClampNeg) (fun e => absurd e (by decide)))
    have h70 : (S_185.1 77 (((S_163.1 63 20)).toNatClampNeg)).toInt = (S_174.1 77 (((S_163.1 63 20)).toNatClampNeg)).toInt := ti_eq (f_S_185 77 (((S_163.1 63 20)).toNatClampNeg) (fun e => absurd e (by decide)))
    have h71 : (S_185.1 77 (((S_174.1 63 20)).toNatClampNeg)).toInt = (S_174.1 77 (((S_174.1 63 20)).toNatClampNeg)).toInt := ti_eq (f_S_185 77 (((S_174.1 63 20)).toNatClampNeg) (fun e => absurd e (by decide)))
    have h72 : (S_185.1 77 (((S_185.1 63 20)).toNatClampNeg)).toInt = (S_174.1 77 (((S_174.1 63 20)).toNatClampNeg)).toInt := by rw [f_S_185 63 20 (fun e => absurd e (by decide))]; exact ti_eq (f_S_185 77 (((S_174.1 63 20)).toNatClampNeg) (fun e => absurd e (by decide)))
    have h73 := b_63_20 I_S_185
    try have h74 : (((S_185.1 63 20) + (1 : Int32))).toInt = ((S_185.1 63 20)).toInt + (1) := add_iv rfl li_1 (by omega) (by omega)
    refine Sf.w I_S_185 F_S_185 rfl (show ((0) : Int) ≤ (((S_185.1 63 20) + (1 : Int32))).toInt by omega) (show (((S_185.1 63 20) + (1 : Int32))).toInt ≤ (150 : Int) by omega) (fun S_193 I_S_193 F_S_193 v_S_193 f_S_193 l_S_193 => ?_)
    have h75 := eq_iv rfl rfl v_S_193
    have RD_S_193 : RD S_193 := RG_inc RD_S_185 (by decide) (by decide) f_S_193 (by omega) (by omega) (by show _ → _; intro hx; omega)
    have h76 : (S_193.1 74 (((S_126.1 63 20)).toNatClampNeg)).toInt = (S_185.1 74 (((S_126.1 63 20)).toNatClampNeg)).toInt := ti_eq (f_S_193 74 (((S_126.1 63 20)).toNatClampNeg) (fun e => absurd e (by decide)))
    have h77 : (S_193.1 74 (((S_143.1 63 20)).toNatClampNeg)).toInt = (S_185.1 74 (((S_143.1 63 20)).toNatClampNeg)).toInt := ti_eq (f_S_193 74 (((S_143.1 63 20)).toNatClampNeg) (fun e => absurd e (by decide)))
    have h78 : (S_193.1 74 (((S_153.1 63 20)).toNatClampNeg)).toInt = (S_185.1 74 (((S_153.1 63 20)).toNatClampNeg)).toInt := ti_eq (f_S_193 74 (((S_153.1 63 20)).toNatClampNeg) (fun e => absurd e (by decide)))
    have h79 : (S_193.1 74 (((S_163.1 63 20)).toNatClampNeg)).toInt = (S_185.1 74 (((S_163.1 63 20)).toNatClampNeg)).toInt := ti_eq (f_S_193 74 (((S_163.1 63 20)).toNatClampNeg) (fun e => absurd e (by decide)))
    have h80 : (S_193.1 74 (((S_174.1 63 20)).toNatClampNeg)).toInt = (S_185.1 74 (((S_174.1 63 20)).toNatClampNeg)).toInt := ti_eq (f_S_193 74 (((S_174.1 63 20)).toNatClampNeg) (fun e => absurd e (by decide)))
    have h81 : (S_193.1 74 (((S_185.1 63 20)).toNatClampNeg)).toInt = (S_185.1 74 (((S_185.1 63 20)).toNatClampNeg)).toInt := ti_eq (f_S_193 74 (((S_185.1 63 20)).toNatClampNeg) (fun e => absurd e (by decide)))
    have h82 : (S_193.1 75 (((S_143.1 63 20)).toNatClampNeg)).toInt = (S_185.1 75 (((S_143.1 63 20)).toNatClampNeg)).toInt := ti_eq (f_S_193 75 (((S_143.1 63 20)).toNatClampNeg) (fun e => absurd e (by decide)))
    have h83 : (S_193.1 75 (((S_153.1 63 20)).toNatClampNeg)).toInt = (S_185.1 75 (((S_153.1 63 20)).toNatClampNeg)).toInt := ti_eq (f_S_193 75 (((S_153.1 63 20)).toNatClampNeg) (fun e => absurd e (by decide)))
    have h84 : (S_193.1 75 (((S_163.1 63 20)).toNatClampNeg)).toInt = (S_185.1 75 (((S_163.1 63 20)).toNatClampNeg)).toInt := ti_eq (f_S_193 75 (((S_163.1 63 20)).toNatClampNeg) (fun e => absurd e (by decide)))
    have h85 : (S_193.1 75 (((S_174.1 63 20)).toNatClampNeg)).toInt = (S_185.1 75 (((S_174.1 63 20)).toNatClampNeg)).toInt := ti_eq (f_S_193 75 (((S_174.1 63 20)).toNatClampNeg) (fun e => absurd e (by decide)))
    have h86 : (S_193.1 75 (((S_185.1 63 20)).toNatClampNeg)).toInt = (S_185.1 75 (((S_185.1 63 20)).toNatClampNeg)).toInt := ti_eq (f_S_193 75 (((S_185.1 63 20)).toNatClampNeg) (fun e => absurd e (by decide)))
    have h87 : (S_193.1 76 (((S_153.1 63 20)).toNatClampNeg)).toInt = (S_185.1 76 (((S_153.1 63 20)).toNatClampNeg)).toInt := ti_eq (f_S_193 76 (((S_153.1 63 20)).toNatClampNeg) (fun e => absurd e (by decide)))
    have h88 : (S_193.1 76 (((S_163.1 63 20)).toNatClampNeg)).toInt = (S_185.1 76 (((S_163.1 63 20)).toNatClampNeg)).toInt := ti_eq (f_S_193 76 (((S_163.1 63 20)).toNatClampNeg) (fun e => absurd e (by decide)))
    have h89 : (S_193.1 76 (((S_174.1 63 20)).toNatClampNeg)).toInt = (S_185.1 76 (((S_174.1 63 20)).toNatClampNeg)).toInt := ti_eq (f_S_193 76 (((S_174.1 63 20)).toNatClampNeg) (fun e => absurd e (by decide)))
    have h90 : (S_193.1 76 (((S_185.1 63 20)).toNatClampNeg)).toInt = (S_185.1 76 (((S_185.1 63 20)).toNatClampNeg)).toInt := ti_eq (f_S_193 76 (((S_185.1 63 20)).toNatClampNeg) (fun e => absurd e (by decide)))
    have h91 : (S_193.1 77 (((S_163.1 63 20)).toNatClampNeg)).toInt = (S_185.1 77 (((S_163.1 63 20)).toNatClampNeg)).toInt := ti_eq (f_S_193 77 (((S_163.1 63 20)).toNatClampNeg) (fun e => absurd e (by decide)))
    have h92 : (S_193.1 77 (((S_174.1 63 20)).toNatClampNeg)).toInt = (S_185.1 77 (((S_174.1 63 20)).toNatClampNeg)).toInt := ti_eq (f_S_193 77 (((S_174.1 63 20)).toNatClampNeg) (fun e => absurd e (by decide)))
    have h93 : (S_193.1 77 (((S_185.1 63 20)).toNatClampNeg)).toInt = (S_185.1 77 (((S_185.1 63 20)).toNatClampNeg)).toInt := ti_eq (f_S_193 77 (((S_185.1 63 20)).toNatClampNeg) (fun e => absurd e (by decide)))
    have h94 : (S_193.1 78 (((S_174.1 63 20)).toNatClampNeg)).toInt = (S_185.1 78 (((S_174.1 63 20)).toNatClampNeg)).toInt := ti_eq (f_S_193 78 (((S_174.1 63 20)).toNatClampNeg) (fun e => absurd e (by decide)))
    have h95 : (S_193.1 78 (((S_185.1 63 20)).toNatClampNeg)).toInt = (S_185.1 78 (((S_185.1 63 20)).toNatClampNeg)).toInt := ti_eq (f_S_193 78 (((S_185.1 63 20)).toNatClampNeg) (fun e => absurd e (by decide)))
    refine Sf.bp (s_fX12_recordsOf fu hfu x1 S_193 I_S_193) (fun r_198 p_r_198 => ?_)
    exact Sf.so ⟨I_S_193, F_S_193, trivial, RD_S_193⟩
  · have h96 := neq_iv rfl li_0 c_h6
    exact Sf.so ⟨I_S_126, F_S_126, trivial, RD_S_126⟩
theorem s_fX12_isType (fu : Nat) (hfu : 1000000000000000000 ≤ fu) (x0 : Int32) (S : St) (I_S : Inv S) : Sp (fX12_isType fu x0 S) S (fun r => (0 ≤ r.toInt) ∧ (r.toInt ≤ 1)) := by
  unfold fX12_isType
  have h1 := i32 x0
  refine Sp.i (fun c_h2 => ?_) (fun c_h2 => ?_)
  · have h3 := eq_iv rfl li_1 c_h2
    unfold fX12_isType_21
    have h4 : ((1 : Int32)).toInt = 1 := li_1
    exact Sp.so (by omega)
  · have h5 := neq_iv rfl li_1 c_h2
    refine Sp.i (fun c_h6 => ?_) (fun c_h6 => ?_)
    · have h7 := eq_iv rfl li_2 c_h6
      unfold fX12_isType_21
      have h8 : ((1 : Int32)).toInt = 1 := li_1
      exact Sp.so (by omega)
    · have h9 := neq_iv rfl li_2 c_h6
      refine Sp.i (fun c_h10 => ?_) (fun c_h10 => ?_)
      · have h11 := eq_iv rfl li_5 c_h10
        unfold fX12_isType_21
        have h12 : ((1 : Int32)).toInt = 1 := li_1
        exact Sp.so (by omega)
      · have h13 := neq_iv rfl li_5 c_h10
        refine Sp.i (fun c_h14 => ?_) (fun c_h14 => ?_)
        · have h15 := eq_iv rfl li_16 c_h14
          unfold fX12_isType_21
          have h16 : ((1 : Int32)).toInt = 1 := li_1
          exact Sp.so (by omega)
        · have h17 := neq_iv rfl li_16 c_h14
          have h18 : ((0 : Int32)).toInt = 0 := li_0
          exact Sp.so (by omega)
theorem s_fX12_record (fu : Nat) (hfu : 1000000000000000000 ≤ fu) (x1 : Int32) (x2 : Int32) (x3 : Int32) (x4 : Int32) (x5 : Int32) (S : St) (I_S : Inv S) (RD_S : RD S) : Sf (fX12_record fu x1 x2 x3 x4 x5 S) (fun U r => Inv U ∧ Fr [(63, 1), (63, 21), (74, 0), (75, 0), (76, 0), (77, 0), (78, 0)] S U ∧ (True) ∧ RD U) := by
  unfold fX12_record
  have F_S : Fr [(63, 1), (63, 21), (74, 0), (75, 0), (76, 0), (77, 0), (78, 0)] S S := Fr.refl _ _
  refine Sf.w I_S F_S rfl (i32 _).1 (i32 _).2 (fun S_2 I_S_2 F_S_2 v_S_2 f_S_2 l_S_2 => ?_)
  have h1 := ti_eq (f_S_2 63 5 (fun _ e => absurd e (by decide)))
  have h2 := ti_eq (f_S_2 63 14 (fun _ e => absurd e (by decide)))
  have h3 := ti_eq (f_S_2 63 20 (fun _ e => absurd e (by decide)))
  have RD_S_2 := RD_fr (U := S_2) RD_S (f_S_2 63 20 (fun _ e => absurd e (by decide))) (fun b => f_S_2 76 b (fun e => absurd e (by decide))) (fun b => f_S_2 77 b (fun e => absurd e (by decide)))
  have h4 := i32 x1
  have h5 := b_63_14 I_S_2
  refine Sf.bp (s_fX12_noZone fu hfu x1 S_2 I_S_2) (fun r_8 p_r_8 => ?_)
  have h6 := i32 r_8
  refine Sf.i (fun c_h7 => ?_) (fun c_h7 => ?_)
  · have h8 := eq_iv rfl li_0 c_h7
    have h9 := i32 x2
    have h10 := b_63_5 I_S_2
    refine Sf.bp (s_fX12_noName fu hfu x2 S_2 I_S_2) (fun r_16 p_r_16 => ?_)
    have h11 := i32 r_16
    refine Sf.i (fun c_h12 => ?_) (fun c_h12 => ?_)
    · have h13 := eq_iv rfl li_0 c_h12
      unfold fX12_record_27
      have h14 : ((0 : Int32)).toInt = 0 := li_0
      have h15 : ((1 : Int32)).toInt = 1 := li_1
      refine Sf.b (s_fX12_throwsIf fu hfu (0 : Int32) (1 : Int32) S_2 I_S_2 (by omega) (by omega)) (fun S_28 r_28 p_r_28 => ?_)
      obtain ⟨I_S_28, G_S_28, p_r_28⟩ := p_r_28
      have F_S_28 := Fr.tr F_S_2 G_S_28 rfl
      have RD_S_28 := RD_fr (U := S_28) RD_S_2 (G_S_28 63 20 rfl) (fun b => G_S_28 76 b rfl) (fun b => G_S_28 77 b rfl)
      have h16 := ti_eq (G_S_28 63 5 rfl)
      have h17 := ti_eq (G_S_28 63 14 rfl)
      have h18 := ti_eq (G_S_28 63 20 rfl)
      have h19 := i32 r_28
      refine Sf.i (fun c_h20 => ?_) (fun c_h20 => ?_)
      · have h21 := eq_iv rfl li_0 c_h20
        refine Sf.g (ck_iv (by omega) (by omega)) ?_
        have h22 := a_72 I_S_28 ((x1).toNatClampNeg)
        refine Sf.bp (s_fX12_isIn fu hfu x2 (S_28.1 72 ((x1).toNatClampNeg)) S_28 I_S_28 (by omega) (by omega) (by omega) (by omega)) (fun r_44 p_r_44 => ?_)
        have h23 := i32 r_44
        refine Sf.i (fun c_h24 => ?_) (fun c_h24 => ?_)
        · have h25 := eq_iv rfl li_0 c_h24
          unfold fX12_record_88
          unfold fX12_record_89
          refine Sf.it (by decide) ?_
          unfold fX12_record_102
          have h26 : ((2 : Int32)).toInt = 2 := li_2
          refine Sf.b (s_fX12_throwsIf fu hfu (1 : Int32) (2 : Int32) S_28 I_S_28 (by omega) (by omega)) (fun S_103 r_103 p_r_103 => ?_)
          obtain ⟨I_S_103, G_S_103, p_r_103⟩ := p_r_103
          have F_S_103 := Fr.tr F_S_28 G_S_103 rfl
          have RD_S_103 := RD_fr (U := S_103) RD_S_28 (G_S_103 63 20 rfl) (fun b => G_S_103 76 b rfl) (fun b => G_S_103 77 b rfl)
          have h27 := ti_eq (G_S_103 63 5 rfl)
          have h28 := ti_eq (G_S_103 63 14 rfl)
          have h29 := ti_eq (G_S_103 63 20 rfl)
          have h30 : (S_103.1 72 ((x1).toNatClampNeg)).toInt = (S_28.1 72 ((x1).toNatClampNeg)).toInt := ti_eq (G_S_103 72 ((x1).toNatClampNeg) rfl)
          have h31 := i32 r_103
          refine Sf.i (fun c_h32 => ?_) (fun c_h32 => ?_)
          · have h33 := eq_iv rfl li_0 c_h32
            have h34 := b_63_20 I_S_103
            refine Sf.i (fun c_h35 => ?_) (fun c_h35 => ?_)
            · have h36 := eq_iv rfl li_150 c_h35
              have h37 := i32 x3
              have h38 := i32 x4
              have h39 := i32 x5
              refine Sf.mono (s_fX12_record_125 fu hfu x1 x2 x3 x4 x5 (1 : Int32) S_103 I_S_103 RD_S_103 (by omega) (by omega) (by omega) (by omega) (by omega) (by omega) (by omega) (by omega)) (fun U r p_h40 => ?_)
              obtain ⟨I_U, G_U, p_h40, RD_U⟩ := p_h40
              have h41 := ti_eq (G_U 63 5 rfl)
              have h42 := ti_eq (G_U 63 14 rfl)
              exact ⟨I_U, Fr.tr F_S_103 G_U rfl, trivial, RD_U⟩
            · have h43 := neq_iv rfl li_150 c_h35
              have h44 := i32 x3
              have h45 := i32 x4
              have h46 := i32 x5
              refine Sf.mono (s_fX12_record_125 fu hfu x1 x2 x3 x4 x5 (0 : Int32) S_103 I_S_103 RD_S_103 (by omega) (by omega) (by omega) (by omega) (by omega) (by omega) (by omega) (by omega)) (fun U r p_h47 => ?_)
              obtain ⟨I_U, G_U, p_h47, RD_U⟩ := p_h47
              have h48 := ti_eq (G_U 63 5 rfl)
              have h49 := ti_eq (G_U 63 14 rfl)
              exact ⟨I_U, Fr.tr F_S_103 G_U rfl, trivial, RD_U⟩
          · have h50 := neq_iv rfl li_0 c_h32
            exact Sf.so ⟨I_S_103, F_S_103, trivial, RD_S_103⟩
        · have h51 := neq_iv rfl li_0 c_h24
          have h52 := i32 x3
          refine Sf.bp (s_fX12_isType fu hfu x3 S_28 I_S_28) (fun r_51 p_r_51 => ?_)
          have h53 := i32 r_51
          refine Sf.i (fun c_h54 => ?_) (fun c_h54 => ?_)
          · have h55 := eq_iv rfl li_0 c_h54
            unfold fX12_record_88
            unfold fX12_record_89
            refine Sf.it (by decide) ?_
            unfold fX12_record_102
            have h56 : ((2 : Int32)).toInt = 2 := li_2
            refine Sf.b (s_fX12_throwsIf fu hfu (1 : Int32) (2 : Int32) S_28 I_S_28 (by omega) (by omega)) (fun S_103 r_103 p_r_103 => ?_)
            obtain ⟨I_S_103, G_S_103, p_r_103⟩ := p_r_103
            have F_S_103 := Fr.tr F_S_28 G_S_103 rfl
            have RD_S_103 := RD_fr (U := S_103) RD_S_28 (G_S_103 63 20 rfl) (fun b => G_S_103 76 b rfl) (fun b => G_S_103 77 b rfl)
            have h57 := ti_eq (G_S_103 63 5 rfl)
            have h58 := ti_eq (G_S_103 63 14 rfl)
            have h59 := ti_eq (G_S_103 63 20 rfl)
            have h60 : (S_103.1 72 ((x1).toNatClampNeg)).toInt = (S_28.1 72 ((x1).toNatClampNeg)).toInt := ti_eq (G_S_103 72 ((x1).toNatClampNeg) rfl)
            have h61 := i32 r_103
            refine Sf.i (fun c_h62 => ?_) (fun c_h62 => ?_)
            · have h63 := eq_iv rfl li_0 c_h62
              have h64 := b_63_20 I_S_103
              refine Sf.i (fun c_h65 => ?_) (fun c_h65 => ?_)
              · have h66 := eq_iv rfl li_150 c_h65
                have h67 := i32 x4
                have h68 := i32 x5
                refine Sf.mono (s_fX12_record_125 fu hfu x1 x2 x3 x4 x5 (1 : Int32) S_103 I_S_103 RD_S_103 (by omega) (by omega) (by omega) (by omega) (by omega) (by omega) (by omega) (by omega)) (fun U r p_h69 => ?_)
                obtain ⟨I_U, G_U, p_h69, RD_U⟩ := p_h69
                have h70 := ti_eq (G_U 63 5 rfl)
                have h71 := ti_eq (G_U 63 14 rfl)
                exact ⟨I_U, Fr.tr F_S_103 G_U rfl, trivial, RD_U⟩
              · have h72 := neq_iv rfl li_150 c_h65
                have h73 := i32 x4
                have h74 := i32 x5
                refine Sf.mono (s_fX12_record_125 fu hfu x1 x2 x3 x4 x5 (0 : Int32) S_103 I_S_103 RD_S_103 (by omega) (by omega) (by omega) (by omega) (by omega) (by omega) (by omega) (by omega)) (fun U r p_h75 => ?_)
                obtain ⟨I_U, G_U, p_h75, RD_U⟩ := p_h75
                have h76 := ti_eq (G_U 63 5 rfl)
                have h77 := ti_eq (G_U 63 14 rfl)
                exact ⟨I_U, Fr.tr F_S_103 G_U rfl, trivial, RD_U⟩
            · have h78 := neq_iv rfl li_0 c_h62
              exact Sf.so ⟨I_S_103, F_S_103, trivial, RD_S_103⟩
          · have h79 := neq_iv rfl li_0 c_h54
            have h80 := i32 x5
            refine Sf.bp (s_fX12_isLife fu hfu x5 S_28 I_S_28) (fun r_59 p_r_59 => ?_)
            have h81 := i32 r_59
            refine Sf.i (fun c_h82 => ?_) (fun c_h82 => ?_)
            · have h83 := eq_iv rfl li_0 c_h82
              unfold fX12_record_88
              unfold fX12_record_89
              refine Sf.it (by decide) ?_
              unfold fX12_record_102
              have h84 : ((2 : Int32)).toInt = 2 := li_2
              refine Sf.b (s_fX12_throwsIf fu hfu (1 : Int32) (2 : Int32) S_28 I_S_28 (by omega) (by omega)) (fun S_103 r_103 p_r_103 => ?_)
              obtain ⟨I_S_103, G_S_103, p_r_103⟩ := p_r_103
              have F_S_103 := Fr.tr F_S_28 G_S_103 rfl
              have RD_S_103 := RD_fr (U := S_103) RD_S_28 (G_S_103 63 20 rfl) (fun b => G_S_103 76 b rfl) (fun b => G_S_103 77 b rfl)
              have h85 := ti_eq (G_S_103 63 5 rfl)
              have h86 := ti_eq (G_S_103 63 14 rfl)
              have h87 := ti_eq (G_S_103 63 20 rfl)
              have h88 : (S_103.1 72 ((x1).toNatClampNeg)).toInt = (S_28.1 72 ((x1).toNatClampNeg)).toInt := ti_eq (G_S_103 72 ((x1).toNatClampNeg) rfl)
              have h89 := i32 r_103
              refine Sf.i (fun c_h90 => ?_) (fun c_h90 => ?_)
              · have h91 := eq_iv rfl li_0 c_h90
                have h92 := b_63_20 I_S_103
                refine Sf.i (fun c_h93 => ?_) (fun c_h93 => ?_)
                · have h94 := eq_iv rfl li_150 c_h93
                  have h95 := i32 x4
                  refine Sf.mono (s_fX12_record_125 fu hfu x1 x2 x3 x4 x5 (1 : Int32) S_103 I_S_103 RD_S_103 (by omega) (by omega) (by omega) (by omega) (by omega) (by omega) (by omega) (by omega)) (fun U r p_h96 => ?_)
                  obtain ⟨I_U, G_U, p_h96, RD_U⟩ := p_h96
                  have h97 := ti_eq (G_U 63 5 rfl)
                  have h98 := ti_eq (G_U 63 14 rfl)
                  exact ⟨I_U, Fr.tr F_S_103 G_U rfl, trivial, RD_U⟩
                · have h99 := neq_iv rfl li_150 c_h93
                  have h100 := i32 x4
                  refine Sf.mono (s_fX12_record_125 fu hfu x1 x2 x3 x4 x5 (0 : Int32) S_103 I_S_103 RD_S_103 (by omega) (by omega) (by omega) (by omega) (by omega) (by omega) (by omega) (by omega)) (fun U r p_h101 => ?_)
                  obtain ⟨I_U, G_U, p_h101, RD_U⟩ := p_h101
                  have h102 := ti_eq (G_U 63 5 rfl)
                  have h103 := ti_eq (G_U 63 14 rfl)
                  exact ⟨I_U, Fr.tr F_S_103 G_U rfl, trivial, RD_U⟩
              · have h104 := neq_iv rfl li_0 c_h90
                exact Sf.so ⟨I_S_103, F_S_103, trivial, RD_S_103⟩
            · have h105 := neq_iv rfl li_0 c_h82
              refine Sf.i (fun c_h106 => ?_) (fun c_h106 => ?_)
              · have h107 := eq_iv rfl li_2 c_h106
                unfold fX12_record_75
                have h108 := i32 x4
                have h109 := b_63_5 I_S_28
                refine Sf.bp (s_fX12_noName fu hfu x4 S_28 I_S_28) (fun r_78 p_r_78 => ?_)
                have h110 := i32 r_78
                refine Sf.i (fun c_h111 => ?_) (fun c_h111 => ?_)
                · have h112 := eq_iv rfl li_0 c_h111
                  unfold fX12_record_84
                  unfold fX12_record_89
                  refine Sf.ie (by decide) ?_
                  unfold fX12_record_102
                  have h113 : ((2 : Int32)).toInt = 2 := li_2
                  refine Sf.b (s_fX12_throwsIf fu hfu (0 : Int32) (2 : Int32) S_28 I_S_28 (by omega) (by omega)) (fun S_103 r_103 p_r_103 => ?_)
                  obtain ⟨I_S_103, G_S_103, p_r_103⟩ := p_r_103
                  have F_S_103 := Fr.tr F_S_28 G_S_103 rfl
                  have RD_S_103 := RD_fr (U := S_103) RD_S_28 (G_S_103 63 20 rfl) (fun b => G_S_103 76 b rfl) (fun b => G_S_103 77 b rfl)
                  have h114 := ti_eq (G_S_103 63 5 rfl)
                  have h115 := ti_eq (G_S_103 63 14 rfl)
                  have h116 := ti_eq (G_S_103 63 20 rfl)
                  have h117 : (S_103.1 72 ((x1).toNatClampNeg)).toInt = (S_28.1 72 ((x1).toNatClampNeg)).toInt := ti_eq (G_S_103 72 ((x1).toNatClampNeg) rfl)
                  have h118 := i32 r_103
                  refine Sf.i (fun c_h119 => ?_) (fun c_h119 => ?_)
                  · have h120 := eq_iv rfl li_0 c_h119
                    have h121 := b_63_20 I_S_103
                    refine Sf.i (fun c_h122 => ?_) (fun c_h122 => ?_)
                    · have h123 := eq_iv rfl li_150 c_h122
                      refine Sf.mono (s_fX12_record_125 fu hfu x1 x2 x3 x4 x5 (1 : Int32) S_103 I_S_103 RD_S_103 (by omega) (by omega) (by omega) (by omega) (by omega) (by omega) (by omega) (by omega)) (fun U r p_h124 => ?_)
                      obtain ⟨I_U, G_U, p_h124, RD_U⟩ := p_h124
                      have h125 := ti_eq (G_U 63 5 rfl)
                      have h126 := ti_eq (G_U 63 14 rfl)
                      exact ⟨I_U, Fr.tr F_S_103 G_U rfl, trivial, RD_U⟩
                    · have h127 := neq_iv rfl li_150 c_h122
                      refine Sf.mono (s_fX12_record_125 fu hfu x1 x2 x3 x4 x5 (0 : Int32) S_103 I_S_103 RD_S_103 (by omega) (by omega) (by omega) (by omega) (by omega) (by omega) (by omega) (by omega)) (fun U r p_h128 => ?_)
                      obtain ⟨I_U, G_U, p_h128, RD_U⟩ := p_h128
                      have h129 := ti_eq (G_U 63 5 rfl)
                      have h130 := ti_eq (G_U 63 14 rfl)
                      exact ⟨I_U, Fr.tr F_S_103 G_U rfl, trivial, RD_U⟩
                  · have h131 := neq_iv rfl li_0 c_h119
                    exact Sf.so ⟨I_S_103, F_S_103, trivial, RD_S_103⟩
                · have h132 := neq_iv rfl li_0 c_h111
                  unfold fX12_record_88
                  unfold fX12_record_89
                  refine Sf.it (by decide) ?_
                  unfold fX12_record_102
                  have h133 : ((2 : Int32)).toInt = 2 := li_2
                  refine Sf.b (s_fX12_throwsIf fu hfu (1 : Int32) (2 : Int32) S_28 I_S_28 (by omega) (by omega)) (fun S_103 r_103 p_r_103 => ?_)
                  obtain ⟨I_S_103, G_S_103, p_r_103⟩ := p_r_103
                  have F_S_103 := Fr.tr F_S_28 G_S_103 rfl
                  have RD_S_103 := RD_fr (U := S_103) RD_S_28 (G_S_103 63 20 rfl) (fun b => G_S_103 76 b rfl) (fun b => G_S_103 77 b rfl)
                  have h134 := ti_eq (G_S_103 63 5 rfl)
                  have h135 := ti_eq (G_S_103 63 14 rfl)
                  have h136 := ti_eq (G_S_103 63 20 rfl)
                  have h137 : (S_103.1 72 ((x1).toNatClampNeg)).toInt = (S_28.1 72 ((x1).toNatClampNeg)).toInt := ti_eq (G_S_103 72 ((x1).toNatClampNeg) rfl)
                  have h138 := i32 r_103
                  refine Sf.i (fun c_h139 => ?_) (fun c_h139 => ?_)
                  · have h140 := eq_iv rfl li_0 c_h139
                    have h141 := b_63_20 I_S_103
                    refine Sf.i (fun c_h142 => ?_) (fun c_h142 => ?_)
                    · have h143 := eq_iv rfl li_150 c_h142
                      refine Sf.mono (s_fX12_record_125 fu hfu x1 x2 x3 x4 x5 (1 : Int32) S_103 I_S_103 RD_S_103 (by omega) (by omega) (by omega) (by omega) (by omega) (by omega) (by omega) (by omega)) (fun U r p_h144 => ?_)
                      obtain ⟨I_U, G_U, p_h144, RD_U⟩ := p_h144
                      have h145 := ti_eq (G_U 63 5 rfl)
                      have h146 := ti_eq (G_U 63 14 rfl)
                      exact ⟨I_U, Fr.tr F_S_103 G_U rfl, trivial, RD_U⟩
                    · have h147 := neq_iv rfl li_150 c_h142
                      refine Sf.mono (s_fX12_record_125 fu hfu x1 x2 x3 x4 x5 (0 : Int32) S_103 I_S_103 RD_S_103 (by omega) (by omega) (by omega) (by omega) (by omega) (by omega) (by omega) (by omega)) (fun U r p_h148 => ?_)
                      obtain ⟨I_U, G_U, p_h148, RD_U⟩ := p_h148
                      have h149 := ti_eq (G_U 63 5 rfl)
                      have h150 := ti_eq (G_U 63 14 rfl)
                      exact ⟨I_U, Fr.tr F_S_103 G_U rfl, trivial, RD_U⟩
                  · have h151 := neq_iv rfl li_0 c_h139
                    exact Sf.so ⟨I_S_103, F_S_103, trivial, RD_S_103⟩
              · have h152 := neq_iv rfl li_2 c_h106
                refine Sf.i (fun c_h153 => ?_) (fun c_h153 => ?_)
                · have h154 := eq_iv rfl li_5 c_h153
                  unfold fX12_record_75
                  have h155 := i32 x4
                  have h156 := b_63_5 I_S_28
                  refine Sf.bp (s_fX12_noName fu hfu x4 S_28 I_S_28) (fun r_78 p_r_78 => ?_)
                  have h157 := i32 r_78
                  refine Sf.i (fun c_h158 => ?_) (fun c_h158 => ?_)
                  · have h159 := eq_iv rfl li_0 c_h158
                    unfold fX12_record_84
                    unfold fX12_record_89
                    refine Sf.ie (by decide) ?_
                    unfold fX12_record_102
                    have h160 : ((2 : Int32)).toInt = 2 := li_2
                    refine Sf.b (s_fX12_throwsIf fu hfu (0 : Int32) (2 : Int32) S_28 I_S_28 (by omega) (by omega)) (fun S_103 r_103 p_r_103 => ?_)
                    obtain ⟨I_S_103, G_S_103, p_r_103⟩ := p_r_103
                    have F_S_103 := Fr.tr F_S_28 G_S_103 rfl
                    have RD_S_103 := RD_fr (U := S_103) RD_S_28 (G_S_103 63 20 rfl) (fun b => G_S_103 76 b rfl) (fun b => G_S_103 77 b rfl)
                    have h161 := ti_eq (G_S_103 63 5 rfl)
                    have h162 := ti_eq (G_S_103 63 14 rfl)
                    have h163 := ti_eq (G_S_103 63 20 rfl)
                    have h164 : (S_103.1 72 ((x1).toNatClampNeg)).toInt = (S_28.1 72 ((x1).toNatClampNeg)).toInt := ti_eq (G_S_103 72 ((x1).toNatClampNeg) rfl)
                    have h165 := i32 r_103
                    refine Sf.i (fun c_h166 => ?_) (fun c_h166 => ?_)
                    · have h167 := eq_iv rfl li_0 c_h166
                      have h168 := b_63_20 I_S_103
                      refine Sf.i (fun c_h169 => ?_) (fun c_h169 => ?_)
                      · have h170 := eq_iv rfl li_150 c_h169
                        refine Sf.mono (s_fX12_record_125 fu hfu x1 x2 x3 x4 x5 (1 : Int32) S_103 I_S_103 RD_S_103 (by omega) (by omega) (by omega) (by omega) (by omega) (by omega) (by omega) (by omega)) (fun U r p_h171 => ?_)
                        obtain ⟨I_U, G_U, p_h171, RD_U⟩ := p_h171
                        have h172 := ti_eq (G_U 63 5 rfl)
                        have h173 := ti_eq (G_U 63 14 rfl)
                        exact ⟨I_U, Fr.tr F_S_103 G_U rfl, trivial, RD_U⟩
                      · have h174 := neq_iv rfl li_150 c_h169
                        refine Sf.mono (s_fX12_record_125 fu hfu x1 x2 x3 x4 x5 (0 : Int32) S_103 I_S_103 RD_S_103 (by omega) (by omega) (by omega) (by omega) (by omega) (by omega) (by omega) (by omega)) (fun U r p_h175 => ?_)
                        obtain ⟨I_U, G_U, p_h175, RD_U⟩ := p_h175
                        have h176 := ti_eq (G_U 63 5 rfl)
                        have h177 := ti_eq (G_U 63 14 rfl)
                        exact ⟨I_U, Fr.tr F_S_103 G_U rfl, trivial, RD_U⟩
                    · have h178 := neq_iv rfl li_0 c_h166
                      exact Sf.so ⟨I_S_103, F_S_103, trivial, RD_S_103⟩
                  · have h179 := neq_iv rfl li_0 c_h158
                    unfold fX12_record_88
                    unfold fX12_record_89
                    refine Sf.it (by decide) ?_
                    unfold fX12_record_102
                    have h180 : ((2 : Int32)).toInt = 2 := li_2
                    refine Sf.b (s_fX12_throwsIf fu hfu (1 : Int32) (2 : Int32) S_28 I_S_28 (by omega) (by omega)) (fun S_103 r_103 p_r_103 => ?_)
                    obtain ⟨I_S_103, G_S_103, p_r_103⟩ := p_r_103
                    have F_S_103 := Fr.tr F_S_28 G_S_103 rfl
                    have RD_S_103 := RD_fr (U := S_103) RD_S_28 (G_S_103 63 20 rfl) (fun b => G_S_103 76 b rfl) (fun b => G_S_103 77 b rfl)
                    have h181 := ti_eq (G_S_103 63 5 rfl)
                    have h182 := ti_eq (G_S_103 63 14 rfl)
                    have h183 := ti_eq (G_S_103 63 20 rfl)
                    have h184 : (S_103.1 72 ((x1).toNatClampNeg)).toInt = (S_28.1 72 ((x1).toNatClampNeg)).toInt := ti_eq (G_S_103 72 ((x1).toNatClampNeg) rfl)
                    have h185 := i32 r_103
                    refine Sf.i (fun c_h186 => ?_) (fun c_h186 => ?_)
                    · have h187 := eq_iv rfl li_0 c_h186
                      have h188 := b_63_20 I_S_103
                      refine Sf.i (fun c_h189 => ?_) (fun c_h189 => ?_)
                      · have h190 := eq_iv rfl li_150 c_h189
                        refine Sf.mono (s_fX12_record_125 fu hfu x1 x2 x3 x4 x5 (1 : Int32) S_103 I_S_103 RD_S_103 (by omega) (by omega) (by omega) (by omega) (by omega) (by omega) (by omega) (by omega)) (fun U r p_h191 => ?_)
                        obtain ⟨I_U, G_U, p_h191, RD_U⟩ := p_h191
                        have h192 := ti_eq (G_U 63 5 rfl)
                        have h193 := ti_eq (G_U 63 14 rfl)
                        exact ⟨I_U, Fr.tr F_S_103 G_U rfl, trivial, RD_U⟩
                      · have h194 := neq_iv rfl li_150 c_h189
                        refine Sf.mono (s_fX12_record_125 fu hfu x1 x2 x3 x4 x5 (0 : Int32) S_103 I_S_103 RD_S_103 (by omega) (by omega) (by omega) (by omega) (by omega) (by omega) (by omega) (by omega)) (fun U r p_h195 => ?_)
                        obtain ⟨I_U, G_U, p_h195, RD_U⟩ := p_h195
                        have h196 := ti_eq (G_U 63 5 rfl)
                        have h197 := ti_eq (G_U 63 14 rfl)
                        exact ⟨I_U, Fr.tr F_S_103 G_U rfl, trivial, RD_U⟩
                    · have h198 := neq_iv rfl li_0 c_h186
                      exact Sf.so ⟨I_S_103, F_S_103, trivial, RD_S_103⟩
                · have h199 := neq_iv rfl li_5 c_h153
                  unfold fX12_record_84
                  unfold fX12_record_89
                  refine Sf.ie (by decide) ?_
                  unfold fX12_record_102
                  have h200 : ((2 : Int32)).toInt = 2 := li_2
                  refine Sf.b (s_fX12_throwsIf fu hfu (0 : Int32) (2 : Int32) S_28 I_S_28 (by omega) (by omega)) (fun S_103 r_103 p_r_103 => ?_)
                  obtain ⟨I_S_103, G_S_103, p_r_103⟩ := p_r_103
                  have F_S_103 := Fr.tr F_S_28 G_S_103 rfl
                  have RD_S_103 := RD_fr (U := S_103) RD_S_28 (G_S_103 63 20 rfl) (fun b => G_S_103 76 b rfl) (fun b => G_S_103 77 b rfl)
                  have h201 := ti_eq (G_S_103 63 5 rfl)
                  have h202 := ti_eq (G_S_103 63 14 rfl)
                  have h203 := ti_eq (G_S_103 63 20 rfl)
                  have h204 : (S_103.1 72 ((x1).toNatClampNeg)).toInt = (S_28.1 72 ((x1).toNatClampNeg)).toInt := ti_eq (G_S_103 72 ((x1).toNatClampNeg) rfl)
                  have h205 := i32 r_103
                  refine Sf.i (fun c_h206 => ?_) (fun c_h206 => ?_)
                  · have h207 := eq_iv rfl li_0 c_h206
                    have h208 := b_63_20 I_S_103
                    refine Sf.i (fun c_h209 => ?_) (fun c_h209 => ?_)
                    · have h210 := eq_iv rfl li_150 c_h209
                      have h211 := i32 x4
                      refine Sf.mono (s_fX12_record_125 fu hfu x1 x2 x3 x4 x5 (1 : Int32) S_103 I_S_103 RD_S_103 (by omega) (by omega) (by omega) (by omega) (by omega) (by omega) (by omega) (by omega)) (fun U r p_h212 => ?_)
                      obtain ⟨I_U, G_U, p_h212, RD_U⟩ := p_h212
                      have h213 := ti_eq (G_U 63 5 rfl)
                      have h214 := ti_eq (G_U 63 14 rfl)
                      exact ⟨I_U, Fr.tr F_S_103 G_U rfl, trivial, RD_U⟩
                    · have h215 := neq_iv rfl li_150 c_h209
                      have h216 := i32 x4
                      refine Sf.mono (s_fX12_record_125 fu hfu x1 x2 x3 x4 x5 (0 : Int32) S_103 I_S_103 RD_S_103 (by omega) (by omega) (by omega) (by omega) (by omega) (by omega) (by omega) (by omega)) (fun U r p_h217 => ?_)
                      obtain ⟨I_U, G_U, p_h217, RD_U⟩ := p_h217
                      have h218 := ti_eq (G_U 63 5 rfl)
                      have h219 := ti_eq (G_U 63 14 rfl)
                      exact ⟨I_U, Fr.tr F_S_103 G_U rfl, trivial, RD_U⟩
                  · have h220 := neq_iv rfl li_0 c_h206
                    exact Sf.so ⟨I_S_103, F_S_103, trivial, RD_S_103⟩
      · have h221 := neq_iv rfl li_0 c_h20
        exact Sf.so ⟨I_S_28, F_S_28, trivial, RD_S_28⟩
    · have h222 := neq_iv rfl li_0 c_h12
      unfold fX12_record_22
      unfold fX12_record_27
      have h223 : ((1 : Int32)).toInt = 1 := li_1
      refine Sf.b (s_fX12_throwsIf fu hfu (1 : Int32) (1 : Int32) S_2 I_S_2 (by omega) (by omega)) (fun S_28 r_28 p_r_28 => ?_)
      obtain ⟨I_S_28, G_S_28, p_r_28⟩ := p_r_28
      have F_S_28 := Fr.tr F_S_2 G_S_28 rfl
      have RD_S_28 := RD_fr (U := S_28) RD_S_2 (G_S_28 63 20 rfl) (fun b => G_S_28 76 b rfl) (fun b => G_S_28 77 b rfl)
      have h224 := ti_eq (G_S_28 63 5 rfl)
      have h225 := ti_eq (G_S_28 63 14 rfl)
      have h226 := ti_eq (G_S_28 63 20 rfl)
      have h227 := i32 r_28
      refine Sf.i (fun c_h228 => ?_) (fun c_h228 => ?_)
      · have h229 := eq_iv rfl li_0 c_h228
        refine Sf.g (ck_iv (by omega) (by omega)) ?_
        have h230 := a_72 I_S_28 ((x1).toNatClampNeg)
        refine Sf.bp (s_fX12_isIn fu hfu x2 (S_28.1 72 ((x1).toNatClampNeg)) S_28 I_S_28 (by omega) (by omega) (by omega) (by omega)) (fun r_44 p_r_44 => ?_)
        have h231 := i32 r_44
        refine Sf.i (fun c_h232 => ?_) (fun c_h232 => ?_)
        · have h233 := eq_iv rfl li_0 c_h232
          unfold fX12_record_88
          unfold fX12_record_89
          refine Sf.it (by decide) ?_
          unfold fX12_record_102
          have h234 : ((2 : Int32)).toInt = 2 := li_2
          refine Sf.b (s_fX12_throwsIf fu hfu (1 : Int32) (2 : Int32) S_28 I_S_28 (by omega) (by omega)) (fun S_103 r_103 p_r_103 => ?_)
          obtain ⟨I_S_103, G_S_103, p_r_103⟩ := p_r_103
          have F_S_103 := Fr.tr F_S_28 G_S_103 rfl
          have RD_S_103 := RD_fr (U := S_103) RD_S_28 (G_S_103 63 20 rfl) (fun b => G_S_103 76 b rfl) (fun b => G_S_103 77 b rfl)
          have h235 := ti_eq (G_S_103 63 5 rfl)
          have h236 := ti_eq (G_S_103 63 14 rfl)
          have h237 := ti_eq (G_S_103 63 20 rfl)
          have h238 : (S_103.1 72 ((x1).toNatClampNeg)).toInt = (S_28.1 72 ((x1).toNatClampNeg)).toInt := ti_eq (G_S_103 72 ((x1).toNatClampNeg) rfl)
          have h239 := i32 r_103
          refine Sf.i (fun c_h240 => ?_) (fun c_h240 => ?_)
          · have h241 := eq_iv rfl li_0 c_h240
            have h242 := b_63_20 I_S_103
            refine Sf.i (fun c_h243 => ?_) (fun c_h243 => ?_)
            · have h244 := eq_iv rfl li_150 c_h243
              have h245 := i32 x3
              have h246 := i32 x4
              have h247 := i32 x5
              refine Sf.mono (s_fX12_record_125 fu hfu x1 x2 x3 x4 x5 (1 : Int32) S_103 I_S_103 RD_S_103 (by omega) (by omega) (by omega) (by omega) (by omega) (by omega) (by omega) (by omega)) (fun U r p_h248 => ?_)
              obtain ⟨I_U, G_U, p_h248, RD_U⟩ := p_h248
              have h249 := ti_eq (G_U 63 5 rfl)
              have h250 := ti_eq (G_U 63 14 rfl)
              exact ⟨I_U, Fr.tr F_S_103 G_U rfl, trivial, RD_U⟩
            · have h251 := neq_iv rfl li_150 c_h243
              have h252 := i32 x3
              have h253 := i32 x4
              have h254 := i32 x5
              have h255 : ((0 : Int32)).toInt = 0 := li_0
              refine Sf.mono (s_fX12_record_125 fu hfu x1 x2 x3 x4 x5 (0 : Int32) S_103 I_S_103 RD_S_103 (by omega) (by omega) (by omega) (by omega) (by omega) (by omega) (by omega) (by omega)) (fun U r p_h256 => ?_)
              obtain ⟨I_U, G_U, p_h256, RD_U⟩ := p_h256
              have h257 := ti_eq (G_U 63 5 rfl)
              have h258 := ti_eq (G_U 63 14 rfl)
              exact ⟨I_U, Fr.tr F_S_103 G_U rfl, trivial, RD_U⟩
          · have h259 := neq_iv rfl li_0 c_h240
            exact Sf.so ⟨I_S_103, F_S_103, trivial, RD_S_103⟩
        · have h260 := neq_iv rfl li_0 c_h232
          have h261 := i32 x3
          refine Sf.bp (s_fX12_isType fu hfu x3 S_28 I_S_28) (fun r_51 p_r_51 => ?_)
          have h262 := i32 r_51
          refine Sf.i (fun c_h263 => ?_) (fun c_h263 => ?_)
          · have h264 := eq_iv rfl li_0 c_h263
            unfold fX12_record_88
            unfold fX12_record_89
            refine Sf.it (by decide) ?_
            unfold fX12_record_102
            have h265 : ((2 : Int32)).toInt = 2 := li_2
            refine Sf.b (s_fX12_throwsIf fu hfu (1 : Int32) (2 : Int32) S_28 I_S_28 (by omega) (by omega)) (fun S_103 r_103 p_r_103 => ?_)
            obtain ⟨I_S_103, G_S_103, p_r_103⟩ := p_r_103
            have F_S_103 := Fr.tr F_S_28 G_S_103 rfl
            have RD_S_103 := RD_fr (U := S_103) RD_S_28 (G_S_103 63 20 rfl) (fun b => G_S_103 76 b rfl) (fun b => G_S_103 77 b rfl)
            have h266 := ti_eq (G_S_103 63 5 rfl)
            have h267 := ti_eq (G_S_103 63 14 rfl)
            have h268 := ti_eq (G_S_103 63 20 rfl)
            have h269 : (S_103.1 72 ((x1).toNatClampNeg)).toInt = (S_28.1 72 ((x1).toNatClampNeg)).toInt := ti_eq (G_S_103 72 ((x1).toNatClampNeg) rfl)
            have h270 := i32 r_103
            refine Sf.i (fun c_h271 => ?_) (fun c_h271 => ?_)
            · have h272 := eq_iv rfl li_0 c_h271
              have h273 := b_63_20 I_S_103
              refine Sf.i (fun c_h274 => ?_) (fun c_h274 => ?_)
              · have h275 := eq_iv rfl li_150 c_h274
                have h276 := i32 x4
                have h277 := i32 x5
                refine Sf.mono (s_fX12_record_125 fu hfu x1 x2 x3 x4 x5 (1 : Int32) S_103 I_S_103 RD_S_103 (by omega) (by omega) (by omega) (by omega) (by omega) (by omega) (by omega) (by omega)) (fun U r p_h278 => ?_)
                obtain ⟨I_U, G_U, p_h278, RD_U⟩ := p_h278
                have h279 := ti_eq (G_U 63 5 rfl)
                have h280 := ti_eq (G_U 63 14 rfl)
                exact ⟨I_U, Fr.tr F_S_103 G_U rfl, trivial, RD_U⟩
              · have h281 := neq_iv rfl li_150 c_h274
                have h282 := i32 x4
                have h283 := i32 x5
                have h284 : ((0 : Int32)).toInt = 0 := li_0
                refine Sf.mono (s_fX12_record_125 fu hfu x1 x2 x3 x4 x5 (0 : Int32) S_103 I_S_103 RD_S_103 (by omega) (by omega) (by omega) (by omega) (by omega) (by omega) (by omega) (by omega)) (fun U r p_h285 => ?_)
                obtain ⟨I_U, G_U, p_h285, RD_U⟩ := p_h285
                have h286 := ti_eq (G_U 63 5 rfl)
                have h287 := ti_eq (G_U 63 14 rfl)
                exact ⟨I_U, Fr.tr F_S_103 G_U rfl, trivial, RD_U⟩
            · have h288 := neq_iv rfl li_0 c_h271
              exact Sf.so ⟨I_S_103, F_S_103, trivial, RD_S_103⟩
          · have h289 := neq_iv rfl li_0 c_h263
            have h290 := i32 x5
            refine Sf.bp (s_fX12_isLife fu hfu x5 S_28 I_S_28) (fun r_59 p_r_59 => ?_)
            have h291 := i32 r_59
            refine Sf.i (fun c_h292 => ?_) (fun c_h292 => ?_)
            · have h293 := eq_iv rfl li_0 c_h292
              unfold fX12_record_88
              unfold fX12_record_89
              refine Sf.it (by decide) ?_
              unfold fX12_record_102
              have h294 : ((2 : Int32)).toInt = 2 := li_2
              refine Sf.b (s_fX12_throwsIf fu hfu (1 : Int32) (2 : Int32) S_28 I_S_28 (by omega) (by omega)) (fun S_103 r_103 p_r_103 => ?_)
              obtain ⟨I_S_103, G_S_103, p_r_103⟩ := p_r_103
              have F_S_103 := Fr.tr F_S_28 G_S_103 rfl
              have RD_S_103 := RD_fr (U := S_103) RD_S_28 (G_S_103 63 20 rfl) (fun b => G_S_103 76 b rfl) (fun b => G_S_103 77 b rfl)
              have h295 := ti_eq (G_S_103 63 5 rfl)
              have h296 := ti_eq (G_S_103 63 14 rfl)
              have h297 := ti_eq (G_S_103 63 20 rfl)
              have h298 : (S_103.1 72 ((x1).toNatClampNeg)).toInt = (S_28.1 72 ((x1).toNatClampNeg)).toInt := ti_eq (G_S_103 72 ((x1).toNatClampNeg) rfl)
              have h299 := i32 r_103
              refine Sf.i (fun c_h300 => ?_) (fun c_h300 => ?_)
              · have h301 := eq_iv rfl li_0 c_h300
                have h302 := b_63_20 I_S_103
                refine Sf.i (fun c_h303 => ?_) (fun c_h303 => ?_)
                · have h304 := eq_iv rfl li_150 c_h303
                  have h305 := i32 x4
                  refine Sf.mono (s_fX12_record_125 fu hfu x1 x2 x3 x4 x5 (1 : Int32) S_103 I_S_103 RD_S_103 (by omega) (by omega) (by omega) (by omega) (by omega) (by omega) (by omega) (by omega)) (fun U r p_h306 => ?_)
                  obtain ⟨I_U, G_U, p_h306, RD_U⟩ := p_h306
                  have h307 := ti_eq (G_U 63 5 rfl)
                  have h308 := ti_eq (G_U 63 14 rfl)
                  exact ⟨I_U, Fr.tr F_S_103 G_U rfl, trivial, RD_U⟩
                · have h309 := neq_iv rfl li_150 c_h303
                  have h310 := i32 x4
                  have h311 : ((0 : Int32)).toInt = 0 := li_0
                  refine Sf.mono (s_fX12_record_125 fu hfu x1 x2 x3 x4 x5 (0 : Int32) S_103 I_S_103 RD_S_103 (by omega) (by omega) (by omega) (by omega) (by omega) (by omega) (by omega) (by omega)) (fun U r p_h312 => ?_)
                  obtain ⟨I_U, G_U, p_h312, RD_U⟩ := p_h312
                  have h313 := ti_eq (G_U 63 5 rfl)
                  have h314 := ti_eq (G_U 63 14 rfl)
                  exact ⟨I_U, Fr.tr F_S_103 G_U rfl, trivial, RD_U⟩
              · have h315 := neq_iv rfl li_0 c_h300
                exact Sf.so ⟨I_S_103, F_S_103, trivial, RD_S_103⟩
            · have h316 := neq_iv rfl li_0 c_h292
              refine Sf.i (fun c_h317 => ?_) (fun c_h317 => ?_)
              · have h318 := eq_iv rfl li_2 c_h317
                unfold fX12_record_75
                have h319 := i32 x4
                have h320 := b_63_5 I_S_28
                refine Sf.bp (s_fX12_noName fu hfu x4 S_28 I_S_28) (fun r_78 p_r_78 => ?_)
                have h321 := i32 r_78
                refine Sf.i (fun c_h322 => ?_) (fun c_h322 => ?_)
                · have h323 := eq_iv rfl li_0 c_h322
                  unfold fX12_record_84
                  unfold fX12_record_89
                  refine Sf.ie (by decide) ?_
                  unfold fX12_record_102
                  have h324 : ((0 : Int32)).toInt = 0 := li_0
                  have h325 : ((2 : Int32)).toInt = 2 := li_2
                  refine Sf.b (s_fX12_throwsIf fu hfu (0 : Int32) (2 : Int32) S_28 I_S_28 (by omega) (by omega)) (fun S_103 r_103 p_r_103 => ?_)
                  obtain ⟨I_S_103, G_S_103, p_r_103⟩ := p_r_103
                  have F_S_103 := Fr.tr F_S_28 G_S_103 rfl
                  have RD_S_103 := RD_fr (U := S_103) RD_S_28 (G_S_103 63 20 rfl) (fun b => G_S_103 76 b rfl) (fun b => G_S_103 77 b rfl)
                  have h326 := ti_eq (G_S_103 63 5 rfl)
                  have h327 := ti_eq (G_S_103 63 14 rfl)
                  have h328 := ti_eq (G_S_103 63 20 rfl)
                  have h329 : (S_103.1 72 ((x1).toNatClampNeg)).toInt = (S_28.1 72 ((x1).toNatClampNeg)).toInt := ti_eq (G_S_103 72 ((x1).toNatClampNeg) rfl)
                  have h330 := i32 r_103
                  refine Sf.i (fun c_h331 => ?_) (fun c_h331 => ?_)
                  · have h332 := eq_iv rfl li_0 c_h331
                    have h333 := b_63_20 I_S_103
                    refine Sf.i (fun c_h334 => ?_) (fun c_h334 => ?_)
                    · have h335 := eq_iv rfl li_150 c_h334
                      refine Sf.mono (s_fX12_record_125 fu hfu x1 x2 x3 x4 x5 (1 : Int32) S_103 I_S_103 RD_S_103 (by omega) (by omega) (by omega) (by omega) (by omega) (by omega) (by omega) (by omega)) (fun U r p_h336 => ?_)
                      obtain ⟨I_U, G_U, p_h336, RD_U⟩ := p_h336
                      have h337 := ti_eq (G_U 63 5 rfl)
                      have h338 := ti_eq (G_U 63 14 rfl)
                      exact ⟨I_U, Fr.tr F_S_103 G_U rfl, trivial, RD_U⟩
                    · have h339 := neq_iv rfl li_150 c_h334
                      refine Sf.mono (s_fX12_record_125 fu hfu x1 x2 x3 x4 x5 (0 : Int32) S_103 I_S_103 RD_S_103 (by omega) (by omega) (by omega) (by omega) (by omega) (by omega) (by omega) (by omega)) (fun U r p_h340 => ?_)
                      obtain ⟨I_U, G_U, p_h340, RD_U⟩ := p_h340
                      have h341 := ti_eq (G_U 63 5 rfl)
                      have h342 := ti_eq (G_U 63 14 rfl)
                      exact ⟨I_U, Fr.tr F_S_103 G_U rfl, trivial, RD_U⟩
                  · have h343 := neq_iv rfl li_0 c_h331
                    exact Sf.so ⟨I_S_103, F_S_103, trivial, RD_S_103⟩
                · have h344 := neq_iv rfl li_0 c_h322
                  unfold fX12_record_88
                  unfold fX12_record_89
                  refine Sf.it (by decide) ?_
                  unfold fX12_record_102
                  have h345 : ((2 : Int32)).toInt = 2 := li_2
                  refine Sf.b (s_fX12_throwsIf fu hfu (1 : Int32) (2 : Int32) S_28 I_S_28 (by omega) (by omega)) (fun S_103 r_103 p_r_103 => ?_)
                  obtain ⟨I_S_103, G_S_103, p_r_103⟩ := p_r_103
                  have F_S_103 := Fr.tr F_S_28 G_S_103 rfl
                  have RD_S_103 := RD_fr (U := S_103) RD_S_28 (G_S_103 63 20 rfl) (fun b => G_S_103 76 b rfl) (fun b => G_S_103 77 b rfl)
                  have h346 := ti_eq (G_S_103 63 5 rfl)
                  have h347 := ti_eq (G_S_103 63 14 rfl)
                  have h348 := ti_eq (G_S_103 63 20 rfl)
                  have h349 : (S_103.1 72 ((x1).toNatClampNeg)).toInt = (S_28.1 72 ((x1).toNatClampNeg)).toInt := ti_eq (G_S_103 72 ((x1).toNatClampNeg) rfl)
                  have h350 := i32 r_103
                  refine Sf.i (fun c_h351 => ?_) (fun c_h351 => ?_)
                  · have h352 := eq_iv rfl li_0 c_h351
                    have h353 := b_63_20 I_S_103
                    refine Sf.i (fun c_h354 => ?_) (fun c_h354 => ?_)
                    · have h355 := eq_iv rfl li_150 c_h354
                      refine Sf.mono (s_fX12_record_125 fu hfu x1 x2 x3 x4 x5 (1 : Int32) S_103 I_S_103 RD_S_103 (by omega) (by omega) (by omega) (by omega) (by omega) (by omega) (by omega) (by omega)) (fun U r p_h356 => ?_)
                      obtain ⟨I_U, G_U, p_h356, RD_U⟩ := p_h356
                      have h357 := ti_eq (G_U 63 5 rfl)
                      have h358 := ti_eq (G_U 63 14 rfl)
                      exact ⟨I_U, Fr.tr F_S_103 G_U rfl, trivial, RD_U⟩
                    · have h359 := neq_iv rfl li_150 c_h354
                      have h360 : ((0 : Int32)).toInt = 0 := li_0
                      refine Sf.mono (s_fX12_record_125 fu hfu x1 x2 x3 x4 x5 (0 : Int32) S_103 I_S_103 RD_S_103 (by omega) (by omega) (by omega) (by omega) (by omega) (by omega) (by omega) (by omega)) (fun U r p_h361 => ?_)
                      obtain ⟨I_U, G_U, p_h361, RD_U⟩ := p_h361
                      have h362 := ti_eq (G_U 63 5 rfl)
                      have h363 := ti_eq (G_U 63 14 rfl)
                      exact ⟨I_U, Fr.tr F_S_103 G_U rfl, trivial, RD_U⟩
                  · have h364 := neq_iv rfl li_0 c_h351
                    exact Sf.so ⟨I_S_103, F_S_103, trivial, RD_S_103⟩
              · have h365 := neq_iv rfl li_2 c_h317
                refine Sf.i (fun c_h366 => ?_) (fun c_h366 => ?_)
                · have h367 := eq_iv rfl li_5 c_h366
                  unfold fX12_record_75
                  have h368 := i32 x4
                  have h369 := b_63_5 I_S_28
                  refine Sf.bp (s_fX12_noName fu hfu x4 S_28 I_S_28) (fun r_78 p_r_78 => ?_)
                  have h370 := i32 r_78
                  refine Sf.i (fun c_h371 => ?_) (fun c_h371 => ?_)
                  · have h372 := eq_iv rfl li_0 c_h371
                    unfold fX12_record_84
                    unfold fX12_record_89
                    refine Sf.ie (by decide) ?_
                    unfold fX12_record_102
                    have h373 : ((0 : Int32)).toInt = 0 := li_0
                    have h374 : ((2 : Int32)).toInt = 2 := li_2
                    refine Sf.b (s_fX12_throwsIf fu hfu (0 : Int32) (2 : Int32) S_28 I_S_28 (by omega) (by omega)) (fun S_103 r_103 p_r_103 => ?_)
                    obtain ⟨I_S_103, G_S_103, p_r_103⟩ := p_r_103
                    have F_S_103 := Fr.tr F_S_28 G_S_103 rfl
                    have RD_S_103 := RD_fr (U := S_103) RD_S_28 (G_S_103 63 20 rfl) (fun b => G_S_103 76 b rfl) (fun b => G_S_103 77 b rfl)
                    have h375 := ti_eq (G_S_103 63 5 rfl)
                    have h376 := ti_eq (G_S_103 63 14 rfl)
                    have h377 := ti_eq (G_S_103 63 20 rfl)
                    have h378 : (S_103.1 72 ((x1).toNatClampNeg)).toInt = (S_28.1 72 ((x1).toNatClampNeg)).toInt := ti_eq (G_S_103 72 ((x1).toNatClampNeg) rfl)
                    have h379 := i32 r_103
                    refine Sf.i (fun c_h380 => ?_) (fun c_h380 => ?_)
                    · have h381 := eq_iv rfl li_0 c_h380
                      have h382 := b_63_20 I_S_103
                      refine Sf.i (fun c_h383 => ?_) (fun c_h383 => ?_)
                      · have h384 := eq_iv rfl li_150 c_h383
                        refine Sf.mono (s_fX12_record_125 fu hfu x1 x2 x3 x4 x5 (1 : Int32) S_103 I_S_103 RD_S_103 (by omega) (by omega) (by omega) (by omega) (by omega) (by omega) (by omega) (by omega)) (fun U r p_h385 => ?_)
                        obtain ⟨I_U, G_U, p_h385, RD_U⟩ := p_h385
                        have h386 := ti_eq (G_U 63 5 rfl)
                        have h387 := ti_eq (G_U 63 14 rfl)
                        exact ⟨I_U, Fr.tr F_S_103 G_U rfl, trivial, RD_U⟩
                      · have h388 := neq_iv rfl li_150 c_h383
                        refine Sf.mono (s_fX12_record_125 fu hfu x1 x2 x3 x4 x5 (0 : Int32) S_103 I_S_103 RD_S_103 (by omega) (by omega) (by omega) (by omega) (by omega) (by omega) (by omega) (by omega)) (fun U r p_h389 => ?_)
                        obtain ⟨I_U, G_U, p_h389, RD_U⟩ := p_h389
                        have h390 := ti_eq (G_U 63 5 rfl)
                        have h391 := ti_eq (G_U 63 14 rfl)
                        exact ⟨I_U, Fr.tr F_S_103 G_U rfl, trivial, RD_U⟩
                    · have h392 := neq_iv rfl li_0 c_h380
                      exact Sf.so ⟨I_S_103, F_S_103, trivial, RD_S_103⟩
                  · have h393 := neq_iv rfl li_0 c_h371
                    unfold fX12_record_88
                    unfold fX12_record_89
                    refine Sf.it (by decide) ?_
                    unfold fX12_record_102
                    have h394 : ((2 : Int32)).toInt = 2 := li_2
                    refine Sf.b (s_fX12_throwsIf fu hfu (1 : Int32) (2 : Int32) S_28 I_S_28 (by omega) (by omega)) (fun S_103 r_103 p_r_103 => ?_)
                    obtain ⟨I_S_103, G_S_103, p_r_103⟩ := p_r_103
                    have F_S_103 := Fr.tr F_S_28 G_S_103 rfl
                    have RD_S_103 := RD_fr (U := S_103) RD_S_28 (G_S_103 63 20 rfl) (fun b => G_S_103 76 b rfl) (fun b => G_S_103 77 b rfl)
                    have h395 := ti_eq (G_S_103 63 5 rfl)
                    have h396 := ti_eq (G_S_103 63 14 rfl)
                    have h397 := ti_eq (G_S_103 63 20 rfl)
                    have h398 : (S_103.1 72 ((x1).toNatClampNeg)).toInt = (S_28.1 72 ((x1).toNatClampNeg)).toInt := ti_eq (G_S_103 72 ((x1).toNatClampNeg) rfl)
                    have h399 := i32 r_103
                    refine Sf.i (fun c_h400 => ?_) (fun c_h400 => ?_)
                    · have h401 := eq_iv rfl li_0 c_h400
                      have h402 := b_63_20 I_S_103
                      refine Sf.i (fun c_h403 => ?_) (fun c_h403 => ?_)
                      · have h404 := eq_iv rfl li_150 c_h403
                        refine Sf.mono (s_fX12_record_125 fu hfu x1 x2 x3 x4 x5 (1 : Int32) S_103 I_S_103 RD_S_103 (by omega) (by omega) (by omega) (by omega) (by omega) (by omega) (by omega) (by omega)) (fun U r p_h405 => ?_)
                        obtain ⟨I_U, G_U, p_h405, RD_U⟩ := p_h405
                        have h406 := ti_eq (G_U 63 5 rfl)
                        have h407 := ti_eq (G_U 63 14 rfl)
                        exact ⟨I_U, Fr.tr F_S_103 G_U rfl, trivial, RD_U⟩
                      · have h408 := neq_iv rfl li_150 c_h403
                        have h409 : ((0 : Int32)).toInt = 0 := li_0
                        refine Sf.mono (s_fX12_record_125 fu hfu x1 x2 x3 x4 x5 (0 : Int32) S_103 I_S_103 RD_S_103 (by omega) (by omega) (by omega) (by omega) (by omega) (by omega) (by omega) (by omega)) (fun U r p_h410 => ?_)
                        obtain ⟨I_U, G_U, p_h410, RD_U⟩ := p_h410
                        have h411 := ti_eq (G_U 63 5 rfl)
                        have h412 := ti_eq (G_U 63 14 rfl)
                        exact ⟨I_U, Fr.tr F_S_103 G_U rfl, trivial, RD_U⟩
                    · have h413 := neq_iv rfl li_0 c_h400
                      exact Sf.so ⟨I_S_103, F_S_103, trivial, RD_S_103⟩
                · have h414 := neq_iv rfl li_5 c_h366
                  unfold fX12_record_84
                  unfold fX12_record_89
                  refine Sf.ie (by decide) ?_
                  unfold fX12_record_102
                  have h415 : ((0 : Int32)).toInt = 0 := li_0
                  have h416 : ((2 : Int32)).toInt = 2 := li_2
                  refine Sf.b (s_fX12_throwsIf fu hfu (0 : Int32) (2 : Int32) S_28 I_S_28 (by omega) (by omega)) (fun S_103 r_103 p_r_103 => ?_)
                  obtain ⟨I_S_103, G_S_103, p_r_103⟩ := p_r_103
                  have F_S_103 := Fr.tr F_S_28 G_S_103 rfl
                  have RD_S_103 := RD_fr (U := S_103) RD_S_28 (G_S_103 63 20 rfl) (fun b => G_S_103 76 b rfl) (fun b => G_S_103 77 b rfl)
                  have h417 := ti_eq (G_S_103 63 5 rfl)
                  have h418 := ti_eq (G_S_103 63 14 rfl)
                  have h419 := ti_eq (G_S_103 63 20 rfl)
                  have h420 : (S_103.1 72 ((x1).toNatClampNeg)).toInt = (S_28.1 72 ((x1).toNatClampNeg)).toInt := ti_eq (G_S_103 72 ((x1).toNatClampNeg) rfl)
                  have h421 := i32 r_103
                  refine Sf.i (fun c_h422 => ?_) (fun c_h422 => ?_)
                  · have h423 := eq_iv rfl li_0 c_h422
                    have h424 := b_63_20 I_S_103
                    refine Sf.i (fun c_h425 => ?_) (fun c_h425 => ?_)
                    · have h426 := eq_iv rfl li_150 c_h425
                      have h427 := i32 x4
                      refine Sf.mono (s_fX12_record_125 fu hfu x1 x2 x3 x4 x5 (1 : Int32) S_103 I_S_103 RD_S_103 (by omega) (by omega) (by omega) (by omega) (by omega) (by omega) (by omega) (by omega)) (fun U r p_h428 => ?_)
                      obtain ⟨I_U, G_U, p_h428, RD_U⟩ := p_h428
                      have h429 := ti_eq (G_U 63 5 rfl)
                      have h430 := ti_eq (G_U 63 14 rfl)
                      exact ⟨I_U, Fr.tr F_S_103 G_U rfl, trivial, RD_U⟩
                    · have h431 := neq_iv rfl li_150 c_h425
                      have h432 := i32 x4
                      refine Sf.mono (s_fX12_record_125 fu hfu x1 x2 x3 x4 x5 (0 : Int32) S_103 I_S_103 RD_S_103 (by omega) (by omega) (by omega) (by omega) (by omega) (by omega) (by omega) (by omega)) (fun U r p_h433 => ?_)
                      obtain ⟨I_U, G_U, p_h433, RD_U⟩ := p_h433
                      have h434 := ti_eq (G_U 63 5 rfl)
                      have h435 := ti_eq (G_U 63 14 rfl)
                      exact ⟨I_U, Fr.tr F_S_103 G_U rfl, trivial, RD_U⟩
                  · have h436 := neq_iv rfl li_0 c_h422
                    exact Sf.so ⟨I_S_103, F_S_103, trivial, RD_S_103⟩
      · have h437 := neq_iv rfl li_0 c_h228
        exact Sf.so ⟨I_S_28, F_S_28, trivial, RD_S_28⟩
  · have h438 := neq_iv rfl li_0 c_h7
    unfold fX12_record_22
    unfold fX12_record_27
    have h439 : ((1 : Int32)).toInt = 1 := li_1
    refine Sf.b (s_fX12_throwsIf fu hfu (1 : Int32) (1 : Int32) S_2 I_S_2 (by omega) (by omega)) (fun S_28 r_28 p_r_28 => ?_)
    obtain ⟨I_S_28, G_S_28, p_r_28⟩ := p_r_28
    have F_S_28 := Fr.tr F_S_2 G_S_28 rfl
    have RD_S_28 := RD_fr (U := S_28) RD_S_2 (G_S_28 63 20 rfl) (fun b => G_S_28 76 b rfl) (fun b => G_S_28 77 b rfl)
    have h440 := ti_eq (G_S_28 63 5 rfl)
    have h441 := ti_eq (G_S_28 63 14 rfl)
    have h442 := ti_eq (G_S_28 63 20 rfl)
    have h443 := i32 r_28
    refine Sf.i (fun c_h444 => ?_) (fun c_h444 => ?_)
    · have h445 := eq_iv rfl li_0 c_h444
      refine Sf.g (ck_iv (by omega) (by omega)) ?_
      have h446 := i32 x2
      have h447 := a_72 I_S_28 ((x1).toNatClampNeg)
      refine Sf.bp (s_fX12_isIn fu hfu x2 (S_28.1 72 ((x1).toNatClampNeg)) S_28 I_S_28 (by omega) (by omega) (by omega) (by omega)) (fun r_44 p_r_44 => ?_)
      have h448 := i32 r_44
      refine Sf.i (fun c_h449 => ?_) (fun c_h449 => ?_)
      · have h450 := eq_iv rfl li_0 c_h449
        unfold fX12_record_88
        unfold fX12_record_89
        refine Sf.it (by decide) ?_
        unfold fX12_record_102
        have h451 : ((2 : Int32)).toInt = 2 := li_2
        refine Sf.b (s_fX12_throwsIf fu hfu (1 : Int32) (2 : Int32) S_28 I_S_28 (by omega) (by omega)) (fun S_103 r_103 p_r_103 => ?_)
        obtain ⟨I_S_103, G_S_103, p_r_103⟩ := p_r_103
        have F_S_103 := Fr.tr F_S_28 G_S_103 rfl
        have RD_S_103 := RD_fr (U := S_103) RD_S_28 (G_S_103 63 20 rfl) (fun b => G_S_103 76 b rfl) (fun b => G_S_103 77 b rfl)
        have h452 := ti_eq (G_S_103 63 5 rfl)
        have h453 := ti_eq (G_S_103 63 14 rfl)
        have h454 := ti_eq (G_S_103 63 20 rfl)
        have h455 : (S_103.1 72 ((x1).toNatClampNeg)).toInt = (S_28.1 72 ((x1).toNatClampNeg)).toInt := ti_eq (G_S_103 72 ((x1).toNatClampNeg) rfl)
        have h456 := i32 r_103
        refine Sf.i (fun c_h457 => ?_) (fun c_h457 => ?_)
        · have h458 := eq_iv rfl li_0 c_h457
          have h459 := b_63_20 I_S_103
          refine Sf.i (fun c_h460 => ?_) (fun c_h460 => ?_)
          · have h461 := eq_iv rfl li_150 c_h460
            have h462 := i32 x3
            have h463 := i32 x4
            have h464 := i32 x5
            refine Sf.mono (s_fX12_record_125 fu hfu x1 x2 x3 x4 x5 (1 : Int32) S_103 I_S_103 RD_S_103 (by omega) (by omega) (by omega) (by omega) (by omega) (by omega) (by omega) (by omega)) (fun U r p_h465 => ?_)
            obtain ⟨I_U, G_U, p_h465, RD_U⟩ := p_h465
            have h466 := ti_eq (G_U 63 5 rfl)
            have h467 := ti_eq (G_U 63 14 rfl)
            exact ⟨I_U, Fr.tr F_S_103 G_U rfl, trivial, RD_U⟩
          · have h468 := neq_iv rfl li_150 c_h460
            have h469 := i32 x3
            have h470 := i32 x4
            have h471 := i32 x5
            have h472 : ((0 : Int32)).toInt = 0 := li_0
            refine Sf.mono (s_fX12_record_125 fu hfu x1 x2 x3 x4 x5 (0 : Int32) S_103 I_S_103 RD_S_103 (by omega) (by omega) (by omega) (by omega) (by omega) (by omega) (by omega) (by omega)) (fun U r p_h473 => ?_)
            obtain ⟨I_U, G_U, p_h473, RD_U⟩ := p_h473
            have h474 := ti_eq (G_U 63 5 rfl)
            have h475 := ti_eq (G_U 63 14 rfl)
            exact ⟨I_U, Fr.tr F_S_103 G_U rfl, trivial, RD_U⟩
        · have h476 := neq_iv rfl li_0 c_h457
          exact Sf.so ⟨I_S_103, F_S_103, trivial, RD_S_103⟩
      · have h477 := neq_iv rfl li_0 c_h449
        have h478 := i32 x3
        refine Sf.bp (s_fX12_isType fu hfu x3 S_28 I_S_28) (fun r_51 p_r_51 => ?_)
        have h479 := i32 r_51
        refine Sf.i (fun c_h480 => ?_) (fun c_h480 => ?_)
        · have h481 := eq_iv rfl li_0 c_h480
          unfold fX12_record_88
          unfold fX12_record_89
          refine Sf.it (by decide) ?_
          unfold fX12_record_102
          have h482 : ((2 : Int32)).toInt = 2 := li_2
          refine Sf.b (s_fX12_throwsIf fu hfu (1 : Int32) (2 : Int32) S_28 I_S_28 (by omega) (by omega)) (fun S_103 r_103 p_r_103 => ?_)
          obtain ⟨I_S_103, G_S_103, p_r_103⟩ := p_r_103
          have F_S_103 := Fr.tr F_S_28 G_S_103 rfl
          have RD_S_103 := RD_fr (U := S_103) RD_S_28 (G_S_103 63 20 rfl) (fun b => G_S_103 76 b rfl) (fun b => G_S_103 77 b rfl)
          have h483 := ti_eq (G_S_103 63 5 rfl)
          have h484 := ti_eq (G_S_103 63 14 rfl)
          have h485 := ti_eq (G_S_103 63 20 rfl)
          have h486 : (S_103.1 72 ((x1).toNatClampNeg)).toInt = (S_28.1 72 ((x1).toNatClampNeg)).toInt := ti_eq (G_S_103 72 ((x1).toNatClampNeg) rfl)
          have h487 := i32 r_103
          refine Sf.i (fun c_h488 => ?_) (fun c_h488 => ?_)
          · have h489 := eq_iv rfl li_0 c_h488
            have h490 := b_63_20 I_S_103
            refine Sf.i (fun c_h491 => ?_) (fun c_h491 => ?_)
            · have h492 := eq_iv rfl li_150 c_h491
              have h493 := i32 x4
              have h494 := i32 x5
              refine Sf.mono (s_fX12_record_125 fu hfu x1 x2 x3 x4 x5 (1 : Int32) S_103 I_S_103 RD_S_103 (by omega) (by omega) (by omega) (by omega) (by omega) (by omega) (by omega) (by omega)) (fun U r p_h495 => ?_)
              obtain ⟨I_U, G_U, p_h495, RD_U⟩ := p_h495
              have h496 := ti_eq (G_U 63 5 rfl)
              have h497 := ti_eq (G_U 63 14 rfl)
              exact ⟨I_U, Fr.tr F_S_103 G_U rfl, trivial, RD_U⟩
            · have h498 := neq_iv rfl li_150 c_h491
              have h499 := i32 x4
              have h500 := i32 x5
              have h501 : ((0 : Int32)).toInt = 0 := li_0
              refine Sf.mono (s_fX12_record_125 fu hfu x1 x2 x3 x4 x5 (0 : Int32) S_103 I_S_103 RD_S_103 (by omega) (by omega) (by omega) (by omega) (by omega) (by omega) (by omega) (by omega)) (fun U r p_h502 => ?_)
              obtain ⟨I_U, G_U, p_h502, RD_U⟩ := p_h502
              have h503 := ti_eq (G_U 63 5 rfl)
              have h504 := ti_eq (G_U 63 14 rfl)
              exact ⟨I_U, Fr.tr F_S_103 G_U rfl, trivial, RD_U⟩
          · have h505 := neq_iv rfl li_0 c_h488
            exact Sf.so ⟨I_S_103, F_S_103, trivial, RD_S_103⟩
        · have h506 := neq_iv rfl li_0 c_h480
          have h507 := i32 x5
          refine Sf.bp (s_fX12_isLife fu hfu x5 S_28 I_S_28) (fun r_59 p_r_59 => ?_)
          have h508 := i32 r_59
          refine Sf.i (fun c_h509 => ?_) (fun c_h509 => ?_)
          · have h510 := eq_iv rfl li_0 c_h509
            unfold fX12_record_88
            unfold fX12_record_89
            refine Sf.it (by decide) ?_
            unfold fX12_record_102
            have h511 : ((2 : Int32)).toInt = 2 := li_2
            refine Sf.b (s_fX12_throwsIf fu hfu (1 : Int32) (2 : Int32) S_28 I_S_28 (by omega) (by omega)) (fun S_103 r_103 p_r_103 => ?_)
            obtain ⟨I_S_103, G_S_103, p_r_103⟩ := p_r_103
            have F_S_103 := Fr.tr F_S_28 G_S_103 rfl
            have RD_S_103 := RD_fr (U := S_103) RD_S_28 (G_S_103 63 20 rfl) (fun b => G_S_103 76 b rfl) (fun b => G_S_103 77 b rfl)
            have h512 := ti_eq (G_S_103 63 5 rfl)
            have h513 := ti_eq (G_S_103 63 14 rfl)
            have h514 := ti_eq (G_S_103 63 20 rfl)
            have h515 : (S_103.1 72 ((x1).toNatClampNeg)).toInt = (S_28.1 72 ((x1).toNatClampNeg)).toInt := ti_eq (G_S_103 72 ((x1).toNatClampNeg) rfl)
            have h516 := i32 r_103
            refine Sf.i (fun c_h517 => ?_) (fun c_h517 => ?_)
            · have h518 := eq_iv rfl li_0 c_h517
              have h519 := b_63_20 I_S_103
              refine Sf.i (fun c_h520 => ?_) (fun c_h520 => ?_)
              · have h521 := eq_iv rfl li_150 c_h520
                have h522 := i32 x4
                refine Sf.mono (s_fX12_record_125 fu hfu x1 x2 x3 x4 x5 (1 : Int32) S_103 I_S_103 RD_S_103 (by omega) (by omega) (by omega) (by omega) (by omega) (by omega) (by omega) (by omega)) (fun U r p_h523 => ?_)
                obtain ⟨I_U, G_U, p_h523, RD_U⟩ := p_h523
                have h524 := ti_eq (G_U 63 5 rfl)
                have h525 := ti_eq (G_U 63 14 rfl)
                exact ⟨I_U, Fr.tr F_S_103 G_U rfl, trivial, RD_U⟩
              · have h526 := neq_iv rfl li_150 c_h520
                have h527 := i32 x4
                have h528 : ((0 : Int32)).toInt = 0 := li_0
                refine Sf.mono (s_fX12_record_125 fu hfu x1 x2 x3 x4 x5 (0 : Int32) S_103 I_S_103 RD_S_103 (by omega) (by omega) (by omega) (by omega) (by omega) (by omega) (by omega) (by omega)) (fun U r p_h529 => ?_)
                obtain ⟨I_U, G_U, p_h529, RD_U⟩ := p_h529
                have h530 := ti_eq (G_U 63 5 rfl)
                have h531 := ti_eq (G_U 63 14 rfl)
                exact ⟨I_U, Fr.tr F_S_103 G_U rfl, trivial, RD_U⟩
            · have h532 := neq_iv rfl li_0 c_h517
              exact Sf.so ⟨I_S_103, F_S_103, trivial, RD_S_103⟩
          · have h533 := neq_iv rfl li_0 c_h509
            refine Sf.i (fun c_h534 => ?_) (fun c_h534 => ?_)
            · have h535 := eq_iv rfl li_2 c_h534
              unfold fX12_record_75
              have h536 := i32 x4
              have h537 := b_63_5 I_S_28
              refine Sf.bp (s_fX12_noName fu hfu x4 S_28 I_S_28) (fun r_78 p_r_78 => ?_)
              have h538 := i32 r_78
              refine Sf.i (fun c_h539 => ?_) (fun c_h539 => ?_)
              · have h540 := eq_iv rfl li_0 c_h539
                unfold fX12_record_84
                unfold fX12_record_89
                refine Sf.ie (by decide) ?_
                unfold fX12_record_102
                have h541 : ((0 : Int32)).toInt = 0 := li_0
                have h542 : ((2 : Int32)).toInt = 2 := li_2
                refine Sf.b (s_fX12_throwsIf fu hfu (0 : Int32) (2 : Int32) S_28 I_S_28 (by omega) (by omega)) (fun S_103 r_103 p_r_103 => ?_)
                obtain ⟨I_S_103, G_S_103, p_r_103⟩ := p_r_103
                have F_S_103 := Fr.tr F_S_28 G_S_103 rfl
                have RD_S_103 := RD_fr (U := S_103) RD_S_28 (G_S_103 63 20 rfl) (fun b => G_S_103 76 b rfl) (fun b => G_S_103 77 b rfl)
                have h543 := ti_eq (G_S_103 63 5 rfl)
                have h544 := ti_eq (G_S_103 63 14 rfl)
                have h545 := ti_eq (G_S_103 63 20 rfl)
                have h546 : (S_103.1 72 ((x1).toNatClampNeg)).toInt = (S_28.1 72 ((x1).toNatClampNeg)).toInt := ti_eq (G_S_103 72 ((x1).toNatClampNeg) rfl)
                have h547 := i32 r_103
                refine Sf.i (fun c_h548 => ?_) (fun c_h548 => ?_)
                · have h549 := eq_iv rfl li_0 c_h548
                  have h550 := b_63_20 I_S_103
                  refine Sf.i (fun c_h551 => ?_) (fun c_h551 => ?_)
                  · have h552 := eq_iv rfl li_150 c_h551
                    refine Sf.mono (s_fX12_record_125 fu hfu x1 x2 x3 x4 x5 (1 : Int32) S_103 I_S_103 RD_S_103 (by omega) (by omega) (by omega) (by omega) (by omega) (by omega) (by omega) (by omega)) (fun U r p_h553 => ?_)
                    obtain ⟨I_U, G_U, p_h553, RD_U⟩ := p_h553
                    have h554 := ti_eq (G_U 63 5 rfl)
                    have h555 := ti_eq (G_U 63 14 rfl)
                    exact ⟨I_U, Fr.tr F_S_103 G_U rfl, trivial, RD_U⟩
                  · have h556 := neq_iv rfl li_150 c_h551
                    refine Sf.mono (s_fX12_record_125 fu hfu x1 x2 x3 x4 x5 (0 : Int32) S_103 I_S_103 RD_S_103 (by omega) (by omega) (by omega) (by omega) (by omega) (by omega) (by omega) (by omega)) (fun U r p_h557 => ?_)
                    obtain ⟨I_U, G_U, p_h557, RD_U⟩ := p_h557
                    have h558 := ti_eq (G_U 63 5 rfl)
                    have h559 := ti_eq (G_U 63 14 rfl)
                    exact ⟨I_U, Fr.tr F_S_103 G_U rfl, trivial, RD_U⟩
                · have h560 := neq_iv rfl li_0 c_h548
                  exact Sf.so ⟨I_S_103, F_S_103, trivial, RD_S_103⟩
              · have h561 := neq_iv rfl li_0 c_h539
                unfold fX12_record_88
                unfold fX12_record_89
                refine Sf.it (by decide) ?_
                unfold fX12_record_102
                have h562 : ((2 : Int32)).toInt = 2 := li_2
                refine Sf.b (s_fX12_throwsIf fu hfu (1 : Int32) (2 : Int32) S_28 I_S_28 (by omega) (by omega)) (fun S_103 r_103 p_r_103 => ?_)
                obtain ⟨I_S_103, G_S_103, p_r_103⟩ := p_r_103
                have F_S_103 := Fr.tr F_S_28 G_S_103 rfl
                have RD_S_103 := RD_fr (U := S_103) RD_S_28 (G_S_103 63 20 rfl) (fun b => G_S_103 76 b rfl) (fun b => G_S_103 77 b rfl)
                have h563 := ti_eq (G_S_103 63 5 rfl)
                have h564 := ti_eq (G_S_103 63 14 rfl)
                have h565 := ti_eq (G_S_103 63 20 rfl)
                have h566 : (S_103.1 72 ((x1).toNatClampNeg)).toInt = (S_28.1 72 ((x1).toNatClampNeg)).toInt := ti_eq (G_S_103 72 ((x1).toNatClampNeg) rfl)
                have h567 := i32 r_103
                refine Sf.i (fun c_h568 => ?_) (fun c_h568 => ?_)
                · have h569 := eq_iv rfl li_0 c_h568
                  have h570 := b_63_20 I_S_103
                  refine Sf.i (fun c_h571 => ?_) (fun c_h571 => ?_)
                  · have h572 := eq_iv rfl li_150 c_h571
                    refine Sf.mono (s_fX12_record_125 fu hfu x1 x2 x3 x4 x5 (1 : Int32) S_103 I_S_103 RD_S_103 (by omega) (by omega) (by omega) (by omega) (by omega) (by omega) (by omega) (by omega)) (fun U r p_h573 => ?_)
                    obtain ⟨I_U, G_U, p_h573, RD_U⟩ := p_h573
                    have h574 := ti_eq (G_U 63 5 rfl)
                    have h575 := ti_eq (G_U 63 14 rfl)
                    exact ⟨I_U, Fr.tr F_S_103 G_U rfl, trivial, RD_U⟩
                  · have h576 := neq_iv rfl li_150 c_h571
                    have h577 : ((0 : Int32)).toInt = 0 := li_0
                    refine Sf.mono (s_fX12_record_125 fu hfu x1 x2 x3 x4 x5 (0 : Int32) S_103 I_S_103 RD_S_103 (by omega) (by omega) (by omega) (by omega) (by omega) (by omega) (by omega) (by omega)) (fun U r p_h578 => ?_)
                    obtain ⟨I_U, G_U, p_h578, RD_U⟩ := p_h578
                    have h579 := ti_eq (G_U 63 5 rfl)
                    have h580 := ti_eq (G_U 63 14 rfl)
                    exact ⟨I_U, Fr.tr F_S_103 G_U rfl, trivial, RD_U⟩
                · have h581 := neq_iv rfl li_0 c_h568
                  exact Sf.so ⟨I_S_103, F_S_103, trivial, RD_S_103⟩
            · have h582 := neq_iv rfl li_2 c_h534
              refine Sf.i (fun c_h583 => ?_) (fun c_h583 => ?_)
              · have h584 := eq_iv rfl li_5 c_h583
                unfold fX12_record_75
                have h585 := i32 x4
                have h586 := b_63_5 I_S_28
                refine Sf.bp (s_fX12_noName fu hfu x4 S_28 I_S_28) (fun r_78 p_r_78 => ?_)
                have h587 := i32 r_78
                refine Sf.i (fun c_h588 => ?_) (fun c_h588 => ?_)
                · have h589 := eq_iv rfl li_0 c_h588
                  unfold fX12_record_84
                  unfold fX12_record_89
                  refine Sf.ie (by decide) ?_
                  unfold fX12_record_102
                  have h590 : ((0 : Int32)).toInt = 0 := li_0
                  have h591 : ((2 : Int32)).toInt = 2 := li_2
                  refine Sf.b (s_fX12_throwsIf fu hfu (0 : Int32) (2 : Int32) S_28 I_S_28 (by omega) (by omega)) (fun S_103 r_103 p_r_103 => ?_)
                  obtain ⟨I_S_103, G_S_103, p_r_103⟩ := p_r_103
                  have F_S_103 := Fr.tr F_S_28 G_S_103 rfl
                  have RD_S_103 := RD_fr (U := S_103) RD_S_28 (G_S_103 63 20 rfl) (fun b => G_S_103 76 b rfl) (fun b => G_S_103 77 b rfl)
                  have h592 := ti_eq (G_S_103 63 5 rfl)
                  have h593 := ti_eq (G_S_103 63 14 rfl)
                  have h594 := ti_eq (G_S_103 63 20 rfl)
                  have h595 : (S_103.1 72 ((x1).toNatClampNeg)).toInt = (S_28.1 72 ((x1).toNatClampNeg)).toInt := ti_eq (G_S_103 72 ((x1).toNatClampNeg) rfl)
                  have h596 := i32 r_103
                  refine Sf.i (fun c_h597 => ?_) (fun c_h597 => ?_)
                  · have h598 := eq_iv rfl li_0 c_h597
                    have h599 := b_63_20 I_S_103
                    refine Sf.i (fun c_h600 => ?_) (fun c_h600 => ?_)
                    · have h601 := eq_iv rfl li_150 c_h600
                      refine Sf.mono (s_fX12_record_125 fu hfu x1 x2 x3 x4 x5 (1 : Int32) S_103 I_S_103 RD_S_103 (by omega) (by omega) (by omega) (by omega) (by omega) (by omega) (by omega) (by omega)) (fun U r p_h602 => ?_)
                      obtain ⟨I_U, G_U, p_h602, RD_U⟩ := p_h602
                      have h603 := ti_eq (G_U 63 5 rfl)
                      have h604 := ti_eq (G_U 63 14 rfl)
                      exact ⟨I_U, Fr.tr F_S_103 G_U rfl, trivial, RD_U⟩
                    · have h605 := neq_iv rfl li_150 c_h600
                      refine Sf.mono (s_fX12_record_125 fu hfu x1 x2 x3 x4 x5 (0 : Int32) S_103 I_S_103 RD_S_103 (by omega) (by omega) (by omega) (by omega) (by omega) (by omega) (by omega) (by omega)) (fun U r p_h606 => ?_)
                      obtain ⟨I_U, G_U, p_h606, RD_U⟩ := p_h606
                      have h607 := ti_eq (G_U 63 5 rfl)
                      have h608 := ti_eq (G_U 63 14 rfl)
                      exact ⟨I_U, Fr.tr F_S_103 G_U rfl, trivial, RD_U⟩
                  · have h609 := neq_iv rfl li_0 c_h597
                    exact Sf.so ⟨I_S_103, F_S_103, trivial, RD_S_103⟩
                · have h610 := neq_iv rfl li_0 c_h588
                  unfold fX12_record_88
                  unfold fX12_record_89
                  refine Sf.it (by decide) ?_
                  unfold fX12_record_102
                  have h611 : ((2 : Int32)).toInt = 2 := li_2
                  refine Sf.b (s_fX12_throwsIf fu hfu (1 : Int32) (2 : Int32) S_28 I_S_28 (by omega) (by omega)) (fun S_103 r_103 p_r_103 => ?_)
                  obtain ⟨I_S_103, G_S_103, p_r_103⟩ := p_r_103
                  have F_S_103 := Fr.tr F_S_28 G_S_103 rfl
                  have RD_S_103 := RD_fr (U := S_103) RD_S_28 (G_S_103 63 20 rfl) (fun b => G_S_103 76 b rfl) (fun b => G_S_103 77 b rfl)
                  have h612 := ti_eq (G_S_103 63 5 rfl)
                  have h613 := ti_eq (G_S_103 63 14 rfl)
                  have h614 := ti_eq (G_S_103 63 20 rfl)
                  have h615 : (S_103.1 72 ((x1).toNatClampNeg)).toInt = (S_28.1 72 ((x1).toNatClampNeg)).toInt := ti_eq (G_S_103 72 ((x1).toNatClampNeg) rfl)
                  have h616 := i32 r_103
                  refine Sf.i (fun c_h617 => ?_) (fun c_h617 => ?_)
                  · have h618 := eq_iv rfl li_0 c_h617
                    have h619 := b_63_20 I_S_103
                    refine Sf.i (fun c_h620 => ?_) (fun c_h620 => ?_)
                    · have h621 := eq_iv rfl li_150 c_h620
                      refine Sf.mono (s_fX12_record_125 fu hfu x1 x2 x3 x4 x5 (1 : Int32) S_103 I_S_103 RD_S_103 (by omega) (by omega) (by omega) (by omega) (by omega) (by omega) (by omega) (by omega)) (fun U r p_h622 => ?_)
                      obtain ⟨I_U, G_U, p_h622, RD_U⟩ := p_h622
                      have h623 := ti_eq (G_U 63 5 rfl)
                      have h624 := ti_eq (G_U 63 14 rfl)
                      exact ⟨I_U, Fr.tr F_S_103 G_U rfl, trivial, RD_U⟩
                    · have h625 := neq_iv rfl li_150 c_h620
                      have h626 : ((0 : Int32)).toInt = 0 := li_0
                      refine Sf.mono (s_fX12_record_125 fu hfu x1 x2 x3 x4 x5 (0 : Int32) S_103 I_S_103 RD_S_103 (by omega) (by omega) (by omega) (by omega) (by omega) (by omega) (by omega) (by omega)) (fun U r p_h627 => ?_)
                      obtain ⟨I_U, G_U, p_h627, RD_U⟩ := p_h627
                      have h628 := ti_eq (G_U 63 5 rfl)
                      have h629 := ti_eq (G_U 63 14 rfl)
                      exact ⟨I_U, Fr.tr F_S_103 G_U rfl, trivial, RD_U⟩
                  · have h630 := neq_iv rfl li_0 c_h617
                    exact Sf.so ⟨I_S_103, F_S_103, trivial, RD_S_103⟩
              · have h631 := neq_iv rfl li_5 c_h583
                unfold fX12_record_84
                unfold fX12_record_89
                refine Sf.ie (by decide) ?_
                unfold fX12_record_102
                have h632 : ((0 : Int32)).toInt = 0 := li_0
                have h633 : ((2 : Int32)).toInt = 2 := li_2
                refine Sf.b (s_fX12_throwsIf fu hfu (0 : Int32) (2 : Int32) S_28 I_S_28 (by omega) (by omega)) (fun S_103 r_103 p_r_103 => ?_)
                obtain ⟨I_S_103, G_S_103, p_r_103⟩ := p_r_103
                have F_S_103 := Fr.tr F_S_28 G_S_103 rfl
                have RD_S_103 := RD_fr (U := S_103) RD_S_28 (G_S_103 63 20 rfl) (fun b => G_S_103 76 b rfl) (fun b => G_S_103 77 b rfl)
                have h634 := ti_eq (G_S_103 63 5 rfl)
                have h635 := ti_eq (G_S_103 63 14 rfl)
                have h636 := ti_eq (G_S_103 63 20 rfl)
                have h637 : (S_103.1 72 ((x1).toNatClampNeg)).toInt = (S_28.1 72 ((x1).toNatClampNeg)).toInt := ti_eq (G_S_103 72 ((x1).toNatClampNeg) rfl)
                have h638 := i32 r_103
                refine Sf.i (fun c_h639 => ?_) (fun c_h639 => ?_)
                · have h640 := eq_iv rfl li_0 c_h639
                  have h641 := b_63_20 I_S_103
                  refine Sf.i (fun c_h642 => ?_) (fun c_h642 => ?_)
                  · have h643 := eq_iv rfl li_150 c_h642
                    have h644 := i32 x4
                    refine Sf.mono (s_fX12_record_125 fu hfu x1 x2 x3 x4 x5 (1 : Int32) S_103 I_S_103 RD_S_103 (by omega) (by omega) (by omega) (by omega) (by omega) (by omega) (by omega) (by omega)) (fun U r p_h645 => ?_)
                    obtain ⟨I_U, G_U, p_h645, RD_U⟩ := p_h645
                    have h646 := ti_eq (G_U 63 5 rfl)
                    have h647 := ti_eq (G_U 63 14 rfl)
                    exact ⟨I_U, Fr.tr F_S_103 G_U rfl, trivial, RD_U⟩
                  · have h648 := neq_iv rfl li_150 c_h642
                    have h649 := i32 x4
                    refine Sf.mono (s_fX12_record_125 fu hfu x1 x2 x3 x4 x5 (0 : Int32) S_103 I_S_103 RD_S_103 (by omega) (by omega) (by omega) (by omega) (by omega) (by omega) (by omega) (by omega)) (fun U r p_h650 => ?_)
                    obtain ⟨I_U, G_U, p_h650, RD_U⟩ := p_h650
                    have h651 := ti_eq (G_U 63 5 rfl)
                    have h652 := ti_eq (G_U 63 14 rfl)
                    exact ⟨I_U, Fr.tr F_S_103 G_U rfl, trivial, RD_U⟩
                · have h653 := neq_iv rfl li_0 c_h639
                  exact Sf.so ⟨I_S_103, F_S_103, trivial, RD_S_103⟩
    · have h654 := neq_iv rfl li_0 c_h444
      exact Sf.so ⟨I_S_28, F_S_28, trivial, RD_S_28⟩
theorem s_fX12_serverOf_4 (fu : Nat) (hfu : 1000000000000000000 ≤ fu) : ∀ (n : Nat) (x1 : Int32) (x2 : Int32) (x3 : Int32) (S : St), Inv S → (0 ≤ (x3).toInt) → (-1 ≤ (x2).toInt) → ((x2).toInt < (S.1 63 23).toInt) → (12 - (x3).toInt).toNat < n → Sp (fX12_serverOf_4 fu n x1 x2 x3 S) S (fun r => (-1 ≤ r.toInt) ∧ (r.toInt < (S.1 63 23).toInt)) := by
  intro n
  induction n with
  | zero => intro x1 x2 x3 S I_S g0 g1 g2 hm; exact absurd hm (Nat.not_lt_zero _)
  | succ n ih =>
    intro x1 x2 x3 S I_S g0 g1 g2 hm
    rw [fX12_serverOf_4_s]
    have h1 := b_63_23 I_S
    have h2 := b_63_23 I_S
    have h3 := i32 x3
    refine Sp.i (fun c_h4 => ?_) (fun c_h4 => ?_)
    · have h5 := le_iv rfl rfl c_h4
      have h6 := i32 x2
      have h7 := b_63_23 I_S
      exact Sp.so (by omega)
    · have h8 := nle_iv rfl rfl c_h4
      refine Sp.g (ck_iv (by omega) (by omega)) ?_
      have h9 := i32 x1
      refine Sp.i (fun c_h10 => ?_) (fun c_h10 => ?_)
      · have h11 := eq_iv rfl rfl c_h10
        unfold fX12_serverOf_24
        try have h12 : ((x3 + (1 : Int32))).toInt = (x3).toInt + (1) := add_iv rfl li_1 (by omega) (by omega)
        refine Sp.mono (ih x1 x3 (x3 + (1 : Int32)) S I_S (by omega) (by omega) (by omega) (by omega)) (fun r p_h13 => ?_)
        exact by omega
      · have h14 := neq_iv rfl rfl c_h10
        unfold fX12_serverOf_24
        have h15 := i32 x2
        try have h16 : ((x3 + (1 : Int32))).toInt = (x3).toInt + (1) := add_iv rfl li_1 (by omega) (by omega)
        refine Sp.mono (ih x1 x2 (x3 + (1 : Int32)) S I_S (by omega) (by omega) (by omega) (by omega)) (fun r p_h17 => ?_)
        exact by omega
theorem s_fX12_serverOf (fu : Nat) (hfu : 1000000000000000000 ≤ fu) (x1 : Int32) (S : St) (I_S : Inv S) : Sp (fX12_serverOf fu x1 S) S (fun r => (-1 ≤ r.toInt) ∧ (r.toInt < (S.1 63 23).toInt)) := by
  unfold fX12_serverOf
  have h1 := i32 x1
  have h2 : ((-1 : Int32)).toInt = -1 := li_m1
  have h3 : ((0 : Int32)).toInt = 0 := li_0
  have h4 := b_63_23 I_S
  refine Sp.mono (s_fX12_serverOf_4 fu hfu fu x1 (-1 : Int32) (0 : Int32) S I_S (by omega) (by omega) (by omega) (by omega)) (fun r p_h5 => ?_)
  exact by omega
theorem s_fX12_server (fu : Nat) (hfu : 1000000000000000000 ≤ fu) (x1 : Int32) (S : St) (I_S : Inv S) : Sf (fX12_server fu x1 S) (fun U r => Inv U ∧ Fr [(63, 1), (63, 24), (79, 0)] S U ∧ (True)) := by
  unfold fX12_server
  have F_S : Fr [(63, 1), (63, 24), (79, 0)] S S := Fr.refl _ _
  refine Sf.w I_S F_S rfl (i32 _).1 (i32 _).2 (fun S_2 I_S_2 F_S_2 v_S_2 f_S_2 l_S_2 => ?_)
  have h1 := ti_eq (f_S_2 63 23 (fun _ e => absurd e (by decide)))
  have h2 := i32 x1
  have h3 := b_63_23 I_S_2
  refine Sf.bp (s_fX12_serverOf fu hfu x1 S_2 I_S_2) (fun r_8 p_r_8 => ?_)
  have h4 := i32 r_8
  refine Sf.i (fun c_h5 => ?_) (fun c_h5 => ?_)
  · have h6 := lt_iv rfl li_0 c_h5
    unfold fX12_server_19
    have h7 : ((0 : Int32)).toInt = 0 := li_0
    have h8 : ((1 : Int32)).toInt = 1 := li_1
    refine Sf.b (s_fX12_throwsIf fu hfu (0 : Int32) (1 : Int32) S_2 I_S_2 (by omega) (by omega)) (fun S_20 r_20 p_r_20 => ?_)
    obtain ⟨I_S_20, G_S_20, p_r_20⟩ := p_r_20
    have F_S_20 := Fr.tr F_S_2 G_S_20 rfl
    have h9 := ti_eq (G_S_20 63 23 rfl)
    have h10 := i32 r_20
    refine Sf.i (fun c_h11 => ?_) (fun c_h11 => ?_)
    · have h12 := eq_iv rfl li_0 c_h11
      have h13 := b_63_23 I_S_20
      refine Sf.i (fun c_h14 => ?_) (fun c_h14 => ?_)
      · have h15 := eq_iv rfl li_12 c_h14
        unfold fX12_server_41
        have h16 : ((2 : Int32)).toInt = 2 := li_2
        refine Sf.b (s_fX12_throwsIf fu hfu (1 : Int32) (2 : Int32) S_20 I_S_20 (by omega) (by omega)) (fun S_42 r_42 p_r_42 => ?_)
        obtain ⟨I_S_42, G_S_42, p_r_42⟩ := p_r_42
        have F_S_42 := Fr.tr F_S_20 G_S_42 rfl
        have h17 := ti_eq (G_S_42 63 23 rfl)
        have h18 := i32 r_42
        refine Sf.i (fun c_h19 => ?_) (fun c_h19 => ?_)
        · have h20 := eq_iv rfl li_0 c_h19
          have h21 := b_63_23 I_S_42
          refine Sf.g (ck_iv (by omega) (by omega)) ?_
          refine Sf.w I_S_42 F_S_42 rfl (i32 _).1 (i32 _).2 (fun S_59 I_S_59 F_S_59 v_S_59 f_S_59 l_S_59 => ?_)
          have h22 := ti_eq (f_S_59 63 23 (fun e => absurd e (by decide)))
          have h23 : (S_59.1 79 (((S_42.1 63 23)).toNatClampNeg)).toInt = (x1).toInt := eq_iv rfl rfl v_S_59
          have h24 : (S_59.1 79 (((S_59.1 63 23)).toNatClampNeg)).toInt = (x1).toInt := by rw [f_S_59 63 23 (fun e => absurd e (by decide))]; exact eq_iv rfl rfl v_S_59
          have h25 := b_63_23 I_S_59
          try have h26 : (((S_59.1 63 23) + (1 : Int32))).toInt = ((S_59.1 63 23)).toInt + (1) := add_iv rfl li_1 (by omega) (by omega)
          refine Sf.w I_S_59 F_S_59 rfl (show ((0) : Int) ≤ (((S_59.1 63 23) + (1 : Int32))).toInt by omega) (show (((S_59.1 63 23) + (1 : Int32))).toInt ≤ (12 : Int) by omega) (fun S_67 I_S_67 F_S_67 v_S_67 f_S_67 l_S_67 => ?_)
          have h27 := eq_iv rfl rfl v_S_67
          have h28 : (S_67.1 79 (((S_42.1 63 23)).toNatClampNeg)).toInt = (S_59.1 79 (((S_42.1 63 23)).toNatClampNeg)).toInt := ti_eq (f_S_67 79 (((S_42.1 63 23)).toNatClampNeg) (fun e => absurd e (by decide)))
          have h29 : (S_67.1 79 (((S_59.1 63 23)).toNatClampNeg)).toInt = (S_59.1 79 (((S_59.1 63 23)).toNatClampNeg)).toInt := ti_eq (f_S_67 79 (((S_59.1 63 23)).toNatClampNeg) (fun e => absurd e (by decide)))
          exact Sf.so ⟨I_S_67, F_S_67, trivial⟩
        · have h30 := neq_iv rfl li_0 c_h19
          exact Sf.so ⟨I_S_42, F_S_42, trivial⟩
      · have h31 := neq_iv rfl li_12 c_h14
        unfold fX12_server_41
        have h32 : ((2 : Int32)).toInt = 2 := li_2
        refine Sf.b (s_fX12_throwsIf fu hfu (0 : Int32) (2 : Int32) S_20 I_S_20 (by omega) (by omega)) (fun S_42 r_42 p_r_42 => ?_)
        obtain ⟨I_S_42, G_S_42, p_r_42⟩ := p_r_42
        have F_S_42 := Fr.tr F_S_20 G_S_42 rfl
        have h33 := ti_eq (G_S_42 63 23 rfl)
        have h34 := i32 r_42
        refine Sf.i (fun c_h35 => ?_) (fun c_h35 => ?_)
        · have h36 := eq_iv rfl li_0 c_h35
          have h37 := b_63_23 I_S_42
          refine Sf.g (ck_iv (by omega) (by omega)) ?_
          refine Sf.w I_S_42 F_S_42 rfl (i32 _).1 (i32 _).2 (fun S_59 I_S_59 F_S_59 v_S_59 f_S_59 l_S_59 => ?_)
          have h38 := ti_eq (f_S_59 63 23 (fun e => absurd e (by decide)))
          have h39 : (S_59.1 79 (((S_42.1 63 23)).toNatClampNeg)).toInt = (x1).toInt := eq_iv rfl rfl v_S_59
          have h40 : (S_59.1 79 (((S_59.1 63 23)).toNatClampNeg)).toInt = (x1).toInt := by rw [f_S_59 63 23 (fun e => absurd e (by decide))]; exact eq_iv rfl rfl v_S_59
          have h41 := b_63_23 I_S_59
          try have h42 : (((S_59.1 63 23) + (1 : Int32))).toInt = ((S_59.1 63 23)).toInt + (1) := add_iv rfl li_1 (by omega) (by omega)
          refine Sf.w I_S_59 F_S_59 rfl (show ((0) : Int) ≤ (((S_59.1 63 23) + (1 : Int32))).toInt by omega) (show (((S_59.1 63 23) + (1 : Int32))).toInt ≤ (12 : Int) by omega) (fun S_67 I_S_67 F_S_67 v_S_67 f_S_67 l_S_67 => ?_)
          have h43 := eq_iv rfl rfl v_S_67
          have h44 : (S_67.1 79 (((S_42.1 63 23)).toNatClampNeg)).toInt = (S_59.1 79 (((S_42.1 63 23)).toNatClampNeg)).toInt := ti_eq (f_S_67 79 (((S_42.1 63 23)).toNatClampNeg) (fun e => absurd e (by decide)))
          have h45 : (S_67.1 79 (((S_59.1 63 23)).toNatClampNeg)).toInt = (S_59.1 79 (((S_59.1 63 23)).toNatClampNeg)).toInt := ti_eq (f_S_67 79 (((S_59.1 63 23)).toNatClampNeg) (fun e => absurd e (by decide)))
          exact Sf.so ⟨I_S_67, F_S_67, trivial⟩
        · have h46 := neq_iv rfl li_0 c_h35
          exact Sf.so ⟨I_S_42, F_S_42, trivial⟩
    · have h47 := neq_iv rfl li_0 c_h11
      exact Sf.so ⟨I_S_20, F_S_20, trivial⟩
  · have h48 := nlt_iv rfl li_0 c_h5
    unfold fX12_server_19
    have h49 : ((1 : Int32)).toInt = 1 := li_1
    refine Sf.b (s_fX12_throwsIf fu hfu (1 : Int32) (1 : Int32) S_2 I_S_2 (by omega) (by omega)) (fun S_20 r_20 p_r_20 => ?_)
    obtain ⟨I_S_20, G_S_20, p_r_20⟩ := p_r_20
    have F_S_20 := Fr.tr F_S_2 G_S_20 rfl
    have h50 := ti_eq (G_S_20 63 23 rfl)
    have h51 := i32 r_20
    refine Sf.i (fun c_h52 => ?_) (fun c_h52 => ?_)
    · have h53 := eq_iv rfl li_0 c_h52
      have h54 := b_63_23 I_S_20
      refine Sf.i (fun c_h55 => ?_) (fun c_h55 => ?_)
      · have h56 := eq_iv rfl li_12 c_h55
        unfold fX12_server_41
        have h57 : ((2 : Int32)).toInt = 2 := li_2
        refine Sf.b (s_fX12_throwsIf fu hfu (1 : Int32) (2 : Int32) S_20 I_S_20 (by omega) (by omega)) (fun S_42 r_42 p_r_42 => ?_)
        obtain ⟨I_S_42, G_S_42, p_r_42⟩ := p_r_42
        have F_S_42 := Fr.tr F_S_20 G_S_42 rfl
        have h58 := ti_eq (G_S_42 63 23 rfl)
        have h59 := i32 r_42
        refine Sf.i (fun c_h60 => ?_) (fun c_h60 => ?_)
        · have h61 := eq_iv rfl li_0 c_h60
          have h62 := b_63_23 I_S_42
          refine Sf.g (ck_iv (by omega) (by omega)) ?_
          refine Sf.w I_S_42 F_S_42 rfl (i32 _).1 (i32 _).2 (fun S_59 I_S_59 F_S_59 v_S_59 f_S_59 l_S_59 => ?_)
          have h63 := ti_eq (f_S_59 63 23 (fun e => absurd e (by decide)))
          have h64 : (S_59.1 79 (((S_42.1 63 23)).toNatClampNeg)).toInt = (x1).toInt := eq_iv rfl rfl v_S_59
          have h65 : (S_59.1 79 (((S_59.1 63 23)).toNatClampNeg)).toInt = (x1).toInt := by rw [f_S_59 63 23 (fun e => absurd e (by decide))]; exact eq_iv rfl rfl v_S_59
          have h66 := b_63_23 I_S_59
          try have h67 : (((S_59.1 63 23) + (1 : Int32))).toInt = ((S_59.1 63 23)).toInt + (1) := add_iv rfl li_1 (by omega) (by omega)
          refine Sf.w I_S_59 F_S_59 rfl (show ((0) : Int) ≤ (((S_59.1 63 23) + (1 : Int32))).toInt by omega) (show (((S_59.1 63 23) + (1 : Int32))).toInt ≤ (12 : Int) by omega) (fun S_67 I_S_67 F_S_67 v_S_67 f_S_67 l_S_67 => ?_)
          have h68 := eq_iv rfl rfl v_S_67
          have h69 : (S_67.1 79 (((S_42.1 63 23)).toNatClampNeg)).toInt = (S_59.1 79 (((S_42.1 63 23)).toNatClampNeg)).toInt := ti_eq (f_S_67 79 (((S_42.1 63 23)).toNatClampNeg) (fun e => absurd e (by decide)))
          have h70 : (S_67.1 79 (((S_59.1 63 23)).toNatClampNeg)).toInt = (S_59.1 79 (((S_59.1 63 23)).toNatClampNeg)).toInt := ti_eq (f_S_67 79 (((S_59.1 63 23)).toNatClampNeg) (fun e => absurd e (by decide)))
          exact Sf.so ⟨I_S_67, F_S_67, trivial⟩
        · have h71 := neq_iv rfl li_0 c_h60
          exact Sf.so ⟨I_S_42, F_S_42, trivial⟩
      · have h72 := neq_iv rfl li_12 c_h55
        unfold fX12_server_41
        have h73 : ((0 : Int32)).toInt = 0 := li_0
        have h74 : ((2 : Int32)).toInt = 2 := li_2
        refine Sf.b (s_fX12_throwsIf fu hfu (0 : Int32) (2 : Int32) S_20 I_S_20 (by omega) (by omega)) (fun S_42 r_42 p_r_42 => ?_)
        obtain ⟨I_S_42, G_S_42, p_r_42⟩ := p_r_42
        have F_S_42 := Fr.tr F_S_20 G_S_42 rfl
        have h75 := ti_eq (G_S_42 63 23 rfl)
        have h76 := i32 r_42
        refine Sf.i (fun c_h77 => ?_) (fun c_h77 => ?_)
        · have h78 := eq_iv rfl li_0 c_h77
          have h79 := b_63_23 I_S_42
          refine Sf.g (ck_iv (by omega) (by omega)) ?_
          refine Sf.w I_S_42 F_S_42 rfl (i32 _).1 (i32 _).2 (fun S_59 I_S_59 F_S_59 v_S_59 f_S_59 l_S_59 => ?_)
          have h80 := ti_eq (f_S_59 63 23 (fun e => absurd e (by decide)))
          have h81 : (S_59.1 79 (((S_42.1 63 23)).toNatClampNeg)).toInt = (x1).toInt := eq_iv rfl rfl v_S_59
          have h82 : (S_59.1 79 (((S_59.1 63 23)).toNatClampNeg)).toInt = (x1).toInt := by rw [f_S_59 63 23 (fun e => absurd e (by decide))]; exact eq_iv rfl rfl v_S_59
          have h83 := b_63_23 I_S_59
          try have h84 : (((S_59.1 63 23) + (1 : Int32))).toInt = ((S_59.1 63 23)).toInt + (1) := add_iv rfl li_1 (by omega) (by omega)
          refine Sf.w I_S_59 F_S_59 rfl (show ((0) : Int) ≤ (((S_59.1 63 23) + (1 : Int32))).toInt by omega) (show (((S_59.1 63 23) + (1 : Int32))).toInt ≤ (12 : Int) by omega) (fun S_67 I_S_67 F_S_67 v_S_67 f_S_67 l_S_67 => ?_)
          have h85 := eq_iv rfl rfl v_S_67
          have h86 : (S_67.1 79 (((S_42.1 63 23)).toNatClampNeg)).toInt = (S_59.1 79 (((S_42.1 63 23)).toNatClampNeg)).toInt := ti_eq (f_S_67 79 (((S_42.1 63 23)).toNatClampNeg) (fun e => absurd e (by decide)))
          have h87 : (S_67.1 79 (((S_59.1 63 23)).toNatClampNeg)).toInt = (S_59.1 79 (((S_59.1 63 23)).toNatClampNeg)).toInt := ti_eq (f_S_67 79 (((S_59.1 63 23)).toNatClampNeg) (fun e => absurd e (by decide)))
          exact Sf.so ⟨I_S_67, F_S_67, trivial⟩
        · have h88 := neq_iv rfl li_0 c_h77
          exact Sf.so ⟨I_S_42, F_S_42, trivial⟩
    · have h89 := neq_iv rfl li_0 c_h52
      exact Sf.so ⟨I_S_20, F_S_20, trivial⟩
