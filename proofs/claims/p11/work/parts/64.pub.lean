theorem s_fX12_goes (fu : Nat) (hfu : 1000000000000000000 ≤ fu) (S : St) (I_S : Inv S) (RK_S : RK S) (TQ_S : TQ S) (g0 : ((S.1 63 63).toInt = 4 → 1 ≤ (S.1 63 62).toInt)) : Sf (fX12_goes fu S) (fun U r => Inv U ∧ Fr [(63, 63), (63, 64), (63, 65), (63, 66), (63, 67), (63, 68), (63, 69), (63, 70), (63, 72), (97, 0), (98, 0), (99, 0), (100, 0), (101, 0), (102, 0), (103, 0), (104, 0)] S U ∧ ((0 ≤ r.toInt) ∧ (r.toInt ≤ 1)) ∧ RK U ∧ TQ U ∧ RO U) := by
  refine Sf.mono (goes_all hfu I_S RK_S TQ_S g0) (fun U r h => ?_)
  obtain ⟨a, b, c, d, e, f1, f2⟩ := h
  exact ⟨a, Fr.tr (Fr.refl _ S) b rfl, ⟨f1, f2⟩, RK_fr RK_S (b 63 50 rfl) (fun q => b 92 q rfl) (fun q => b 93 q rfl) (fun q => b 94 q rfl), c, e⟩
set_option maxHeartbeats 4000000 in
theorem s_fX12_ask (fu : Nat) (hfu : 1000000000000000000 ≤ fu) (x1 : Int32) (x2 : Int32) (S : St) (I_S : Inv S) (RK_S : RK S) (TQ_S : TQ S) (RO_S : RO S) : Sf (fX12_ask fu x1 x2 S) (fun U r => Inv U ∧ Fr [(63, 1), (63, 63), (63, 64), (63, 65), (63, 66), (63, 67), (63, 68), (63, 69), (63, 70), (63, 72), (97, 0), (98, 0), (99, 0), (100, 0), (101, 0), (102, 0), (103, 0), (104, 0)] S U ∧ (True) ∧ RK U ∧ TQ U ∧ RO U) := by
  unfold fX12_ask
  have F_S : Fr [(63, 1), (63, 63), (63, 64), (63, 65), (63, 66), (63, 67), (63, 68), (63, 69), (63, 70), (63, 72), (97, 0), (98, 0), (99, 0), (100, 0), (101, 0), (102, 0), (103, 0), (104, 0)] S S := Fr.refl _ _
  refine Sf.w I_S F_S rfl (i32 _).1 (i32 _).2 (fun S_2 I_S_2 F_S_2 v_S_2 f_S_2 l_S_2 => ?_)
  have h1 := ti_eq (f_S_2 63 5 (fun _ e => absurd e (by decide)))
  have h2 := ti_eq (f_S_2 63 62 (fun _ e => absurd e (by decide)))
  have h3 := ti_eq (f_S_2 63 63 (fun _ e => absurd e (by decide)))
  have RK_S_2 := RK_fr (U := S_2) RK_S (f_S_2 63 50 (fun _ e => absurd e (by decide))) (fun b => f_S_2 92 b (fun e => absurd e (by decide))) (fun b => f_S_2 93 b (fun e => absurd e (by decide))) (fun b => f_S_2 94 b (fun e => absurd e (by decide)))
  have RO_S_2 := RO_fr (U := S_2) RO_S (f_S_2 63 67 (fun _ e => absurd e (by decide))) (f_S_2 63 62 (fun _ e => absurd e (by decide))) (fun b => f_S_2 100 b (fun e => absurd e (by decide)))
  have TQ_S_2 := TQ_fr (U := S_2) TQ_S (f_S_2 63 62 (fun _ e => absurd e (by decide))) (f_S_2 63 65 (fun _ e => absurd e (by decide))) (fun b => f_S_2 102 b (fun e => absurd e (by decide)))
  have h4 := i32 x1
  have h5 := b_63_5 I_S_2
  refine Sf.bp (s_fX12_noName fu hfu x1 S_2 I_S_2) (fun r_8 p_r_8 => ?_)
  have h6 := i32 r_8
  have h7 : ((1 : Int32)).toInt = 1 := li_1
  refine Sf.b (s_fX12_throwsIf fu hfu r_8 (1 : Int32) S_2 I_S_2 (by omega) (by omega)) (fun S_12 r_12 p_r_12 => ?_)
  obtain ⟨I_S_12, G_S_12, p_r_12⟩ := p_r_12
  have F_S_12 := Fr.tr F_S_2 G_S_12 rfl
  have RK_S_12 := RK_fr (U := S_12) RK_S_2 (G_S_12 63 50 rfl) (fun b => G_S_12 92 b rfl) (fun b => G_S_12 93 b rfl) (fun b => G_S_12 94 b rfl)
  have RO_S_12 := RO_fr (U := S_12) RO_S_2 (G_S_12 63 67 rfl) (G_S_12 63 62 rfl) (fun b => G_S_12 100 b rfl)
  have TQ_S_12 := TQ_fr (U := S_12) TQ_S_2 (G_S_12 63 62 rfl) (G_S_12 63 65 rfl) (fun b => G_S_12 102 b rfl)
  have h8 := ti_eq (G_S_12 63 5 rfl)
  have h9 := ti_eq (G_S_12 63 62 rfl)
  have h10 := ti_eq (G_S_12 63 63 rfl)
  have h11 := i32 r_12
  refine Sf.i (fun c_h12 => ?_) (fun c_h12 => ?_)
  · have h13 := eq_iv rfl li_0 c_h12
    refine Sf.i (fun c_h14 => ?_) (fun c_h14 => ?_)
    · have h15 := eq_iv rfl li_4 c_h14
      unfold fX12_ask_32
      have h16 : ((2 : Int32)).toInt = 2 := li_2
      refine Sf.b (s_fX12_throwsIf fu hfu (1 : Int32) (2 : Int32) S_12 I_S_12 (by omega) (by omega)) (fun S_33 r_33 p_r_33 => ?_)
      obtain ⟨I_S_33, G_S_33, p_r_33⟩ := p_r_33
      have F_S_33 := Fr.tr F_S_12 G_S_33 rfl
      have RK_S_33 := RK_fr (U := S_33) RK_S_12 (G_S_33 63 50 rfl) (fun b => G_S_33 92 b rfl) (fun b => G_S_33 93 b rfl) (fun b => G_S_33 94 b rfl)
      have RO_S_33 := RO_fr (U := S_33) RO_S_12 (G_S_33 63 67 rfl) (G_S_33 63 62 rfl) (fun b => G_S_33 100 b rfl)
      have TQ_S_33 := TQ_fr (U := S_33) TQ_S_12 (G_S_33 63 62 rfl) (G_S_33 63 65 rfl) (fun b => G_S_33 102 b rfl)
      have h17 := ti_eq (G_S_33 63 5 rfl)
      have h18 := ti_eq (G_S_33 63 62 rfl)
      have h19 := ti_eq (G_S_33 63 63 rfl)
      have h20 := i32 r_33
      refine Sf.i (fun c_h21 => ?_) (fun c_h21 => ?_)
      · have h22 := eq_iv rfl li_0 c_h21
        have h23 := i32 x2
        refine Sf.bp (s_fX12_isType fu hfu x2 S_33 I_S_33) (fun r_41 p_r_41 => ?_)
        have h24 := i32 r_41
        refine Sf.i (fun c_h25 => ?_) (fun c_h25 => ?_)
        · have h26 := eq_iv rfl li_0 c_h25
          unfold fX12_ask_52
          have h27 : ((3 : Int32)).toInt = 3 := li_3
          refine Sf.b (s_fX12_throwsIf fu hfu (1 : Int32) (3 : Int32) S_33 I_S_33 (by omega) (by omega)) (fun S_53 r_53 p_r_53 => ?_)
          obtain ⟨I_S_53, G_S_53, p_r_53⟩ := p_r_53
          have F_S_53 := Fr.tr F_S_33 G_S_53 rfl
          have RK_S_53 := RK_fr (U := S_53) RK_S_33 (G_S_53 63 50 rfl) (fun b => G_S_53 92 b rfl) (fun b => G_S_53 93 b rfl) (fun b => G_S_53 94 b rfl)
          have RO_S_53 := RO_fr (U := S_53) RO_S_33 (G_S_53 63 67 rfl) (G_S_53 63 62 rfl) (fun b => G_S_53 100 b rfl)
          have TQ_S_53 := TQ_fr (U := S_53) TQ_S_33 (G_S_53 63 62 rfl) (G_S_53 63 65 rfl) (fun b => G_S_53 102 b rfl)
          have h28 := ti_eq (G_S_53 63 5 rfl)
          have h29 := ti_eq (G_S_53 63 62 rfl)
          have h30 := ti_eq (G_S_53 63 63 rfl)
          have h31 := i32 r_53
          refine Sf.i (fun c_h32 => ?_) (fun c_h32 => ?_)
          · have h33 := eq_iv rfl li_0 c_h32
            refine Sf.w I_S_53 F_S_53 rfl (show ((0) : Int) ≤ ((0 : Int32)).toInt by rw [li_0]; omega) (show ((0 : Int32)).toInt ≤ (4 : Int) by rw [li_0]; omega) (fun S_63 I_S_63 F_S_63 v_S_63 f_S_63 l_S_63 => ?_)
            have h34 := ti_eq (f_S_63 63 5 (fun _ e => absurd e (by decide)))
            have h35 := eq_iv rfl li_0 v_S_63
            have h36 := ti_eq (f_S_63 63 63 (fun _ e => absurd e (by decide)))
            have RK_S_63 := RK_fr (U := S_63) RK_S_53 (f_S_63 63 50 (fun _ e => absurd e (by decide))) (fun b => f_S_63 92 b (fun e => absurd e (by decide))) (fun b => f_S_63 93 b (fun e => absurd e (by decide))) (fun b => f_S_63 94 b (fun e => absurd e (by decide)))
            refine Sf.w I_S_63 F_S_63 rfl (show ((0) : Int) ≤ ((0 : Int32)).toInt by rw [li_0]; omega) (show ((0 : Int32)).toInt ≤ (40 : Int) by rw [li_0]; omega) (fun S_68 I_S_68 F_S_68 v_S_68 f_S_68 l_S_68 => ?_)
            have h37 := ti_eq (f_S_68 63 5 (fun _ e => absurd e (by decide)))
            have h38 := ti_eq (f_S_68 63 62 (fun _ e => absurd e (by decide)))
            have h39 := ti_eq (f_S_68 63 63 (fun _ e => absurd e (by decide)))
            have RK_S_68 := RK_fr (U := S_68) RK_S_63 (f_S_68 63 50 (fun _ e => absurd e (by decide))) (fun b => f_S_68 92 b (fun e => absurd e (by decide))) (fun b => f_S_68 93 b (fun e => absurd e (by decide))) (fun b => f_S_68 94 b (fun e => absurd e (by decide)))
            refine Sf.w I_S_68 F_S_68 rfl (show ((0) : Int) ≤ ((0 : Int32)).toInt by rw [li_0]; omega) (show ((0 : Int32)).toInt ≤ (10 : Int) by rw [li_0]; omega) (fun S_73 I_S_73 F_S_73 v_S_73 f_S_73 l_S_73 => ?_)
            have h40 := ti_eq (f_S_73 63 5 (fun _ e => absurd e (by decide)))
            have h41 := ti_eq (f_S_73 63 62 (fun _ e => absurd e (by decide)))
            have h42 := ti_eq (f_S_73 63 63 (fun _ e => absurd e (by decide)))
            have RK_S_73 := RK_fr (U := S_73) RK_S_68 (f_S_73 63 50 (fun _ e => absurd e (by decide))) (fun b => f_S_73 92 b (fun e => absurd e (by decide))) (fun b => f_S_73 93 b (fun e => absurd e (by decide))) (fun b => f_S_73 94 b (fun e => absurd e (by decide)))
            refine Sf.w I_S_73 F_S_73 rfl (i32 _).1 (i32 _).2 (fun S_78 I_S_78 F_S_78 v_S_78 f_S_78 l_S_78 => ?_)
            have h43 := ti_eq (f_S_78 63 5 (fun _ e => absurd e (by decide)))
            have h44 := ti_eq (f_S_78 63 62 (fun _ e => absurd e (by decide)))
            have h45 := eq_iv rfl li_4 v_S_78
            have RK_S_78 := RK_fr (U := S_78) RK_S_73 (f_S_78 63 50 (fun _ e => absurd e (by decide))) (fun b => f_S_78 92 b (fun e => absurd e (by decide))) (fun b => f_S_78 93 b (fun e => absurd e (by decide))) (fun b => f_S_78 94 b (fun e => absurd e (by decide)))
            have TQ_S_78 : TQ S_78 := TQ_zero (by omega)
            have h46 := b_63_62 I_S_78
            refine Sf.b (s_fX12_opens fu hfu x1 x2 S_78 I_S_78 TQ_S_78 (by omega) (by omega) (by omega)) (fun S_84 r_84_ p_r_84_ => ?_)
            obtain ⟨I_S_84, G_S_84, p_r_84_, TQ_S_84, L0_S_84, OP_S_84⟩ := p_r_84_
            have F_S_84 := Fr.tr F_S_78 G_S_84 rfl
            have RK_S_84 := RK_fr (U := S_84) RK_S_78 (G_S_84 63 50 rfl) (fun b => G_S_84 92 b rfl) (fun b => G_S_84 93 b rfl) (fun b => G_S_84 94 b rfl)
            have h47 := b_63_62 I_S_84
            have h48 := ti_eq (G_S_84 63 5 rfl)
            have h49 := ti_eq (G_S_84 63 63 rfl)
            refine Sf.b (s_fX12_goes fu hfu S_84 I_S_84 RK_S_84 TQ_S_84 (by omega)) (fun S_88 r_88 p_r_88 => ?_)
            obtain ⟨I_S_88, G_S_88, p_r_88, RK_S_88, TQ_S_88, RO_S_88⟩ := p_r_88
            have F_S_88 := Fr.tr F_S_84 G_S_88 rfl
            have h50 := ti_eq (G_S_88 63 5 rfl)
            exact Sf.so ⟨I_S_88, F_S_88, trivial, RK_S_88, TQ_S_88, RO_S_88⟩
          · have h51 := neq_iv rfl li_0 c_h32
            exact Sf.so ⟨I_S_53, F_S_53, trivial, RK_S_53, TQ_S_53, RO_S_53⟩
        · have h52 := neq_iv rfl li_0 c_h25
          unfold fX12_ask_52
          have h53 : ((0 : Int32)).toInt = 0 := li_0
          have h54 : ((3 : Int32)).toInt = 3 := li_3
          refine Sf.b (s_fX12_throwsIf fu hfu (0 : Int32) (3 : Int32) S_33 I_S_33 (by omega) (by omega)) (fun S_53 r_53 p_r_53 => ?_)
          obtain ⟨I_S_53, G_S_53, p_r_53⟩ := p_r_53
          have F_S_53 := Fr.tr F_S_33 G_S_53 rfl
          have RK_S_53 := RK_fr (U := S_53) RK_S_33 (G_S_53 63 50 rfl) (fun b => G_S_53 92 b rfl) (fun b => G_S_53 93 b rfl) (fun b => G_S_53 94 b rfl)
          have RO_S_53 := RO_fr (U := S_53) RO_S_33 (G_S_53 63 67 rfl) (G_S_53 63 62 rfl) (fun b => G_S_53 100 b rfl)
          have TQ_S_53 := TQ_fr (U := S_53) TQ_S_33 (G_S_53 63 62 rfl) (G_S_53 63 65 rfl) (fun b => G_S_53 102 b rfl)
          have h55 := ti_eq (G_S_53 63 5 rfl)
          have h56 := ti_eq (G_S_53 63 62 rfl)
          have h57 := ti_eq (G_S_53 63 63 rfl)
          have h58 := i32 r_53
          refine Sf.i (fun c_h59 => ?_) (fun c_h59 => ?_)
          · have h60 := eq_iv rfl li_0 c_h59
            refine Sf.w I_S_53 F_S_53 rfl (show ((0) : Int) ≤ ((0 : Int32)).toInt by rw [li_0]; omega) (show ((0 : Int32)).toInt ≤ (4 : Int) by rw [li_0]; omega) (fun S_63 I_S_63 F_S_63 v_S_63 f_S_63 l_S_63 => ?_)
            have h61 := ti_eq (f_S_63 63 5 (fun _ e => absurd e (by decide)))
            have h62 := eq_iv rfl li_0 v_S_63
            have h63 := ti_eq (f_S_63 63 63 (fun _ e => absurd e (by decide)))
            have RK_S_63 := RK_fr (U := S_63) RK_S_53 (f_S_63 63 50 (fun _ e => absurd e (by decide))) (fun b => f_S_63 92 b (fun e => absurd e (by decide))) (fun b => f_S_63 93 b (fun e => absurd e (by decide))) (fun b => f_S_63 94 b (fun e => absurd e (by decide)))
            refine Sf.w I_S_63 F_S_63 rfl (show ((0) : Int) ≤ ((0 : Int32)).toInt by rw [li_0]; omega) (show ((0 : Int32)).toInt ≤ (40 : Int) by rw [li_0]; omega) (fun S_68 I_S_68 F_S_68 v_S_68 f_S_68 l_S_68 => ?_)
            have h64 := ti_eq (f_S_68 63 5 (fun _ e => absurd e (by decide)))
            have h65 := ti_eq (f_S_68 63 62 (fun _ e => absurd e (by decide)))
            have h66 := ti_eq (f_S_68 63 63 (fun _ e => absurd e (by decide)))
            have RK_S_68 := RK_fr (U := S_68) RK_S_63 (f_S_68 63 50 (fun _ e => absurd e (by decide))) (fun b => f_S_68 92 b (fun e => absurd e (by decide))) (fun b => f_S_68 93 b (fun e => absurd e (by decide))) (fun b => f_S_68 94 b (fun e => absurd e (by decide)))
            refine Sf.w I_S_68 F_S_68 rfl (show ((0) : Int) ≤ ((0 : Int32)).toInt by rw [li_0]; omega) (show ((0 : Int32)).toInt ≤ (10 : Int) by rw [li_0]; omega) (fun S_73 I_S_73 F_S_73 v_S_73 f_S_73 l_S_73 => ?_)
            have h67 := ti_eq (f_S_73 63 5 (fun _ e => absurd e (by decide)))
            have h68 := ti_eq (f_S_73 63 62 (fun _ e => absurd e (by decide)))
            have h69 := ti_eq (f_S_73 63 63 (fun _ e => absurd e (by decide)))
            have RK_S_73 := RK_fr (U := S_73) RK_S_68 (f_S_73 63 50 (fun _ e => absurd e (by decide))) (fun b => f_S_73 92 b (fun e => absurd e (by decide))) (fun b => f_S_73 93 b (fun e => absurd e (by decide))) (fun b => f_S_73 94 b (fun e => absurd e (by decide)))
            refine Sf.w I_S_73 F_S_73 rfl (i32 _).1 (i32 _).2 (fun S_78 I_S_78 F_S_78 v_S_78 f_S_78 l_S_78 => ?_)
            have h70 := ti_eq (f_S_78 63 5 (fun _ e => absurd e (by decide)))
            have h71 := ti_eq (f_S_78 63 62 (fun _ e => absurd e (by decide)))
            have h72 := eq_iv rfl li_4 v_S_78
            have RK_S_78 := RK_fr (U := S_78) RK_S_73 (f_S_78 63 50 (fun _ e => absurd e (by decide))) (fun b => f_S_78 92 b (fun e => absurd e (by decide))) (fun b => f_S_78 93 b (fun e => absurd e (by decide))) (fun b => f_S_78 94 b (fun e => absurd e (by decide)))
            have TQ_S_78 : TQ S_78 := TQ_zero (by omega)
            have h73 := b_63_62 I_S_78
            refine Sf.b (s_fX12_opens fu hfu x1 x2 S_78 I_S_78 TQ_S_78 (by omega) (by omega) (by omega)) (fun S_84 r_84_ p_r_84_ => ?_)
            obtain ⟨I_S_84, G_S_84, p_r_84_, TQ_S_84, L0_S_84, OP_S_84⟩ := p_r_84_
            have F_S_84 := Fr.tr F_S_78 G_S_84 rfl
            have RK_S_84 := RK_fr (U := S_84) RK_S_78 (G_S_84 63 50 rfl) (fun b => G_S_84 92 b rfl) (fun b => G_S_84 93 b rfl) (fun b => G_S_84 94 b rfl)
            have h74 := b_63_62 I_S_84
            have h75 := ti_eq (G_S_84 63 5 rfl)
            have h76 := ti_eq (G_S_84 63 63 rfl)
            refine Sf.b (s_fX12_goes fu hfu S_84 I_S_84 RK_S_84 TQ_S_84 (by omega)) (fun S_88 r_88 p_r_88 => ?_)
            obtain ⟨I_S_88, G_S_88, p_r_88, RK_S_88, TQ_S_88, RO_S_88⟩ := p_r_88
            have F_S_88 := Fr.tr F_S_84 G_S_88 rfl
            have h77 := ti_eq (G_S_88 63 5 rfl)
            exact Sf.so ⟨I_S_88, F_S_88, trivial, RK_S_88, TQ_S_88, RO_S_88⟩
          · have h78 := neq_iv rfl li_0 c_h59
            exact Sf.so ⟨I_S_53, F_S_53, trivial, RK_S_53, TQ_S_53, RO_S_53⟩
      · have h79 := neq_iv rfl li_0 c_h21
        exact Sf.so ⟨I_S_33, F_S_33, trivial, RK_S_33, TQ_S_33, RO_S_33⟩
    · have h80 := neq_iv rfl li_4 c_h14
      unfold fX12_ask_32
      have h81 : ((0 : Int32)).toInt = 0 := li_0
      have h82 : ((2 : Int32)).toInt = 2 := li_2
      refine Sf.b (s_fX12_throwsIf fu hfu (0 : Int32) (2 : Int32) S_12 I_S_12 (by omega) (by omega)) (fun S_33 r_33 p_r_33 => ?_)
      obtain ⟨I_S_33, G_S_33, p_r_33⟩ := p_r_33
      have F_S_33 := Fr.tr F_S_12 G_S_33 rfl
      have RK_S_33 := RK_fr (U := S_33) RK_S_12 (G_S_33 63 50 rfl) (fun b => G_S_33 92 b rfl) (fun b => G_S_33 93 b rfl) (fun b => G_S_33 94 b rfl)
      have RO_S_33 := RO_fr (U := S_33) RO_S_12 (G_S_33 63 67 rfl) (G_S_33 63 62 rfl) (fun b => G_S_33 100 b rfl)
      have TQ_S_33 := TQ_fr (U := S_33) TQ_S_12 (G_S_33 63 62 rfl) (G_S_33 63 65 rfl) (fun b => G_S_33 102 b rfl)
      have h83 := ti_eq (G_S_33 63 5 rfl)
      have h84 := ti_eq (G_S_33 63 62 rfl)
      have h85 := ti_eq (G_S_33 63 63 rfl)
      have h86 := i32 r_33
      refine Sf.i (fun c_h87 => ?_) (fun c_h87 => ?_)
      · have h88 := eq_iv rfl li_0 c_h87
        have h89 := i32 x2
        refine Sf.bp (s_fX12_isType fu hfu x2 S_33 I_S_33) (fun r_41 p_r_41 => ?_)
        have h90 := i32 r_41
        refine Sf.i (fun c_h91 => ?_) (fun c_h91 => ?_)
        · have h92 := eq_iv rfl li_0 c_h91
          unfold fX12_ask_52
          have h93 : ((3 : Int32)).toInt = 3 := li_3
          refine Sf.b (s_fX12_throwsIf fu hfu (1 : Int32) (3 : Int32) S_33 I_S_33 (by omega) (by omega)) (fun S_53 r_53 p_r_53 => ?_)
          obtain ⟨I_S_53, G_S_53, p_r_53⟩ := p_r_53
          have F_S_53 := Fr.tr F_S_33 G_S_53 rfl
          have RK_S_53 := RK_fr (U := S_53) RK_S_33 (G_S_53 63 50 rfl) (fun b => G_S_53 92 b rfl) (fun b => G_S_53 93 b rfl) (fun b => G_S_53 94 b rfl)
          have RO_S_53 := RO_fr (U := S_53) RO_S_33 (G_S_53 63 67 rfl) (G_S_53 63 62 rfl) (fun b => G_S_53 100 b rfl)
          have TQ_S_53 := TQ_fr (U := S_53) TQ_S_33 (G_S_53 63 62 rfl) (G_S_53 63 65 rfl) (fun b => G_S_53 102 b rfl)
          have h94 := ti_eq (G_S_53 63 5 rfl)
          have h95 := ti_eq (G_S_53 63 62 rfl)
          have h96 := ti_eq (G_S_53 63 63 rfl)
          have h97 := i32 r_53
          refine Sf.i (fun c_h98 => ?_) (fun c_h98 => ?_)
          · have h99 := eq_iv rfl li_0 c_h98
            refine Sf.w I_S_53 F_S_53 rfl (show ((0) : Int) ≤ ((0 : Int32)).toInt by rw [li_0]; omega) (show ((0 : Int32)).toInt ≤ (4 : Int) by rw [li_0]; omega) (fun S_63 I_S_63 F_S_63 v_S_63 f_S_63 l_S_63 => ?_)
            have h100 := ti_eq (f_S_63 63 5 (fun _ e => absurd e (by decide)))
            have h101 := eq_iv rfl li_0 v_S_63
            have h102 := ti_eq (f_S_63 63 63 (fun _ e => absurd e (by decide)))
            have RK_S_63 := RK_fr (U := S_63) RK_S_53 (f_S_63 63 50 (fun _ e => absurd e (by decide))) (fun b => f_S_63 92 b (fun e => absurd e (by decide))) (fun b => f_S_63 93 b (fun e => absurd e (by decide))) (fun b => f_S_63 94 b (fun e => absurd e (by decide)))
            refine Sf.w I_S_63 F_S_63 rfl (show ((0) : Int) ≤ ((0 : Int32)).toInt by rw [li_0]; omega) (show ((0 : Int32)).toInt ≤ (40 : Int) by rw [li_0]; omega) (fun S_68 I_S_68 F_S_68 v_S_68 f_S_68 l_S_68 => ?_)
            have h103 := ti_eq (f_S_68 63 5 (fun _ e => absurd e (by decide)))
            have h104 := ti_eq (f_S_68 63 62 (fun _ e => absurd e (by decide)))
            have h105 := ti_eq (f_S_68 63 63 (fun _ e => absurd e (by decide)))
            have RK_S_68 := RK_fr (U := S_68) RK_S_63 (f_S_68 63 50 (fun _ e => absurd e (by decide))) (fun b => f_S_68 92 b (fun e => absurd e (by decide))) (fun b => f_S_68 93 b (fun e => absurd e (by decide))) (fun b => f_S_68 94 b (fun e => absurd e (by decide)))
            refine Sf.w I_S_68 F_S_68 rfl (show ((0) : Int) ≤ ((0 : Int32)).toInt by rw [li_0]; omega) (show ((0 : Int32)).toInt ≤ (10 : Int) by rw [li_0]; omega) (fun S_73 I_S_73 F_S_73 v_S_73 f_S_73 l_S_73 => ?_)
            have h106 := ti_eq (f_S_73 63 5 (fun _ e => absurd e (by decide)))
            have h107 := ti_eq (f_S_73 63 62 (fun _ e => absurd e (by decide)))
            have h108 := ti_eq (f_S_73 63 63 (fun _ e => absurd e (by decide)))
            have RK_S_73 := RK_fr (U := S_73) RK_S_68 (f_S_73 63 50 (fun _ e => absurd e (by decide))) (fun b => f_S_73 92 b (fun e => absurd e (by decide))) (fun b => f_S_73 93 b (fun e => absurd e (by decide))) (fun b => f_S_73 94 b (fun e => absurd e (by decide)))
            refine Sf.w I_S_73 F_S_73 rfl (i32 _).1 (i32 _).2 (fun S_78 I_S_78 F_S_78 v_S_78 f_S_78 l_S_78 => ?_)
            have h109 := ti_eq (f_S_78 63 5 (fun _ e => absurd e (by decide)))
            have h110 := ti_eq (f_S_78 63 62 (fun _ e => absurd e (by decide)))
            have h111 := eq_iv rfl li_4 v_S_78
            have RK_S_78 := RK_fr (U := S_78) RK_S_73 (f_S_78 63 50 (fun _ e => absurd e (by decide))) (fun b => f_S_78 92 b (fun e => absurd e (by decide))) (fun b => f_S_78 93 b (fun e => absurd e (by decide))) (fun b => f_S_78 94 b (fun e => absurd e (by decide)))
            have TQ_S_78 : TQ S_78 := TQ_zero (by omega)
            have h112 := b_63_62 I_S_78
            refine Sf.b (s_fX12_opens fu hfu x1 x2 S_78 I_S_78 TQ_S_78 (by omega) (by omega) (by omega)) (fun S_84 r_84_ p_r_84_ => ?_)
            obtain ⟨I_S_84, G_S_84, p_r_84_, TQ_S_84, L0_S_84, OP_S_84⟩ := p_r_84_
            have F_S_84 := Fr.tr F_S_78 G_S_84 rfl
            have RK_S_84 := RK_fr (U := S_84) RK_S_78 (G_S_84 63 50 rfl) (fun b => G_S_84 92 b rfl) (fun b => G_S_84 93 b rfl) (fun b => G_S_84 94 b rfl)
            have h113 := b_63_62 I_S_84
            have h114 := ti_eq (G_S_84 63 5 rfl)
            have h115 := ti_eq (G_S_84 63 63 rfl)
            refine Sf.b (s_fX12_goes fu hfu S_84 I_S_84 RK_S_84 TQ_S_84 (by omega)) (fun S_88 r_88 p_r_88 => ?_)
            obtain ⟨I_S_88, G_S_88, p_r_88, RK_S_88, TQ_S_88, RO_S_88⟩ := p_r_88
            have F_S_88 := Fr.tr F_S_84 G_S_88 rfl
            have h116 := ti_eq (G_S_88 63 5 rfl)
            exact Sf.so ⟨I_S_88, F_S_88, trivial, RK_S_88, TQ_S_88, RO_S_88⟩
          · have h117 := neq_iv rfl li_0 c_h98
            exact Sf.so ⟨I_S_53, F_S_53, trivial, RK_S_53, TQ_S_53, RO_S_53⟩
        · have h118 := neq_iv rfl li_0 c_h91
          unfold fX12_ask_52
          have h119 : ((3 : Int32)).toInt = 3 := li_3
          refine Sf.b (s_fX12_throwsIf fu hfu (0 : Int32) (3 : Int32) S_33 I_S_33 (by omega) (by omega)) (fun S_53 r_53 p_r_53 => ?_)
          obtain ⟨I_S_53, G_S_53, p_r_53⟩ := p_r_53
          have F_S_53 := Fr.tr F_S_33 G_S_53 rfl
          have RK_S_53 := RK_fr (U := S_53) RK_S_33 (G_S_53 63 50 rfl) (fun b => G_S_53 92 b rfl) (fun b => G_S_53 93 b rfl) (fun b => G_S_53 94 b rfl)
          have RO_S_53 := RO_fr (U := S_53) RO_S_33 (G_S_53 63 67 rfl) (G_S_53 63 62 rfl) (fun b => G_S_53 100 b rfl)
          have TQ_S_53 := TQ_fr (U := S_53) TQ_S_33 (G_S_53 63 62 rfl) (G_S_53 63 65 rfl) (fun b => G_S_53 102 b rfl)
          have h120 := ti_eq (G_S_53 63 5 rfl)
          have h121 := ti_eq (G_S_53 63 62 rfl)
          have h122 := ti_eq (G_S_53 63 63 rfl)
          have h123 := i32 r_53
          refine Sf.i (fun c_h124 => ?_) (fun c_h124 => ?_)
          · have h125 := eq_iv rfl li_0 c_h124
            refine Sf.w I_S_53 F_S_53 rfl (show ((0) : Int) ≤ ((0 : Int32)).toInt by rw [li_0]; omega) (show ((0 : Int32)).toInt ≤ (4 : Int) by rw [li_0]; omega) (fun S_63 I_S_63 F_S_63 v_S_63 f_S_63 l_S_63 => ?_)
            have h126 := ti_eq (f_S_63 63 5 (fun _ e => absurd e (by decide)))
            have h127 := eq_iv rfl li_0 v_S_63
            have h128 := ti_eq (f_S_63 63 63 (fun _ e => absurd e (by decide)))
            have RK_S_63 := RK_fr (U := S_63) RK_S_53 (f_S_63 63 50 (fun _ e => absurd e (by decide))) (fun b => f_S_63 92 b (fun e => absurd e (by decide))) (fun b => f_S_63 93 b (fun e => absurd e (by decide))) (fun b => f_S_63 94 b (fun e => absurd e (by decide)))
            refine Sf.w I_S_63 F_S_63 rfl (show ((0) : Int) ≤ ((0 : Int32)).toInt by rw [li_0]; omega) (show ((0 : Int32)).toInt ≤ (40 : Int) by rw [li_0]; omega) (fun S_68 I_S_68 F_S_68 v_S_68 f_S_68 l_S_68 => ?_)
            have h129 := ti_eq (f_S_68 63 5 (fun _ e => absurd e (by decide)))
            have h130 := ti_eq (f_S_68 63 62 (fun _ e => absurd e (by decide)))
            have h131 := ti_eq (f_S_68 63 63 (fun _ e => absurd e (by decide)))
            have RK_S_68 := RK_fr (U := S_68) RK_S_63 (f_S_68 63 50 (fun _ e => absurd e (by decide))) (fun b => f_S_68 92 b (fun e => absurd e (by decide))) (fun b => f_S_68 93 b (fun e => absurd e (by decide))) (fun b => f_S_68 94 b (fun e => absurd e (by decide)))
            refine Sf.w I_S_68 F_S_68 rfl (show ((0) : Int) ≤ ((0 : Int32)).toInt by rw [li_0]; omega) (show ((0 : Int32)).toInt ≤ (10 : Int) by rw [li_0]; omega) (fun S_73 I_S_73 F_S_73 v_S_73 f_S_73 l_S_73 => ?_)
            have h132 := ti_eq (f_S_73 63 5 (fun _ e => absurd e (by decide)))
            have h133 := ti_eq (f_S_73 63 62 (fun _ e => absurd e (by decide)))
            have h134 := ti_eq (f_S_73 63 63 (fun _ e => absurd e (by decide)))
            have RK_S_73 := RK_fr (U := S_73) RK_S_68 (f_S_73 63 50 (fun _ e => absurd e (by decide))) (fun b => f_S_73 92 b (fun e => absurd e (by decide))) (fun b => f_S_73 93 b (fun e => absurd e (by decide))) (fun b => f_S_73 94 b (fun e => absurd e (by decide)))
            refine Sf.w I_S_73 F_S_73 rfl (i32 _).1 (i32 _).2 (fun S_78 I_S_78 F_S_78 v_S_78 f_S_78 l_S_78 => ?_)
            have h135 := ti_eq (f_S_78 63 5 (fun _ e => absurd e (by decide)))
            have h136 := ti_eq (f_S_78 63 62 (fun _ e => absurd e (by decide)))
            have h137 := eq_iv rfl li_4 v_S_78
            have RK_S_78 := RK_fr (U := S_78) RK_S_73 (f_S_78 63 50 (fun _ e => absurd e (by decide))) (fun b => f_S_78 92 b (fun e => absurd e (by decide))) (fun b => f_S_78 93 b (fun e => absurd e (by decide))) (fun b => f_S_78 94 b (fun e => absurd e (by decide)))
            have TQ_S_78 : TQ S_78 := TQ_zero (by omega)
            have h138 := b_63_62 I_S_78
            refine Sf.b (s_fX12_opens fu hfu x1 x2 S_78 I_S_78 TQ_S_78 (by omega) (by omega) (by omega)) (fun S_84 r_84_ p_r_84_ => ?_)
            obtain ⟨I_S_84, G_S_84, p_r_84_, TQ_S_84, L0_S_84, OP_S_84⟩ := p_r_84_
            have F_S_84 := Fr.tr F_S_78 G_S_84 rfl
            have RK_S_84 := RK_fr (U := S_84) RK_S_78 (G_S_84 63 50 rfl) (fun b => G_S_84 92 b rfl) (fun b => G_S_84 93 b rfl) (fun b => G_S_84 94 b rfl)
            have h139 := b_63_62 I_S_84
            have h140 := ti_eq (G_S_84 63 5 rfl)
            have h141 := ti_eq (G_S_84 63 63 rfl)
            refine Sf.b (s_fX12_goes fu hfu S_84 I_S_84 RK_S_84 TQ_S_84 (by omega)) (fun S_88 r_88 p_r_88 => ?_)
            obtain ⟨I_S_88, G_S_88, p_r_88, RK_S_88, TQ_S_88, RO_S_88⟩ := p_r_88
            have F_S_88 := Fr.tr F_S_84 G_S_88 rfl
            have h142 := ti_eq (G_S_88 63 5 rfl)
            exact Sf.so ⟨I_S_88, F_S_88, trivial, RK_S_88, TQ_S_88, RO_S_88⟩
          · have h143 := neq_iv rfl li_0 c_h124
            exact Sf.so ⟨I_S_53, F_S_53, trivial, RK_S_53, TQ_S_53, RO_S_53⟩
      · have h144 := neq_iv rfl li_0 c_h87
        exact Sf.so ⟨I_S_33, F_S_33, trivial, RK_S_33, TQ_S_33, RO_S_33⟩
  · have h145 := neq_iv rfl li_0 c_h12
    exact Sf.so ⟨I_S_12, F_S_12, trivial, RK_S_12, TQ_S_12, RO_S_12⟩
set_option maxHeartbeats 4000000 in
theorem s_fX12_lose (fu : Nat) (hfu : 1000000000000000000 ≤ fu) (S : St) (I_S : Inv S) (RK_S : RK S) (TQ_S : TQ S) (RO_S : RO S) : Sf (fX12_lose fu S) (fun U r => Inv U ∧ Fr [(63, 1), (63, 63), (63, 64), (63, 65), (63, 66), (63, 67), (63, 68), (63, 69), (63, 70), (63, 72), (97, 0), (98, 0), (99, 0), (100, 0), (101, 0), (102, 0), (103, 0), (104, 0)] S U ∧ (True) ∧ RK U ∧ TQ U ∧ RO U) := by
  unfold fX12_lose
  have F_S : Fr [(63, 1), (63, 63), (63, 64), (63, 65), (63, 66), (63, 67), (63, 68), (63, 69), (63, 70), (63, 72), (97, 0), (98, 0), (99, 0), (100, 0), (101, 0), (102, 0), (103, 0), (104, 0)] S S := Fr.refl _ _
  have hro_S : (S.1 63 67).toInt = 1 → 1 ≤ (S.1 63 62).toInt ∧ 0 ≤ (S.1 100 (((S.1 63 62) - (1 : Int32))).toNatClampNeg).toInt := RO_S
  have hb1 := b_63_67 I_S
  have hb2 := b_63_62 I_S
  refine Sf.w I_S F_S rfl (i32 _).1 (i32 _).2 (fun S_2 I_S_2 F_S_2 v_S_2 f_S_2 l_S_2 => ?_)
  have h1 := ti_eq (f_S_2 63 62 (fun _ e => absurd e (by decide)))
  have h2 := ti_eq (f_S_2 63 63 (fun _ e => absurd e (by decide)))
  have h3 := ti_eq (f_S_2 63 67 (fun _ e => absurd e (by decide)))
  have RK_S_2 := RK_fr (U := S_2) RK_S (f_S_2 63 50 (fun _ e => absurd e (by decide))) (fun b => f_S_2 92 b (fun e => absurd e (by decide))) (fun b => f_S_2 93 b (fun e => absurd e (by decide))) (fun b => f_S_2 94 b (fun e => absurd e (by decide)))
  have RO_S_2 := RO_fr (U := S_2) RO_S (f_S_2 63 67 (fun _ e => absurd e (by decide))) (f_S_2 63 62 (fun _ e => absurd e (by decide))) (fun b => f_S_2 100 b (fun e => absurd e (by decide)))
  have TQ_S_2 := TQ_fr (U := S_2) TQ_S (f_S_2 63 62 (fun _ e => absurd e (by decide))) (f_S_2 63 65 (fun _ e => absurd e (by decide))) (fun b => f_S_2 102 b (fun e => absurd e (by decide)))
  have h4 := b_63_67 I_S_2
  refine Sf.i (fun c_h5 => ?_) (fun c_h5 => ?_)
  · have h6 := eq_iv rfl li_0 c_h5
    unfold fX12_lose_18
    have h7 : ((1 : Int32)).toInt = 1 := li_1
    refine Sf.b (s_fX12_throwsIf fu hfu (1 : Int32) (1 : Int32) S_2 I_S_2 (by omega) (by omega)) (fun S_19 r_19 p_r_19 => ?_)
    obtain ⟨I_S_19, G_S_19, p_r_19⟩ := p_r_19
    have F_S_19 := Fr.tr F_S_2 G_S_19 rfl
    have RK_S_19 := RK_fr (U := S_19) RK_S_2 (G_S_19 63 50 rfl) (fun b => G_S_19 92 b rfl) (fun b => G_S_19 93 b rfl) (fun b => G_S_19 94 b rfl)
    have RO_S_19 := RO_fr (U := S_19) RO_S_2 (G_S_19 63 67 rfl) (G_S_19 63 62 rfl) (fun b => G_S_19 100 b rfl)
    have TQ_S_19 := TQ_fr (U := S_19) TQ_S_2 (G_S_19 63 62 rfl) (G_S_19 63 65 rfl) (fun b => G_S_19 102 b rfl)
    have h8 := ti_eq (G_S_19 63 62 rfl)
    have h9 := ti_eq (G_S_19 63 63 rfl)
    have h10 := ti_eq (G_S_19 63 67 rfl)
    have h11 := i32 r_19
    refine Sf.i (fun c_h12 => ?_) (fun c_h12 => ?_)
    · have h13 := eq_iv rfl li_0 c_h12
      have h14 := b_63_62 I_S_19
      refine Sf.b (s_fX12_goes fu hfu S_19 I_S_19 RK_S_19 TQ_S_19 (by omega)) (fun S_30 r_30 p_r_30 => ?_)
      obtain ⟨I_S_30, G_S_30, p_r_30, RK_S_30, TQ_S_30, RO_S_30⟩ := p_r_30
      have F_S_30 := Fr.tr F_S_19 G_S_30 rfl
      exact Sf.so ⟨I_S_30, F_S_30, trivial, RK_S_30, TQ_S_30, RO_S_30⟩
    · have h15 := neq_iv rfl li_0 c_h12
      exact Sf.so ⟨I_S_19, F_S_19, trivial, RK_S_19, TQ_S_19, RO_S_19⟩
  · have h16 := neq_iv rfl li_0 c_h5
    unfold fX12_lose_18
    have h17 : ((0 : Int32)).toInt = 0 := li_0
    have h18 : ((1 : Int32)).toInt = 1 := li_1
    refine Sf.b (s_fX12_throwsIf fu hfu (0 : Int32) (1 : Int32) S_2 I_S_2 (by omega) (by omega)) (fun S_19 r_19 p_r_19 => ?_)
    obtain ⟨I_S_19, G_S_19, p_r_19⟩ := p_r_19
    have F_S_19 := Fr.tr F_S_2 G_S_19 rfl
    have RK_S_19 := RK_fr (U := S_19) RK_S_2 (G_S_19 63 50 rfl) (fun b => G_S_19 92 b rfl) (fun b => G_S_19 93 b rfl) (fun b => G_S_19 94 b rfl)
    have RO_S_19 := RO_fr (U := S_19) RO_S_2 (G_S_19 63 67 rfl) (G_S_19 63 62 rfl) (fun b => G_S_19 100 b rfl)
    have TQ_S_19 := TQ_fr (U := S_19) TQ_S_2 (G_S_19 63 62 rfl) (G_S_19 63 65 rfl) (fun b => G_S_19 102 b rfl)
    have h19 := ti_eq (G_S_19 63 62 rfl)
    have h20 := ti_eq (G_S_19 63 63 rfl)
    have h21 := ti_eq (G_S_19 63 67 rfl)
    have h22 := i32 r_19
    refine Sf.i (fun c_h23 => ?_) (fun c_h23 => ?_)
    · have h24 := eq_iv rfl li_0 c_h23
      have h25 := b_63_62 I_S_19
      refine Sf.b (s_fX12_goes fu hfu S_19 I_S_19 RK_S_19 TQ_S_19 (by omega)) (fun S_30 r_30 p_r_30 => ?_)
      obtain ⟨I_S_30, G_S_30, p_r_30, RK_S_30, TQ_S_30, RO_S_30⟩ := p_r_30
      have F_S_30 := Fr.tr F_S_19 G_S_30 rfl
      exact Sf.so ⟨I_S_30, F_S_30, trivial, RK_S_30, TQ_S_30, RO_S_30⟩
    · have h26 := neq_iv rfl li_0 c_h23
      exact Sf.so ⟨I_S_19, F_S_19, trivial, RK_S_19, TQ_S_19, RO_S_19⟩
set_option maxHeartbeats 4000000 in
theorem s_fX12_query (fu : Nat) (hfu : 1000000000000000000 ≤ fu) (x1 : Int32) (S : St) (I_S : Inv S) (RO_S : RO S) : Sf (fX12_query fu x1 S) (fun U r => Inv U ∧ Fr [(63, 1)] S U ∧ (True)) := by
  unfold fX12_query
  have F_S : Fr [(63, 1)] S S := Fr.refl _ _
  have hro_S : (S.1 63 67).toInt = 1 → 1 ≤ (S.1 63 62).toInt ∧ 0 ≤ (S.1 100 (((S.1 63 62) - (1 : Int32))).toNatClampNeg).toInt := RO_S
  have hb1 := b_63_67 I_S
  have hb2 := b_63_62 I_S
  refine Sf.w I_S F_S rfl (i32 _).1 (i32 _).2 (fun S_2 I_S_2 F_S_2 v_S_2 f_S_2 l_S_2 => ?_)
  have h1 := ti_eq (f_S_2 63 62 (fun _ e => absurd e (by decide)))
  have h2 := ti_eq (f_S_2 63 67 (fun _ e => absurd e (by decide)))
  have h3 := ti_eq (f_S_2 63 68 (fun _ e => absurd e (by decide)))
  have h4 := ti_eq (f_S_2 63 69 (fun _ e => absurd e (by decide)))
  have RO_S_2 := RO_fr (U := S_2) RO_S (f_S_2 63 67 (fun _ e => absurd e (by decide))) (f_S_2 63 62 (fun _ e => absurd e (by decide))) (fun b => f_S_2 100 b (fun e => absurd e (by decide)))
  have h5 := b_63_67 I_S_2
  refine Sf.i (fun c_h6 => ?_) (fun c_h6 => ?_)
  · have h7 := eq_iv rfl li_0 c_h6
    unfold fX12_query_18
    have h8 : ((1 : Int32)).toInt = 1 := li_1
    refine Sf.b (s_fX12_throwsIf fu hfu (1 : Int32) (1 : Int32) S_2 I_S_2 (by omega) (by omega)) (fun S_19 r_19 p_r_19 => ?_)
    obtain ⟨I_S_19, G_S_19, p_r_19⟩ := p_r_19
    have F_S_19 := Fr.tr F_S_2 G_S_19 rfl
    have RO_S_19 := RO_fr (U := S_19) RO_S_2 (G_S_19 63 67 rfl) (G_S_19 63 62 rfl) (fun b => G_S_19 100 b rfl)
    have h9 := ti_eq (G_S_19 63 62 rfl)
    have h10 := ti_eq (G_S_19 63 67 rfl)
    have h11 := ti_eq (G_S_19 63 68 rfl)
    have h12 := ti_eq (G_S_19 63 69 rfl)
    have h13 := i32 r_19
    refine Sf.i (fun c_h14 => ?_) (fun c_h14 => ?_)
    · have h15 := eq_iv rfl li_0 c_h14
      have h16 := i32 x1
      refine Sf.i (fun c_h17 => ?_) (fun c_h17 => ?_)
      · have h18 := eq_iv rfl li_0 c_h17
        exact Sf.so ⟨I_S_19, F_S_19, trivial⟩
      · have h19 := neq_iv rfl li_0 c_h17
        refine Sf.i (fun c_h20 => ?_) (fun c_h20 => ?_)
        · have h21 := eq_iv rfl li_1 c_h20
          exact Sf.so ⟨I_S_19, F_S_19, trivial⟩
        · have h22 := neq_iv rfl li_1 c_h20
          refine Sf.i (fun c_h23 => ?_) (fun c_h23 => ?_)
          · have h24 := eq_iv rfl li_2 c_h23
            have h25 := b_63_62 I_S_19
            try have h26 : (((S_19.1 63 62) - (1 : Int32))).toInt = ((S_19.1 63 62)).toInt - (1) := sub_iv rfl li_1 (by omega) (by omega)
            refine Sf.g (ck_iv (by omega) (by omega)) ?_
            exact Sf.so ⟨I_S_19, F_S_19, trivial⟩
          · have h27 := neq_iv rfl li_2 c_h23
            refine Sf.i (fun c_h28 => ?_) (fun c_h28 => ?_)
            · have h29 := eq_iv rfl li_3 c_h28
              have h30 := b_63_62 I_S_19
              try have h31 : (((S_19.1 63 62) - (1 : Int32))).toInt = ((S_19.1 63 62)).toInt - (1) := sub_iv rfl li_1 (by omega) (by omega)
              refine Sf.g (ck_iv (by omega) (by omega)) ?_
              exact Sf.so ⟨I_S_19, F_S_19, trivial⟩
            · have h32 := neq_iv rfl li_3 c_h28
              refine Sf.i (fun c_h33 => ?_) (fun c_h33 => ?_)
              · have h34 := eq_iv rfl li_4 c_h33
                exact Sf.so ⟨I_S_19, F_S_19, trivial⟩
              · have h35 := neq_iv rfl li_4 c_h33
                refine Sf.i (fun c_h36 => ?_) (fun c_h36 => ?_)
                · have h37 := eq_iv rfl li_5 c_h36
                  have h38 := b_63_62 I_S_19
                  try have h39 : (((S_19.1 63 62) - (1 : Int32))).toInt = ((S_19.1 63 62)).toInt - (1) := sub_iv rfl li_1 (by omega) (by omega)
                  refine Sf.g (ck_iv (by omega) (by omega)) ?_
                  exact Sf.so ⟨I_S_19, F_S_19, trivial⟩
                · have h40 := neq_iv rfl li_5 c_h36
                  refine Sf.w I_S_19 F_S_19 rfl (i32 _).1 (i32 _).2 (fun S_121 I_S_121 F_S_121 v_S_121 f_S_121 l_S_121 => ?_)
                  have h41 := ti_eq (f_S_121 63 62 (fun _ e => absurd e (by decide)))
                  have h42 := ti_eq (f_S_121 63 67 (fun _ e => absurd e (by decide)))
                  have h43 := ti_eq (f_S_121 63 68 (fun _ e => absurd e (by decide)))
                  have h44 := ti_eq (f_S_121 63 69 (fun _ e => absurd e (by decide)))
                  have RO_S_121 := RO_fr (U := S_121) RO_S_19 (f_S_121 63 67 (fun _ e => absurd e (by decide))) (f_S_121 63 62 (fun _ e => absurd e (by decide))) (fun b => f_S_121 100 b (fun e => absurd e (by decide)))
                  exact Sf.so ⟨I_S_121, F_S_121, trivial⟩
    · have h45 := neq_iv rfl li_0 c_h14
      exact Sf.so ⟨I_S_19, F_S_19, trivial⟩
  · have h46 := neq_iv rfl li_0 c_h6
    unfold fX12_query_18
    have h47 : ((0 : Int32)).toInt = 0 := li_0
    have h48 : ((1 : Int32)).toInt = 1 := li_1
    refine Sf.b (s_fX12_throwsIf fu hfu (0 : Int32) (1 : Int32) S_2 I_S_2 (by omega) (by omega)) (fun S_19 r_19 p_r_19 => ?_)
    obtain ⟨I_S_19, G_S_19, p_r_19⟩ := p_r_19
    have F_S_19 := Fr.tr F_S_2 G_S_19 rfl
    have RO_S_19 := RO_fr (U := S_19) RO_S_2 (G_S_19 63 67 rfl) (G_S_19 63 62 rfl) (fun b => G_S_19 100 b rfl)
    have h49 := ti_eq (G_S_19 63 62 rfl)
    have h50 := ti_eq (G_S_19 63 67 rfl)
    have h51 := ti_eq (G_S_19 63 68 rfl)
    have h52 := ti_eq (G_S_19 63 69 rfl)
    have h53 := i32 r_19
    refine Sf.i (fun c_h54 => ?_) (fun c_h54 => ?_)
    · have h55 := eq_iv rfl li_0 c_h54
      have h56 := i32 x1
      refine Sf.i (fun c_h57 => ?_) (fun c_h57 => ?_)
      · have h58 := eq_iv rfl li_0 c_h57
        exact Sf.so ⟨I_S_19, F_S_19, trivial⟩
      · have h59 := neq_iv rfl li_0 c_h57
        refine Sf.i (fun c_h60 => ?_) (fun c_h60 => ?_)
        · have h61 := eq_iv rfl li_1 c_h60
          exact Sf.so ⟨I_S_19, F_S_19, trivial⟩
        · have h62 := neq_iv rfl li_1 c_h60
          refine Sf.i (fun c_h63 => ?_) (fun c_h63 => ?_)
          · have h64 := eq_iv rfl li_2 c_h63
            have h65 := b_63_62 I_S_19
            try have h66 : (((S_19.1 63 62) - (1 : Int32))).toInt = ((S_19.1 63 62)).toInt - (1) := sub_iv rfl li_1 (by omega) (by omega)
            refine Sf.g (ck_iv (by omega) (by omega)) ?_
            exact Sf.so ⟨I_S_19, F_S_19, trivial⟩
          · have h67 := neq_iv rfl li_2 c_h63
            refine Sf.i (fun c_h68 => ?_) (fun c_h68 => ?_)
            · have h69 := eq_iv rfl li_3 c_h68
              have h70 := b_63_62 I_S_19
              try have h71 : (((S_19.1 63 62) - (1 : Int32))).toInt = ((S_19.1 63 62)).toInt - (1) := sub_iv rfl li_1 (by omega) (by omega)
              refine Sf.g (ck_iv (by omega) (by omega)) ?_
              exact Sf.so ⟨I_S_19, F_S_19, trivial⟩
            · have h72 := neq_iv rfl li_3 c_h68
              refine Sf.i (fun c_h73 => ?_) (fun c_h73 => ?_)
              · have h74 := eq_iv rfl li_4 c_h73
                exact Sf.so ⟨I_S_19, F_S_19, trivial⟩
              · have h75 := neq_iv rfl li_4 c_h73
                refine Sf.i (fun c_h76 => ?_) (fun c_h76 => ?_)
                · have h77 := eq_iv rfl li_5 c_h76
                  have h78 := b_63_62 I_S_19
                  try have h79 : (((S_19.1 63 62) - (1 : Int32))).toInt = ((S_19.1 63 62)).toInt - (1) := sub_iv rfl li_1 (by omega) (by omega)
                  refine Sf.g (ck_iv (by omega) (by omega)) ?_
                  exact Sf.so ⟨I_S_19, F_S_19, trivial⟩
                · have h80 := neq_iv rfl li_5 c_h76
                  refine Sf.w I_S_19 F_S_19 rfl (i32 _).1 (i32 _).2 (fun S_121 I_S_121 F_S_121 v_S_121 f_S_121 l_S_121 => ?_)
                  have h81 := ti_eq (f_S_121 63 62 (fun _ e => absurd e (by decide)))
                  have h82 := ti_eq (f_S_121 63 67 (fun _ e => absurd e (by decide)))
                  have h83 := ti_eq (f_S_121 63 68 (fun _ e => absurd e (by decide)))
                  have h84 := ti_eq (f_S_121 63 69 (fun _ e => absurd e (by decide)))
                  have RO_S_121 := RO_fr (U := S_121) RO_S_19 (f_S_121 63 67 (fun _ e => absurd e (by decide))) (f_S_121 63 62 (fun _ e => absurd e (by decide))) (fun b => f_S_121 100 b (fun e => absurd e (by decide)))
                  exact Sf.so ⟨I_S_121, F_S_121, trivial⟩
    · have h85 := neq_iv rfl li_0 c_h54
      exact Sf.so ⟨I_S_19, F_S_19, trivial⟩
set_option maxHeartbeats 4000000 in
theorem s_fX12_step (fu : Nat) (hfu : 1000000000000000000 ≤ fu) (S : St) (I_S : Inv S) (RD_S : RD S) (RK_S : RK S) (TQ_S : TQ S) (RO_S : RO S) : Sf (fX12_step fu S) (fun U r => Inv U ∧ Fr [(63, 1), (63, 6), (63, 9), (63, 28), (63, 31), (63, 32), (63, 33), (63, 34), (63, 35), (63, 36), (63, 37), (63, 43), (63, 51), (63, 54), (63, 63), (63, 64), (63, 65), (63, 66), (63, 67), (63, 68), (63, 69), (63, 70), (63, 72), (64, 0), (65, 0), (66, 0), (67, 0), (68, 0), (69, 0), (82, 0), (83, 0), (84, 0), (85, 0), (86, 0), (87, 0), (88, 0), (89, 0), (91, 0), (92, 0), (93, 0), (94, 0), (96, 0), (97, 0), (98, 0), (99, 0), (100, 0), (101, 0), (102, 0), (103, 0), (104, 0), (105, 0)] S U ∧ (True) ∧ RK U ∧ TQ U ∧ RO U) := by
  unfold fX12_step
  have F_S : Fr [(63, 1), (63, 6), (63, 9), (63, 28), (63, 31), (63, 32), (63, 33), (63, 34), (63, 35), (63, 36), (63, 37), (63, 43), (63, 51), (63, 54), (63, 63), (63, 64), (63, 65), (63, 66), (63, 67), (63, 68), (63, 69), (63, 70), (63, 72), (64, 0), (65, 0), (66, 0), (67, 0), (68, 0), (69, 0), (82, 0), (83, 0), (84, 0), (85, 0), (86, 0), (87, 0), (88, 0), (89, 0), (91, 0), (92, 0), (93, 0), (94, 0), (96, 0), (97, 0), (98, 0), (99, 0), (100, 0), (101, 0), (102, 0), (103, 0), (104, 0), (105, 0)] S S := Fr.refl _ _
  have hro_S : (S.1 63 67).toInt = 1 → 1 ≤ (S.1 63 62).toInt ∧ 0 ≤ (S.1 100 (((S.1 63 62) - (1 : Int32))).toNatClampNeg).toInt := RO_S
  have hb1 := b_63_67 I_S
  have hb2 := b_63_62 I_S
  refine Sf.w I_S F_S rfl (i32 _).1 (i32 _).2 (fun S_2 I_S_2 F_S_2 v_S_2 f_S_2 l_S_2 => ?_)
  have h1 := ti_eq (f_S_2 63 23 (fun _ e => absurd e (by decide)))
  have h2 := ti_eq (f_S_2 63 62 (fun _ e => absurd e (by decide)))
  have h3 := ti_eq (f_S_2 63 63 (fun _ e => absurd e (by decide)))
  have h4 := ti_eq (f_S_2 63 67 (fun _ e => absurd e (by decide)))
  have h5 := ti_eq (f_S_2 63 68 (fun _ e => absurd e (by decide)))
  have h6 := ti_eq (f_S_2 63 69 (fun _ e => absurd e (by decide)))
  have RD_S_2 := RD_fr (U := S_2) RD_S (f_S_2 63 20 (fun _ e => absurd e (by decide))) (fun b => f_S_2 76 b (fun e => absurd e (by decide))) (fun b => f_S_2 77 b (fun e => absurd e (by decide)))
  have RK_S_2 := RK_fr (U := S_2) RK_S (f_S_2 63 50 (fun _ e => absurd e (by decide))) (fun b => f_S_2 92 b (fun e => absurd e (by decide))) (fun b => f_S_2 93 b (fun e => absurd e (by decide))) (fun b => f_S_2 94 b (fun e => absurd e (by decide)))
  have RO_S_2 := RO_fr (U := S_2) RO_S (f_S_2 63 67 (fun _ e => absurd e (by decide))) (f_S_2 63 62 (fun _ e => absurd e (by decide))) (fun b => f_S_2 100 b (fun e => absurd e (by decide)))
  have TQ_S_2 := TQ_fr (U := S_2) TQ_S (f_S_2 63 62 (fun _ e => absurd e (by decide))) (f_S_2 63 65 (fun _ e => absurd e (by decide))) (fun b => f_S_2 102 b (fun e => absurd e (by decide)))
  have h7 := b_63_67 I_S_2
  refine Sf.i (fun c_h8 => ?_) (fun c_h8 => ?_)
  · have h9 := eq_iv rfl li_0 c_h8
    unfold fX12_step_18
    have h10 : ((1 : Int32)).toInt = 1 := li_1
    refine Sf.b (s_fX12_throwsIf fu hfu (1 : Int32) (1 : Int32) S_2 I_S_2 (by omega) (by omega)) (fun S_19 r_19 p_r_19 => ?_)
    obtain ⟨I_S_19, G_S_19, p_r_19⟩ := p_r_19
    have F_S_19 := Fr.tr F_S_2 G_S_19 rfl
    have RD_S_19 := RD_fr (U := S_19) RD_S_2 (G_S_19 63 20 rfl) (fun b => G_S_19 76 b rfl) (fun b => G_S_19 77 b rfl)
    have RK_S_19 := RK_fr (U := S_19) RK_S_2 (G_S_19 63 50 rfl) (fun b => G_S_19 92 b rfl) (fun b => G_S_19 93 b rfl) (fun b => G_S_19 94 b rfl)
    have RO_S_19 := RO_fr (U := S_19) RO_S_2 (G_S_19 63 67 rfl) (G_S_19 63 62 rfl) (fun b => G_S_19 100 b rfl)
    have TQ_S_19 := TQ_fr (U := S_19) TQ_S_2 (G_S_19 63 62 rfl) (G_S_19 63 65 rfl) (fun b => G_S_19 102 b rfl)
    have h11 := ti_eq (G_S_19 63 23 rfl)
    have h12 := ti_eq (G_S_19 63 62 rfl)
    have h13 := ti_eq (G_S_19 63 63 rfl)
    have h14 := ti_eq (G_S_19 63 67 rfl)
    have h15 := ti_eq (G_S_19 63 68 rfl)
    have h16 := ti_eq (G_S_19 63 69 rfl)
    have h17 := i32 r_19
    refine Sf.i (fun c_h18 => ?_) (fun c_h18 => ?_)
    · have h19 := eq_iv rfl li_0 c_h18
      have h20 := b_63_23 I_S_19
      refine Sf.bp (s_fX12_serverOf fu hfu (S_19.1 63 68) S_19 I_S_19) (fun r_32 p_r_32 => ?_)
      have h21 := i32 r_32
      refine Sf.i (fun c_h22 => ?_) (fun c_h22 => ?_)
      · have h23 := le_iv li_0 rfl c_h22
        have h24 := b_63_62 I_S_19
        try have h25 : (((S_19.1 63 62) - (1 : Int32))).toInt = ((S_19.1 63 62)).toInt - (1) := sub_iv rfl li_1 (by omega) (by omega)
        refine Sf.g (ck_iv (by omega) (by omega)) ?_
        refine Sf.g (ck_iv (by omega) (by omega)) ?_
        have h26 := a_97 I_S_19 ((((S_19.1 63 62) - (1 : Int32))).toNatClampNeg)
        refine Sf.b (s_fX12_says fu hfu r_32 (S_19.1 63 69) (S_19.1 97 ((((S_19.1 63 62) - (1 : Int32))).toNatClampNeg)) (S_19.1 98 ((((S_19.1 63 62) - (1 : Int32))).toNatClampNeg)) S_19 I_S_19 RD_S_19 (by omega) (by omega) (by omega) (by omega)) (fun S_72 r_72 p_r_72 => ?_)
        obtain ⟨I_S_72, G_S_72, p_r_72⟩ := p_r_72
        have F_S_72 := Fr.tr F_S_19 G_S_72 rfl
        have RD_S_72 := RD_fr (U := S_72) RD_S_19 (G_S_72 63 20 rfl) (fun b => G_S_72 76 b rfl) (fun b => G_S_72 77 b rfl)
        have RK_S_72 := RK_fr (U := S_72) RK_S_19 (G_S_72 63 50 rfl) (fun b => G_S_72 92 b rfl) (fun b => G_S_72 93 b rfl) (fun b => G_S_72 94 b rfl)
        have RO_S_72 := RO_fr (U := S_72) RO_S_19 (G_S_72 63 67 rfl) (G_S_72 63 62 rfl) (fun b => G_S_72 100 b rfl)
        have TQ_S_72 := TQ_fr (U := S_72) TQ_S_19 (G_S_72 63 62 rfl) (G_S_72 63 65 rfl) (fun b => G_S_72 102 b rfl)
        have h27 := ti_eq (G_S_72 63 23 rfl)
        have h28 := ti_eq (G_S_72 63 62 rfl)
        have h29 := ti_eq (G_S_72 63 63 rfl)
        have h30 := ti_eq (G_S_72 63 67 rfl)
        have h31 := ti_eq (G_S_72 63 68 rfl)
        have h32 := ti_eq (G_S_72 63 69 rfl)
        have h33 : (S_72.1 97 ((((S_19.1 63 62) - (1 : Int32))).toNatClampNeg)).toInt = (S_19.1 97 ((((S_19.1 63 62) - (1 : Int32))).toNatClampNeg)).toInt := ti_eq (G_S_72 97 ((((S_19.1 63 62) - (1 : Int32))).toNatClampNeg) rfl)
        have h34 : (S_72.1 97 ((((S_72.1 63 62) - (1 : Int32))).toNatClampNeg)).toInt = (S_19.1 97 ((((S_19.1 63 62) - (1 : Int32))).toNatClampNeg)).toInt := by rw [G_S_72 63 62 rfl]; exact ti_eq (G_S_72 97 ((((S_19.1 63 62) - (1 : Int32))).toNatClampNeg) rfl)
        have h35 : (S_72.1 98 ((((S_19.1 63 62) - (1 : Int32))).toNatClampNeg)).toInt = (S_19.1 98 ((((S_19.1 63 62) - (1 : Int32))).toNatClampNeg)).toInt := ti_eq (G_S_72 98 ((((S_19.1 63 62) - (1 : Int32))).toNatClampNeg) rfl)
        have h36 : (S_72.1 98 ((((S_72.1 63 62) - (1 : Int32))).toNatClampNeg)).toInt = (S_19.1 98 ((((S_19.1 63 62) - (1 : Int32))).toNatClampNeg)).toInt := by rw [G_S_72 63 62 rfl]; exact ti_eq (G_S_72 98 ((((S_19.1 63 62) - (1 : Int32))).toNatClampNeg) rfl)
        unfold fX12_step_75
        have h37 := i32 r_72
        refine Sf.i (fun c_h38 => ?_) (fun c_h38 => ?_)
        · have h39 := le_iv rfl li_0 c_h38
          unfold fX12_step_103
          have h40 := b_63_62 I_S_72
          refine Sf.b (s_fX12_goes fu hfu S_72 I_S_72 RK_S_72 TQ_S_72 (by omega)) (fun S_104 r_104 p_r_104 => ?_)
          obtain ⟨I_S_104, G_S_104, p_r_104, RK_S_104, TQ_S_104, RO_S_104⟩ := p_r_104
          have F_S_104 := Fr.tr F_S_72 G_S_104 rfl
          have RD_S_104 := RD_fr (U := S_104) RD_S_72 (G_S_104 63 20 rfl) (fun b => G_S_104 76 b rfl) (fun b => G_S_104 77 b rfl)
          have h41 := ti_eq (G_S_104 63 23 rfl)
          exact Sf.so ⟨I_S_104, F_S_104, trivial, RK_S_104, TQ_S_104, RO_S_104⟩
        · have h42 := nle_iv rfl li_0 c_h38
          refine Sf.b (s_fX12_reads_82_1000 fu hfu r_72 S_72 I_S_72 (by omega)) (fun S_86 r_86 p_r_86 => ?_)
          obtain ⟨I_S_86, G_S_86, p_r_86, RR_S_86⟩ := p_r_86
          have F_S_86 := Fr.tr F_S_72 G_S_86 rfl
          have RD_S_86 := RD_fr (U := S_86) RD_S_72 (G_S_86 63 20 rfl) (fun b => G_S_86 76 b rfl) (fun b => G_S_86 77 b rfl)
          have RK_S_86 := RK_fr (U := S_86) RK_S_72 (G_S_86 63 50 rfl) (fun b => G_S_86 92 b rfl) (fun b => G_S_86 93 b rfl) (fun b => G_S_86 94 b rfl)
          have RO_S_86 := RO_fr (U := S_86) RO_S_72 (G_S_86 63 67 rfl) (G_S_86 63 62 rfl) (fun b => G_S_86 100 b rfl)
          have TQ_S_86 := TQ_fr (U := S_86) TQ_S_72 (G_S_86 63 62 rfl) (G_S_86 63 65 rfl) (fun b => G_S_86 102 b rfl)
          have h43 := ti_eq (G_S_86 63 23 rfl)
          have h44 := ti_eq (G_S_86 63 62 rfl)
          have h45 := ti_eq (G_S_86 63 63 rfl)
          have h46 := ti_eq (G_S_86 63 67 rfl)
          have h47 := ti_eq (G_S_86 63 68 rfl)
          have h48 := ti_eq (G_S_86 63 69 rfl)
          have h49 : (S_86.1 97 ((((S_19.1 63 62) - (1 : Int32))).toNatClampNeg)).toInt = (S_72.1 97 ((((S_19.1 63 62) - (1 : Int32))).toNatClampNeg)).toInt := ti_eq (G_S_86 97 ((((S_19.1 63 62) - (1 : Int32))).toNatClampNeg) rfl)
          have h50 : (S_86.1 97 ((((S_72.1 63 62) - (1 : Int32))).toNatClampNeg)).toInt = (S_72.1 97 ((((S_72.1 63 62) - (1 : Int32))).toNatClampNeg)).toInt := ti_eq (G_S_86 97 ((((S_72.1 63 62) - (1 : Int32))).toNatClampNeg) rfl)
          have h51 : (S_86.1 97 ((((S_86.1 63 62) - (1 : Int32))).toNatClampNeg)).toInt = (S_72.1 97 ((((S_72.1 63 62) - (1 : Int32))).toNatClampNeg)).toInt := by rw [G_S_86 63 62 rfl]; exact ti_eq (G_S_86 97 ((((S_72.1 63 62) - (1 : Int32))).toNatClampNeg) rfl)
          have h52 : (S_86.1 98 ((((S_19.1 63 62) - (1 : Int32))).toNatClampNeg)).toInt = (S_72.1 98 ((((S_19.1 63 62) - (1 : Int32))).toNatClampNeg)).toInt := ti_eq (G_S_86 98 ((((S_19.1 63 62) - (1 : Int32))).toNatClampNeg) rfl)
          have h53 : (S_86.1 98 ((((S_72.1 63 62) - (1 : Int32))).toNatClampNeg)).toInt = (S_72.1 98 ((((S_72.1 63 62) - (1 : Int32))).toNatClampNeg)).toInt := ti_eq (G_S_86 98 ((((S_72.1 63 62) - (1 : Int32))).toNatClampNeg) rfl)
          have h54 : (S_86.1 98 ((((S_86.1 63 62) - (1 : Int32))).toNatClampNeg)).toInt = (S_72.1 98 ((((S_72.1 63 62) - (1 : Int32))).toNatClampNeg)).toInt := by rw [G_S_86 63 62 rfl]; exact ti_eq (G_S_86 98 ((((S_72.1 63 62) - (1 : Int32))).toNatClampNeg) rfl)
          have h55 := i32 r_86
          refine Sf.i (fun c_h56 => ?_) (fun c_h56 => ?_)
          · have h57 := eq_iv rfl li_0 c_h56
            unfold fX12_step_103
            have h58 := b_63_62 I_S_86
            refine Sf.b (s_fX12_goes fu hfu S_86 I_S_86 RK_S_86 TQ_S_86 (by omega)) (fun S_104 r_104 p_r_104 => ?_)
            obtain ⟨I_S_104, G_S_104, p_r_104, RK_S_104, TQ_S_104, RO_S_104⟩ := p_r_104
            have F_S_104 := Fr.tr F_S_86 G_S_104 rfl
            have RD_S_104 := RD_fr (U := S_104) RD_S_86 (G_S_104 63 20 rfl) (fun b => G_S_104 76 b rfl) (fun b => G_S_104 77 b rfl)
            have RR_S_104 := RR_fr (U := S_104) RR_S_86 (G_S_104 63 42 rfl) (fun b => G_S_104 87 b rfl) (fun b => G_S_104 88 b rfl)
            have h59 := ti_eq (G_S_104 63 23 rfl)
            exact Sf.so ⟨I_S_104, F_S_104, trivial, RK_S_104, TQ_S_104, RO_S_104⟩
          · have h60 := neq_iv rfl li_0 c_h56
            have h61 := b_63_62 I_S_86
            refine Sf.bp (s_fX12_isReply fu hfu S_86 I_S_86 (by omega)) (fun r_93 p_r_93 => ?_)
            have h62 := i32 r_93
            refine Sf.i (fun c_h63 => ?_) (fun c_h63 => ?_)
            · have h64 := eq_iv rfl li_0 c_h63
              unfold fX12_step_103
              refine Sf.b (s_fX12_goes fu hfu S_86 I_S_86 RK_S_86 TQ_S_86 (by omega)) (fun S_104 r_104 p_r_104 => ?_)
              obtain ⟨I_S_104, G_S_104, p_r_104, RK_S_104, TQ_S_104, RO_S_104⟩ := p_r_104
              have F_S_104 := Fr.tr F_S_86 G_S_104 rfl
              have RD_S_104 := RD_fr (U := S_104) RD_S_86 (G_S_104 63 20 rfl) (fun b => G_S_104 76 b rfl) (fun b => G_S_104 77 b rfl)
              have RR_S_104 := RR_fr (U := S_104) RR_S_86 (G_S_104 63 42 rfl) (fun b => G_S_104 87 b rfl) (fun b => G_S_104 88 b rfl)
              have h65 := ti_eq (G_S_104 63 23 rfl)
              exact Sf.so ⟨I_S_104, F_S_104, trivial, RK_S_104, TQ_S_104, RO_S_104⟩
            · have h66 := neq_iv rfl li_0 c_h63
              have hro_S_86 : (S_86.1 63 67).toInt = 1 → 1 ≤ (S_86.1 63 62).toInt ∧ 0 ≤ (S_86.1 100 (((S_86.1 63 62) - (1 : Int32))).toNatClampNeg).toInt := RO_S_86
              refine Sf.b (s_fX12_takes fu hfu S_86 I_S_86 RK_S_86 RR_S_86 (by omega) (by omega)) (fun S_100 r_100_ p_r_100_ => ?_)
              obtain ⟨I_S_100, G_S_100, p_r_100_, RK_S_100⟩ := p_r_100_
              have F_S_100 := Fr.tr F_S_86 G_S_100 rfl
              have RD_S_100 := RD_fr (U := S_100) RD_S_86 (G_S_100 63 20 rfl) (fun b => G_S_100 76 b rfl) (fun b => G_S_100 77 b rfl)
              have RO_S_100 := RO_fr (U := S_100) RO_S_86 (G_S_100 63 67 rfl) (G_S_100 63 62 rfl) (fun b => G_S_100 100 b rfl)
              have RR_S_100 := RR_fr (U := S_100) RR_S_86 (G_S_100 63 42 rfl) (fun b => G_S_100 87 b rfl) (fun b => G_S_100 88 b rfl)
              have TQ_S_100 := TQ_fr (U := S_100) TQ_S_86 (G_S_100 63 62 rfl) (G_S_100 63 65 rfl) (fun b => G_S_100 102 b rfl)
              have h67 := ti_eq (G_S_100 63 23 rfl)
              have h68 := ti_eq (G_S_100 63 62 rfl)
              have h69 := ti_eq (G_S_100 63 63 rfl)
              have h70 := ti_eq (G_S_100 63 67 rfl)
              have h71 := ti_eq (G_S_100 63 68 rfl)
              have h72 := ti_eq (G_S_100 63 69 rfl)
              have h73 : (S_100.1 97 ((((S_19.1 63 62) - (1 : Int32))).toNatClampNeg)).toInt = (S_86.1 97 ((((S_19.1 63 62) - (1 : Int32))).toNatClampNeg)).toInt := ti_eq (G_S_100 97 ((((S_19.1 63 62) - (1 : Int32))).toNatClampNeg) rfl)
              have h74 : (S_100.1 97 ((((S_72.1 63 62) - (1 : Int32))).toNatClampNeg)).toInt = (S_86.1 97 ((((S_72.1 63 62) - (1 : Int32))).toNatClampNeg)).toInt := ti_eq (G_S_100 97 ((((S_72.1 63 62) - (1 : Int32))).toNatClampNeg) rfl)
              have h75 : (S_100.1 97 ((((S_86.1 63 62) - (1 : Int32))).toNatClampNeg)).toInt = (S_86.1 97 ((((S_86.1 63 62) - (1 : Int32))).toNatClampNeg)).toInt := ti_eq (G_S_100 97 ((((S_86.1 63 62) - (1 : Int32))).toNatClampNeg) rfl)
              have h76 : (S_100.1 97 ((((S_100.1 63 62) - (1 : Int32))).toNatClampNeg)).toInt = (S_86.1 97 ((((S_86.1 63 62) - (1 : Int32))).toNatClampNeg)).toInt := by rw [G_S_100 63 62 rfl]; exact ti_eq (G_S_100 97 ((((S_86.1 63 62) - (1 : Int32))).toNatClampNeg) rfl)
              have h77 : (S_100.1 98 ((((S_19.1 63 62) - (1 : Int32))).toNatClampNeg)).toInt = (S_86.1 98 ((((S_19.1 63 62) - (1 : Int32))).toNatClampNeg)).toInt := ti_eq (G_S_100 98 ((((S_19.1 63 62) - (1 : Int32))).toNatClampNeg) rfl)
              have h78 : (S_100.1 98 ((((S_72.1 63 62) - (1 : Int32))).toNatClampNeg)).toInt = (S_86.1 98 ((((S_72.1 63 62) - (1 : Int32))).toNatClampNeg)).toInt := ti_eq (G_S_100 98 ((((S_72.1 63 62) - (1 : Int32))).toNatClampNeg) rfl)
              have h79 : (S_100.1 98 ((((S_86.1 63 62) - (1 : Int32))).toNatClampNeg)).toInt = (S_86.1 98 ((((S_86.1 63 62) - (1 : Int32))).toNatClampNeg)).toInt := ti_eq (G_S_100 98 ((((S_86.1 63 62) - (1 : Int32))).toNatClampNeg) rfl)
              have h80 : (S_100.1 98 ((((S_100.1 63 62) - (1 : Int32))).toNatClampNeg)).toInt = (S_86.1 98 ((((S_86.1 63 62) - (1 : Int32))).toNatClampNeg)).toInt := by rw [G_S_100 63 62 rfl]; exact ti_eq (G_S_100 98 ((((S_86.1 63 62) - (1 : Int32))).toNatClampNeg) rfl)
              unfold fX12_step_103
              have h81 := b_63_62 I_S_100
              refine Sf.b (s_fX12_goes fu hfu S_100 I_S_100 RK_S_100 TQ_S_100 (by omega)) (fun S_104 r_104 p_r_104 => ?_)
              obtain ⟨I_S_104, G_S_104, p_r_104, RK_S_104, TQ_S_104, RO_S_104⟩ := p_r_104
              have F_S_104 := Fr.tr F_S_100 G_S_104 rfl
              have RD_S_104 := RD_fr (U := S_104) RD_S_100 (G_S_104 63 20 rfl) (fun b => G_S_104 76 b rfl) (fun b => G_S_104 77 b rfl)
              have RR_S_104 := RR_fr (U := S_104) RR_S_100 (G_S_104 63 42 rfl) (fun b => G_S_104 87 b rfl) (fun b => G_S_104 88 b rfl)
              have h82 := ti_eq (G_S_104 63 23 rfl)
              exact Sf.so ⟨I_S_104, F_S_104, trivial, RK_S_104, TQ_S_104, RO_S_104⟩
      · have h83 := nle_iv li_0 rfl c_h22
        unfold fX12_step_75
        refine Sf.it (by decide) ?_
        unfold fX12_step_103
        have h84 := b_63_62 I_S_19
        refine Sf.b (s_fX12_goes fu hfu S_19 I_S_19 RK_S_19 TQ_S_19 (by omega)) (fun S_104 r_104 p_r_104 => ?_)
        obtain ⟨I_S_104, G_S_104, p_r_104, RK_S_104, TQ_S_104, RO_S_104⟩ := p_r_104
        have F_S_104 := Fr.tr F_S_19 G_S_104 rfl
        have RD_S_104 := RD_fr (U := S_104) RD_S_19 (G_S_104 63 20 rfl) (fun b => G_S_104 76 b rfl) (fun b => G_S_104 77 b rfl)
        have h85 := ti_eq (G_S_104 63 23 rfl)
        exact Sf.so ⟨I_S_104, F_S_104, trivial, RK_S_104, TQ_S_104, RO_S_104⟩
    · have h86 := neq_iv rfl li_0 c_h18
      exact Sf.so ⟨I_S_19, F_S_19, trivial, RK_S_19, TQ_S_19, RO_S_19⟩
  · have h87 := neq_iv rfl li_0 c_h8
    unfold fX12_step_18
    have h88 : ((0 : Int32)).toInt = 0 := li_0
    have h89 : ((1 : Int32)).toInt = 1 := li_1
    refine Sf.b (s_fX12_throwsIf fu hfu (0 : Int32) (1 : Int32) S_2 I_S_2 (by omega) (by omega)) (fun S_19 r_19 p_r_19 => ?_)
    obtain ⟨I_S_19, G_S_19, p_r_19⟩ := p_r_19
    have F_S_19 := Fr.tr F_S_2 G_S_19 rfl
    have RD_S_19 := RD_fr (U := S_19) RD_S_2 (G_S_19 63 20 rfl) (fun b => G_S_19 76 b rfl) (fun b => G_S_19 77 b rfl)
    have RK_S_19 := RK_fr (U := S_19) RK_S_2 (G_S_19 63 50 rfl) (fun b => G_S_19 92 b rfl) (fun b => G_S_19 93 b rfl) (fun b => G_S_19 94 b rfl)
    have RO_S_19 := RO_fr (U := S_19) RO_S_2 (G_S_19 63 67 rfl) (G_S_19 63 62 rfl) (fun b => G_S_19 100 b rfl)
    have TQ_S_19 := TQ_fr (U := S_19) TQ_S_2 (G_S_19 63 62 rfl) (G_S_19 63 65 rfl) (fun b => G_S_19 102 b rfl)
    have h90 := ti_eq (G_S_19 63 23 rfl)
    have h91 := ti_eq (G_S_19 63 62 rfl)
    have h92 := ti_eq (G_S_19 63 63 rfl)
    have h93 := ti_eq (G_S_19 63 67 rfl)
    have h94 := ti_eq (G_S_19 63 68 rfl)
    have h95 := ti_eq (G_S_19 63 69 rfl)
    have h96 := i32 r_19
    refine Sf.i (fun c_h97 => ?_) (fun c_h97 => ?_)
    · have h98 := eq_iv rfl li_0 c_h97
      have h99 := b_63_23 I_S_19
      refine Sf.bp (s_fX12_serverOf fu hfu (S_19.1 63 68) S_19 I_S_19) (fun r_32 p_r_32 => ?_)
      have h100 := i32 r_32
      refine Sf.i (fun c_h101 => ?_) (fun c_h101 => ?_)
      · have h102 := le_iv li_0 rfl c_h101
        have h103 := b_63_62 I_S_19
        try have h104 : (((S_19.1 63 62) - (1 : Int32))).toInt = ((S_19.1 63 62)).toInt - (1) := sub_iv rfl li_1 (by omega) (by omega)
        refine Sf.g (ck_iv (by omega) (by omega)) ?_
        refine Sf.g (ck_iv (by omega) (by omega)) ?_
        have h105 := a_97 I_S_19 ((((S_19.1 63 62) - (1 : Int32))).toNatClampNeg)
        refine Sf.b (s_fX12_says fu hfu r_32 (S_19.1 63 69) (S_19.1 97 ((((S_19.1 63 62) - (1 : Int32))).toNatClampNeg)) (S_19.1 98 ((((S_19.1 63 62) - (1 : Int32))).toNatClampNeg)) S_19 I_S_19 RD_S_19 (by omega) (by omega) (by omega) (by omega)) (fun S_72 r_72 p_r_72 => ?_)
        obtain ⟨I_S_72, G_S_72, p_r_72⟩ := p_r_72
        have F_S_72 := Fr.tr F_S_19 G_S_72 rfl
        have RD_S_72 := RD_fr (U := S_72) RD_S_19 (G_S_72 63 20 rfl) (fun b => G_S_72 76 b rfl) (fun b => G_S_72 77 b rfl)
        have RK_S_72 := RK_fr (U := S_72) RK_S_19 (G_S_72 63 50 rfl) (fun b => G_S_72 92 b rfl) (fun b => G_S_72 93 b rfl) (fun b => G_S_72 94 b rfl)
        have RO_S_72 := RO_fr (U := S_72) RO_S_19 (G_S_72 63 67 rfl) (G_S_72 63 62 rfl) (fun b => G_S_72 100 b rfl)
        have TQ_S_72 := TQ_fr (U := S_72) TQ_S_19 (G_S_72 63 62 rfl) (G_S_72 63 65 rfl) (fun b => G_S_72 102 b rfl)
        have h106 := ti_eq (G_S_72 63 23 rfl)
        have h107 := ti_eq (G_S_72 63 62 rfl)
        have h108 := ti_eq (G_S_72 63 63 rfl)
        have h109 := ti_eq (G_S_72 63 67 rfl)
        have h110 := ti_eq (G_S_72 63 68 rfl)
        have h111 := ti_eq (G_S_72 63 69 rfl)
        have h112 : (S_72.1 97 ((((S_19.1 63 62) - (1 : Int32))).toNatClampNeg)).toInt = (S_19.1 97 ((((S_19.1 63 62) - (1 : Int32))).toNatClampNeg)).toInt := ti_eq (G_S_72 97 ((((S_19.1 63 62) - (1 : Int32))).toNatClampNeg) rfl)
        have h113 : (S_72.1 97 ((((S_72.1 63 62) - (1 : Int32))).toNatClampNeg)).toInt = (S_19.1 97 ((((S_19.1 63 62) - (1 : Int32))).toNatClampNeg)).toInt := by rw [G_S_72 63 62 rfl]; exact ti_eq (G_S_72 97 ((((S_19.1 63 62) - (1 : Int32))).toNatClampNeg) rfl)
        have h114 : (S_72.1 98 ((((S_19.1 63 62) - (1 : Int32))).toNatClampNeg)).toInt = (S_19.1 98 ((((S_19.1 63 62) - (1 : Int32))).toNatClampNeg)).toInt := ti_eq (G_S_72 98 ((((S_19.1 63 62) - (1 : Int32))).toNatClampNeg) rfl)
        have h115 : (S_72.1 98 ((((S_72.1 63 62) - (1 : Int32))).toNatClampNeg)).toInt = (S_19.1 98 ((((S_19.1 63 62) - (1 : Int32))).toNatClampNeg)).toInt := by rw [G_S_72 63 62 rfl]; exact ti_eq (G_S_72 98 ((((S_19.1 63 62) - (1 : Int32))).toNatClampNeg) rfl)
        unfold fX12_step_75
        have h116 := i32 r_72
        refine Sf.i (fun c_h117 => ?_) (fun c_h117 => ?_)
        · have h118 := le_iv rfl li_0 c_h117
          unfold fX12_step_103
          have h119 := b_63_62 I_S_72
          refine Sf.b (s_fX12_goes fu hfu S_72 I_S_72 RK_S_72 TQ_S_72 (by omega)) (fun S_104 r_104 p_r_104 => ?_)
          obtain ⟨I_S_104, G_S_104, p_r_104, RK_S_104, TQ_S_104, RO_S_104⟩ := p_r_104
          have F_S_104 := Fr.tr F_S_72 G_S_104 rfl
          have RD_S_104 := RD_fr (U := S_104) RD_S_72 (G_S_104 63 20 rfl) (fun b => G_S_104 76 b rfl) (fun b => G_S_104 77 b rfl)
          have h120 := ti_eq (G_S_104 63 23 rfl)
          exact Sf.so ⟨I_S_104, F_S_104, trivial, RK_S_104, TQ_S_104, RO_S_104⟩
        · have h121 := nle_iv rfl li_0 c_h117
          refine Sf.b (s_fX12_reads_82_1000 fu hfu r_72 S_72 I_S_72 (by omega)) (fun S_86 r_86 p_r_86 => ?_)
          obtain ⟨I_S_86, G_S_86, p_r_86, RR_S_86⟩ := p_r_86
          have F_S_86 := Fr.tr F_S_72 G_S_86 rfl
          have RD_S_86 := RD_fr (U := S_86) RD_S_72 (G_S_86 63 20 rfl) (fun b => G_S_86 76 b rfl) (fun b => G_S_86 77 b rfl)
          have RK_S_86 := RK_fr (U := S_86) RK_S_72 (G_S_86 63 50 rfl) (fun b => G_S_86 92 b rfl) (fun b => G_S_86 93 b rfl) (fun b => G_S_86 94 b rfl)
          have RO_S_86 := RO_fr (U := S_86) RO_S_72 (G_S_86 63 67 rfl) (G_S_86 63 62 rfl) (fun b => G_S_86 100 b rfl)
          have TQ_S_86 := TQ_fr (U := S_86) TQ_S_72 (G_S_86 63 62 rfl) (G_S_86 63 65 rfl) (fun b => G_S_86 102 b rfl)
          have h122 := ti_eq (G_S_86 63 23 rfl)
          have h123 := ti_eq (G_S_86 63 62 rfl)
          have h124 := ti_eq (G_S_86 63 63 rfl)
          have h125 := ti_eq (G_S_86 63 67 rfl)
          have h126 := ti_eq (G_S_86 63 68 rfl)
          have h127 := ti_eq (G_S_86 63 69 rfl)
          have h128 : (S_86.1 97 ((((S_19.1 63 62) - (1 : Int32))).toNatClampNeg)).toInt = (S_72.1 97 ((((S_19.1 63 62) - (1 : Int32))).toNatClampNeg)).toInt := ti_eq (G_S_86 97 ((((S_19.1 63 62) - (1 : Int32))).toNatClampNeg) rfl)
          have h129 : (S_86.1 97 ((((S_72.1 63 62) - (1 : Int32))).toNatClampNeg)).toInt = (S_72.1 97 ((((S_72.1 63 62) - (1 : Int32))).toNatClampNeg)).toInt := ti_eq (G_S_86 97 ((((S_72.1 63 62) - (1 : Int32))).toNatClampNeg) rfl)
          have h130 : (S_86.1 97 ((((S_86.1 63 62) - (1 : Int32))).toNatClampNeg)).toInt = (S_72.1 97 ((((S_72.1 63 62) - (1 : Int32))).toNatClampNeg)).toInt := by rw [G_S_86 63 62 rfl]; exact ti_eq (G_S_86 97 ((((S_72.1 63 62) - (1 : Int32))).toNatClampNeg) rfl)
          have h131 : (S_86.1 98 ((((S_19.1 63 62) - (1 : Int32))).toNatClampNeg)).toInt = (S_72.1 98 ((((S_19.1 63 62) - (1 : Int32))).toNatClampNeg)).toInt := ti_eq (G_S_86 98 ((((S_19.1 63 62) - (1 : Int32))).toNatClampNeg) rfl)
          have h132 : (S_86.1 98 ((((S_72.1 63 62) - (1 : Int32))).toNatClampNeg)).toInt = (S_72.1 98 ((((S_72.1 63 62) - (1 : Int32))).toNatClampNeg)).toInt := ti_eq (G_S_86 98 ((((S_72.1 63 62) - (1 : Int32))).toNatClampNeg) rfl)
          have h133 : (S_86.1 98 ((((S_86.1 63 62) - (1 : Int32))).toNatClampNeg)).toInt = (S_72.1 98 ((((S_72.1 63 62) - (1 : Int32))).toNatClampNeg)).toInt := by rw [G_S_86 63 62 rfl]; exact ti_eq (G_S_86 98 ((((S_72.1 63 62) - (1 : Int32))).toNatClampNeg) rfl)
          have h134 := i32 r_86
          refine Sf.i (fun c_h135 => ?_) (fun c_h135 => ?_)
          · have h136 := eq_iv rfl li_0 c_h135
            unfold fX12_step_103
            have h137 := b_63_62 I_S_86
            refine Sf.b (s_fX12_goes fu hfu S_86 I_S_86 RK_S_86 TQ_S_86 (by omega)) (fun S_104 r_104 p_r_104 => ?_)
            obtain ⟨I_S_104, G_S_104, p_r_104, RK_S_104, TQ_S_104, RO_S_104⟩ := p_r_104
            have F_S_104 := Fr.tr F_S_86 G_S_104 rfl
            have RD_S_104 := RD_fr (U := S_104) RD_S_86 (G_S_104 63 20 rfl) (fun b => G_S_104 76 b rfl) (fun b => G_S_104 77 b rfl)
            have RR_S_104 := RR_fr (U := S_104) RR_S_86 (G_S_104 63 42 rfl) (fun b => G_S_104 87 b rfl) (fun b => G_S_104 88 b rfl)
            have h138 := ti_eq (G_S_104 63 23 rfl)
            exact Sf.so ⟨I_S_104, F_S_104, trivial, RK_S_104, TQ_S_104, RO_S_104⟩
          · have h139 := neq_iv rfl li_0 c_h135
            have h140 := b_63_62 I_S_86
            refine Sf.bp (s_fX12_isReply fu hfu S_86 I_S_86 (by omega)) (fun r_93 p_r_93 => ?_)
            have h141 := i32 r_93
            refine Sf.i (fun c_h142 => ?_) (fun c_h142 => ?_)
            · have h143 := eq_iv rfl li_0 c_h142
              unfold fX12_step_103
              refine Sf.b (s_fX12_goes fu hfu S_86 I_S_86 RK_S_86 TQ_S_86 (by omega)) (fun S_104 r_104 p_r_104 => ?_)
              obtain ⟨I_S_104, G_S_104, p_r_104, RK_S_104, TQ_S_104, RO_S_104⟩ := p_r_104
              have F_S_104 := Fr.tr F_S_86 G_S_104 rfl
              have RD_S_104 := RD_fr (U := S_104) RD_S_86 (G_S_104 63 20 rfl) (fun b => G_S_104 76 b rfl) (fun b => G_S_104 77 b rfl)
              have RR_S_104 := RR_fr (U := S_104) RR_S_86 (G_S_104 63 42 rfl) (fun b => G_S_104 87 b rfl) (fun b => G_S_104 88 b rfl)
              have h144 := ti_eq (G_S_104 63 23 rfl)
              exact Sf.so ⟨I_S_104, F_S_104, trivial, RK_S_104, TQ_S_104, RO_S_104⟩
            · have h145 := neq_iv rfl li_0 c_h142
              have hro_S_86 : (S_86.1 63 67).toInt = 1 → 1 ≤ (S_86.1 63 62).toInt ∧ 0 ≤ (S_86.1 100 (((S_86.1 63 62) - (1 : Int32))).toNatClampNeg).toInt := RO_S_86
              refine Sf.b (s_fX12_takes fu hfu S_86 I_S_86 RK_S_86 RR_S_86 (by omega) (by omega)) (fun S_100 r_100_ p_r_100_ => ?_)
              obtain ⟨I_S_100, G_S_100, p_r_100_, RK_S_100⟩ := p_r_100_
              have F_S_100 := Fr.tr F_S_86 G_S_100 rfl
              have RD_S_100 := RD_fr (U := S_100) RD_S_86 (G_S_100 63 20 rfl) (fun b => G_S_100 76 b rfl) (fun b => G_S_100 77 b rfl)
              have RO_S_100 := RO_fr (U := S_100) RO_S_86 (G_S_100 63 67 rfl) (G_S_100 63 62 rfl) (fun b => G_S_100 100 b rfl)
              have RR_S_100 := RR_fr (U := S_100) RR_S_86 (G_S_100 63 42 rfl) (fun b => G_S_100 87 b rfl) (fun b => G_S_100 88 b rfl)
              have TQ_S_100 := TQ_fr (U := S_100) TQ_S_86 (G_S_100 63 62 rfl) (G_S_100 63 65 rfl) (fun b => G_S_100 102 b rfl)
              have h146 := ti_eq (G_S_100 63 23 rfl)
              have h147 := ti_eq (G_S_100 63 62 rfl)
              have h148 := ti_eq (G_S_100 63 63 rfl)
              have h149 := ti_eq (G_S_100 63 67 rfl)
              have h150 := ti_eq (G_S_100 63 68 rfl)
              have h151 := ti_eq (G_S_100 63 69 rfl)
              have h152 : (S_100.1 97 ((((S_19.1 63 62) - (1 : Int32))).toNatClampNeg)).toInt = (S_86.1 97 ((((S_19.1 63 62) - (1 : Int32))).toNatClampNeg)).toInt := ti_eq (G_S_100 97 ((((S_19.1 63 62) - (1 : Int32))).toNatClampNeg) rfl)
              have h153 : (S_100.1 97 ((((S_72.1 63 62) - (1 : Int32))).toNatClampNeg)).toInt = (S_86.1 97 ((((S_72.1 63 62) - (1 : Int32))).toNatClampNeg)).toInt := ti_eq (G_S_100 97 ((((S_72.1 63 62) - (1 : Int32))).toNatClampNeg) rfl)
              have h154 : (S_100.1 97 ((((S_86.1 63 62) - (1 : Int32))).toNatClampNeg)).toInt = (S_86.1 97 ((((S_86.1 63 62) - (1 : Int32))).toNatClampNeg)).toInt := ti_eq (G_S_100 97 ((((S_86.1 63 62) - (1 : Int32))).toNatClampNeg) rfl)
              have h155 : (S_100.1 97 ((((S_100.1 63 62) - (1 : Int32))).toNatClampNeg)).toInt = (S_86.1 97 ((((S_86.1 63 62) - (1 : Int32))).toNatClampNeg)).toInt := by rw [G_S_100 63 62 rfl]; exact ti_eq (G_S_100 97 ((((S_86.1 63 62) - (1 : Int32))).toNatClampNeg) rfl)
              have h156 : (S_100.1 98 ((((S_19.1 63 62) - (1 : Int32))).toNatClampNeg)).toInt = (S_86.1 98 ((((S_19.1 63 62) - (1 : Int32))).toNatClampNeg)).toInt := ti_eq (G_S_100 98 ((((S_19.1 63 62) - (1 : Int32))).toNatClampNeg) rfl)
              have h157 : (S_100.1 98 ((((S_72.1 63 62) - (1 : Int32))).toNatClampNeg)).toInt = (S_86.1 98 ((((S_72.1 63 62) - (1 : Int32))).toNatClampNeg)).toInt := ti_eq (G_S_100 98 ((((S_72.1 63 62) - (1 : Int32))).toNatClampNeg) rfl)
              have h158 : (S_100.1 98 ((((S_86.1 63 62) - (1 : Int32))).toNatClampNeg)).toInt = (S_86.1 98 ((((S_86.1 63 62) - (1 : Int32))).toNatClampNeg)).toInt := ti_eq (G_S_100 98 ((((S_86.1 63 62) - (1 : Int32))).toNatClampNeg) rfl)
              have h159 : (S_100.1 98 ((((S_100.1 63 62) - (1 : Int32))).toNatClampNeg)).toInt = (S_86.1 98 ((((S_86.1 63 62) - (1 : Int32))).toNatClampNeg)).toInt := by rw [G_S_100 63 62 rfl]; exact ti_eq (G_S_100 98 ((((S_86.1 63 62) - (1 : Int32))).toNatClampNeg) rfl)
              unfold fX12_step_103
              have h160 := b_63_62 I_S_100
              refine Sf.b (s_fX12_goes fu hfu S_100 I_S_100 RK_S_100 TQ_S_100 (by omega)) (fun S_104 r_104 p_r_104 => ?_)
              obtain ⟨I_S_104, G_S_104, p_r_104, RK_S_104, TQ_S_104, RO_S_104⟩ := p_r_104
              have F_S_104 := Fr.tr F_S_100 G_S_104 rfl
              have RD_S_104 := RD_fr (U := S_104) RD_S_100 (G_S_104 63 20 rfl) (fun b => G_S_104 76 b rfl) (fun b => G_S_104 77 b rfl)
              have RR_S_104 := RR_fr (U := S_104) RR_S_100 (G_S_104 63 42 rfl) (fun b => G_S_104 87 b rfl) (fun b => G_S_104 88 b rfl)
              have h161 := ti_eq (G_S_104 63 23 rfl)
              exact Sf.so ⟨I_S_104, F_S_104, trivial, RK_S_104, TQ_S_104, RO_S_104⟩
      · have h162 := nle_iv li_0 rfl c_h101
        unfold fX12_step_75
        refine Sf.it (by decide) ?_
        unfold fX12_step_103
        have h163 := b_63_62 I_S_19
        refine Sf.b (s_fX12_goes fu hfu S_19 I_S_19 RK_S_19 TQ_S_19 (by omega)) (fun S_104 r_104 p_r_104 => ?_)
        obtain ⟨I_S_104, G_S_104, p_r_104, RK_S_104, TQ_S_104, RO_S_104⟩ := p_r_104
        have F_S_104 := Fr.tr F_S_19 G_S_104 rfl
        have RD_S_104 := RD_fr (U := S_104) RD_S_19 (G_S_104 63 20 rfl) (fun b => G_S_104 76 b rfl) (fun b => G_S_104 77 b rfl)
        have h164 := ti_eq (G_S_104 63 23 rfl)
        exact Sf.so ⟨I_S_104, F_S_104, trivial, RK_S_104, TQ_S_104, RO_S_104⟩
    · have h165 := neq_iv rfl li_0 c_h97
      exact Sf.so ⟨I_S_19, F_S_19, trivial, RK_S_19, TQ_S_19, RO_S_19⟩
set_option maxHeartbeats 4000000 in
theorem s_fX12_forge (fu : Nat) (hfu : 1000000000000000000 ≤ fu) (S : St) (I_S : Inv S) (RK_S : RK S) (TQ_S : TQ S) (RO_S : RO S) : Sf (fX12_forge fu S) (fun U r => Inv U ∧ Fr [(63, 1), (63, 6), (63, 9), (63, 11), (63, 31), (63, 32), (63, 33), (63, 34), (63, 35), (63, 36), (63, 37), (63, 43), (63, 51), (63, 54), (63, 63), (63, 64), (63, 65), (63, 66), (63, 67), (63, 68), (63, 69), (63, 70), (63, 72), (64, 0), (65, 0), (66, 0), (67, 0), (68, 0), (69, 0), (85, 0), (86, 0), (87, 0), (88, 0), (89, 0), (91, 0), (92, 0), (93, 0), (94, 0), (96, 0), (97, 0), (98, 0), (99, 0), (100, 0), (101, 0), (102, 0), (103, 0), (104, 0), (105, 0)] S U ∧ (True) ∧ RK U ∧ TQ U ∧ RO U) := by
  unfold fX12_forge
  have F_S : Fr [(63, 1), (63, 6), (63, 9), (63, 11), (63, 31), (63, 32), (63, 33), (63, 34), (63, 35), (63, 36), (63, 37), (63, 43), (63, 51), (63, 54), (63, 63), (63, 64), (63, 65), (63, 66), (63, 67), (63, 68), (63, 69), (63, 70), (63, 72), (64, 0), (65, 0), (66, 0), (67, 0), (68, 0), (69, 0), (85, 0), (86, 0), (87, 0), (88, 0), (89, 0), (91, 0), (92, 0), (93, 0), (94, 0), (96, 0), (97, 0), (98, 0), (99, 0), (100, 0), (101, 0), (102, 0), (103, 0), (104, 0), (105, 0)] S S := Fr.refl _ _
  have hro_S : (S.1 63 67).toInt = 1 → 1 ≤ (S.1 63 62).toInt ∧ 0 ≤ (S.1 100 (((S.1 63 62) - (1 : Int32))).toNatClampNeg).toInt := RO_S
  have hb1 := b_63_67 I_S
  have hb2 := b_63_62 I_S
  refine Sf.b (s_fX12_used fu hfu S I_S) (fun S_1 r_1 p_r_1 => ?_)
  obtain ⟨I_S_1, G_S_1, p_r_1⟩ := p_r_1
  have F_S_1 := Fr.tr F_S G_S_1 rfl
  have RK_S_1 := RK_fr (U := S_1) RK_S (G_S_1 63 50 rfl) (fun b => G_S_1 92 b rfl) (fun b => G_S_1 93 b rfl) (fun b => G_S_1 94 b rfl)
  have RO_S_1 := RO_fr (U := S_1) RO_S (G_S_1 63 67 rfl) (G_S_1 63 62 rfl) (fun b => G_S_1 100 b rfl)
  have TQ_S_1 := TQ_fr (U := S_1) TQ_S (G_S_1 63 62 rfl) (G_S_1 63 65 rfl) (fun b => G_S_1 102 b rfl)
  have h1 := ti_eq (G_S_1 63 62 rfl)
  have h2 := ti_eq (G_S_1 63 63 rfl)
  have h3 := ti_eq (G_S_1 63 67 rfl)
  have h4 := b_63_67 I_S_1
  refine Sf.i (fun c_h5 => ?_) (fun c_h5 => ?_)
  · have h6 := eq_iv rfl li_0 c_h5
    unfold fX12_forge_18
    have h7 : ((1 : Int32)).toInt = 1 := li_1
    refine Sf.b (s_fX12_throwsIf fu hfu (1 : Int32) (1 : Int32) S_1 I_S_1 (by omega) (by omega)) (fun S_19 r_19 p_r_19 => ?_)
    obtain ⟨I_S_19, G_S_19, p_r_19⟩ := p_r_19
    have F_S_19 := Fr.tr F_S_1 G_S_19 rfl
    have RK_S_19 := RK_fr (U := S_19) RK_S_1 (G_S_19 63 50 rfl) (fun b => G_S_19 92 b rfl) (fun b => G_S_19 93 b rfl) (fun b => G_S_19 94 b rfl)
    have RO_S_19 := RO_fr (U := S_19) RO_S_1 (G_S_19 63 67 rfl) (G_S_19 63 62 rfl) (fun b => G_S_19 100 b rfl)
    have TQ_S_19 := TQ_fr (U := S_19) TQ_S_1 (G_S_19 63 62 rfl) (G_S_19 63 65 rfl) (fun b => G_S_19 102 b rfl)
    have h8 := ti_eq (G_S_19 63 62 rfl)
    have h9 := ti_eq (G_S_19 63 63 rfl)
    have h10 := ti_eq (G_S_19 63 67 rfl)
    have h11 := i32 r_19
    refine Sf.i (fun c_h12 => ?_) (fun c_h12 => ?_)
    · have h13 := eq_iv rfl li_0 c_h12
      have h14 := i32 r_1
      refine Sf.b (s_fX12_reads_70_1040 fu hfu r_1 S_19 I_S_19 (by omega)) (fun S_33 r_33 p_r_33 => ?_)
      obtain ⟨I_S_33, G_S_33, p_r_33, RR_S_33⟩ := p_r_33
      have F_S_33 := Fr.tr F_S_19 G_S_33 rfl
      have RK_S_33 := RK_fr (U := S_33) RK_S_19 (G_S_33 63 50 rfl) (fun b => G_S_33 92 b rfl) (fun b => G_S_33 93 b rfl) (fun b => G_S_33 94 b rfl)
      have RO_S_33 := RO_fr (U := S_33) RO_S_19 (G_S_33 63 67 rfl) (G_S_33 63 62 rfl) (fun b => G_S_33 100 b rfl)
      have TQ_S_33 := TQ_fr (U := S_33) TQ_S_19 (G_S_33 63 62 rfl) (G_S_33 63 65 rfl) (fun b => G_S_33 102 b rfl)
      have h15 := ti_eq (G_S_33 63 62 rfl)
      have h16 := ti_eq (G_S_33 63 63 rfl)
      have h17 := ti_eq (G_S_33 63 67 rfl)
      have h18 := i32 r_33
      refine Sf.i (fun c_h19 => ?_) (fun c_h19 => ?_)
      · have h20 := eq_iv rfl li_0 c_h19
        exact Sf.so ⟨I_S_33, F_S_33, trivial, RK_S_33, TQ_S_33, RO_S_33⟩
      · have h21 := neq_iv rfl li_0 c_h19
        have h22 := b_63_62 I_S_33
        refine Sf.bp (s_fX12_isReply fu hfu S_33 I_S_33 (by omega)) (fun r_40 p_r_40 => ?_)
        have h23 := i32 r_40
        refine Sf.i (fun c_h24 => ?_) (fun c_h24 => ?_)
        · have h25 := eq_iv rfl li_0 c_h24
          exact Sf.so ⟨I_S_33, F_S_33, trivial, RK_S_33, TQ_S_33, RO_S_33⟩
        · have h26 := neq_iv rfl li_0 c_h24
          have hro_S_33 : (S_33.1 63 67).toInt = 1 → 1 ≤ (S_33.1 63 62).toInt ∧ 0 ≤ (S_33.1 100 (((S_33.1 63 62) - (1 : Int32))).toNatClampNeg).toInt := RO_S_33
          refine Sf.b (s_fX12_takes fu hfu S_33 I_S_33 RK_S_33 RR_S_33 (by omega) (by omega)) (fun S_49 r_49_ p_r_49_ => ?_)
          obtain ⟨I_S_49, G_S_49, p_r_49_, RK_S_49⟩ := p_r_49_
          have F_S_49 := Fr.tr F_S_33 G_S_49 rfl
          have RO_S_49 := RO_fr (U := S_49) RO_S_33 (G_S_49 63 67 rfl) (G_S_49 63 62 rfl) (fun b => G_S_49 100 b rfl)
          have RR_S_49 := RR_fr (U := S_49) RR_S_33 (G_S_49 63 42 rfl) (fun b => G_S_49 87 b rfl) (fun b => G_S_49 88 b rfl)
          have TQ_S_49 := TQ_fr (U := S_49) TQ_S_33 (G_S_49 63 62 rfl) (G_S_49 63 65 rfl) (fun b => G_S_49 102 b rfl)
          have h27 := ti_eq (G_S_49 63 62 rfl)
          have h28 := ti_eq (G_S_49 63 63 rfl)
          have h29 := ti_eq (G_S_49 63 67 rfl)
          have h30 := b_63_62 I_S_49
          refine Sf.b (s_fX12_goes fu hfu S_49 I_S_49 RK_S_49 TQ_S_49 (by omega)) (fun S_53 r_53 p_r_53 => ?_)
          obtain ⟨I_S_53, G_S_53, p_r_53, RK_S_53, TQ_S_53, RO_S_53⟩ := p_r_53
          have F_S_53 := Fr.tr F_S_49 G_S_53 rfl
          have RR_S_53 := RR_fr (U := S_53) RR_S_49 (G_S_53 63 42 rfl) (fun b => G_S_53 87 b rfl) (fun b => G_S_53 88 b rfl)
          exact Sf.so ⟨I_S_53, F_S_53, trivial, RK_S_53, TQ_S_53, RO_S_53⟩
    · have h31 := neq_iv rfl li_0 c_h12
      exact Sf.so ⟨I_S_19, F_S_19, trivial, RK_S_19, TQ_S_19, RO_S_19⟩
  · have h32 := neq_iv rfl li_0 c_h5
    unfold fX12_forge_18
    have h33 : ((0 : Int32)).toInt = 0 := li_0
    have h34 : ((1 : Int32)).toInt = 1 := li_1
    refine Sf.b (s_fX12_throwsIf fu hfu (0 : Int32) (1 : Int32) S_1 I_S_1 (by omega) (by omega)) (fun S_19 r_19 p_r_19 => ?_)
    obtain ⟨I_S_19, G_S_19, p_r_19⟩ := p_r_19
    have F_S_19 := Fr.tr F_S_1 G_S_19 rfl
    have RK_S_19 := RK_fr (U := S_19) RK_S_1 (G_S_19 63 50 rfl) (fun b => G_S_19 92 b rfl) (fun b => G_S_19 93 b rfl) (fun b => G_S_19 94 b rfl)
    have RO_S_19 := RO_fr (U := S_19) RO_S_1 (G_S_19 63 67 rfl) (G_S_19 63 62 rfl) (fun b => G_S_19 100 b rfl)
    have TQ_S_19 := TQ_fr (U := S_19) TQ_S_1 (G_S_19 63 62 rfl) (G_S_19 63 65 rfl) (fun b => G_S_19 102 b rfl)
    have h35 := ti_eq (G_S_19 63 62 rfl)
    have h36 := ti_eq (G_S_19 63 63 rfl)
    have h37 := ti_eq (G_S_19 63 67 rfl)
    have h38 := i32 r_19
    refine Sf.i (fun c_h39 => ?_) (fun c_h39 => ?_)
    · have h40 := eq_iv rfl li_0 c_h39
      have h41 := i32 r_1
      refine Sf.b (s_fX12_reads_70_1040 fu hfu r_1 S_19 I_S_19 (by omega)) (fun S_33 r_33 p_r_33 => ?_)
      obtain ⟨I_S_33, G_S_33, p_r_33, RR_S_33⟩ := p_r_33
      have F_S_33 := Fr.tr F_S_19 G_S_33 rfl
      have RK_S_33 := RK_fr (U := S_33) RK_S_19 (G_S_33 63 50 rfl) (fun b => G_S_33 92 b rfl) (fun b => G_S_33 93 b rfl) (fun b => G_S_33 94 b rfl)
      have RO_S_33 := RO_fr (U := S_33) RO_S_19 (G_S_33 63 67 rfl) (G_S_33 63 62 rfl) (fun b => G_S_33 100 b rfl)
      have TQ_S_33 := TQ_fr (U := S_33) TQ_S_19 (G_S_33 63 62 rfl) (G_S_33 63 65 rfl) (fun b => G_S_33 102 b rfl)
      have h42 := ti_eq (G_S_33 63 62 rfl)
      have h43 := ti_eq (G_S_33 63 63 rfl)
      have h44 := ti_eq (G_S_33 63 67 rfl)
      have h45 := i32 r_33
      refine Sf.i (fun c_h46 => ?_) (fun c_h46 => ?_)
      · have h47 := eq_iv rfl li_0 c_h46
        exact Sf.so ⟨I_S_33, F_S_33, trivial, RK_S_33, TQ_S_33, RO_S_33⟩
      · have h48 := neq_iv rfl li_0 c_h46
        have h49 := b_63_62 I_S_33
        refine Sf.bp (s_fX12_isReply fu hfu S_33 I_S_33 (by omega)) (fun r_40 p_r_40 => ?_)
        have h50 := i32 r_40
        refine Sf.i (fun c_h51 => ?_) (fun c_h51 => ?_)
        · have h52 := eq_iv rfl li_0 c_h51
          exact Sf.so ⟨I_S_33, F_S_33, trivial, RK_S_33, TQ_S_33, RO_S_33⟩
        · have h53 := neq_iv rfl li_0 c_h51
          have hro_S_33 : (S_33.1 63 67).toInt = 1 → 1 ≤ (S_33.1 63 62).toInt ∧ 0 ≤ (S_33.1 100 (((S_33.1 63 62) - (1 : Int32))).toNatClampNeg).toInt := RO_S_33
          refine Sf.b (s_fX12_takes fu hfu S_33 I_S_33 RK_S_33 RR_S_33 (by omega) (by omega)) (fun S_49 r_49_ p_r_49_ => ?_)
          obtain ⟨I_S_49, G_S_49, p_r_49_, RK_S_49⟩ := p_r_49_
          have F_S_49 := Fr.tr F_S_33 G_S_49 rfl
          have RO_S_49 := RO_fr (U := S_49) RO_S_33 (G_S_49 63 67 rfl) (G_S_49 63 62 rfl) (fun b => G_S_49 100 b rfl)
          have RR_S_49 := RR_fr (U := S_49) RR_S_33 (G_S_49 63 42 rfl) (fun b => G_S_49 87 b rfl) (fun b => G_S_49 88 b rfl)
          have TQ_S_49 := TQ_fr (U := S_49) TQ_S_33 (G_S_49 63 62 rfl) (G_S_49 63 65 rfl) (fun b => G_S_49 102 b rfl)
          have h54 := ti_eq (G_S_49 63 62 rfl)
          have h55 := ti_eq (G_S_49 63 63 rfl)
          have h56 := ti_eq (G_S_49 63 67 rfl)
          have h57 := b_63_62 I_S_49
          refine Sf.b (s_fX12_goes fu hfu S_49 I_S_49 RK_S_49 TQ_S_49 (by omega)) (fun S_53 r_53 p_r_53 => ?_)
          obtain ⟨I_S_53, G_S_53, p_r_53, RK_S_53, TQ_S_53, RO_S_53⟩ := p_r_53
          have F_S_53 := Fr.tr F_S_49 G_S_53 rfl
          have RR_S_53 := RR_fr (U := S_53) RR_S_49 (G_S_53 63 42 rfl) (fun b => G_S_53 87 b rfl) (fun b => G_S_53 88 b rfl)
          exact Sf.so ⟨I_S_53, F_S_53, trivial, RK_S_53, TQ_S_53, RO_S_53⟩
    · have h58 := neq_iv rfl li_0 c_h39
      exact Sf.so ⟨I_S_19, F_S_19, trivial, RK_S_19, TQ_S_19, RO_S_19⟩
