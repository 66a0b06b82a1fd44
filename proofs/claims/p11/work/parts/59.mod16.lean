theorem s_fX12_tries (fu : Nat) (hfu : 1000000000000000000 ≤ fu) (x1 : Int32) (x2 : Int32) (S : St) (I_S : Inv S) (TQ_S : TQ S) (g0 : 0 ≤ (x1).toInt) (g1 : (x1).toInt < 4) (g2 : (x1).toInt < (S.1 63 62).toInt) (g3 : -1 ≤ (x2).toInt) (g4 : (x2).toInt < (S.1 63 50).toInt) : Sf (fX12_tries fu x1 x2 S) (fun U r => Inv U ∧ Fr [(63, 64), (63, 65), (63, 66), (63, 67), (63, 68), (63, 69), (63, 70), (101, 0), (102, 0)] S U ∧ ((0 ≤ r.toInt) ∧ (r.toInt ≤ 1) ∧ ((r.toInt = 1 → (U.1 63 67).toInt = 1 ∨ (U.1 63 63).toInt = 3))) ∧ TQ U ∧ U.2 = S.2 ∧ (r = 0 → U = S)) := by
  unfold fX12_tries
  have F_S : Fr [(63, 64), (63, 65), (63, 66), (63, 67), (63, 68), (63, 69), (63, 70), (101, 0), (102, 0)] S S := Fr.refl _ _
  have L_S : S.2 = S.2 := rfl
  have h1 := b_63_62 I_S
  have h2 := b_63_50 I_S
  have h3 := i32 x2
  refine Sf.i (fun c_h4 => ?_) (fun c_h4 => ?_)
  · have h5 := le_iv li_0 rfl c_h4
    have h6 := i32 x1
    have h7 : ((0 : Int32)).toInt = 0 := li_0
    have h8 := b_63_62 I_S
    have h9 := b_63_50 I_S
    refine Sf.mono (s_fX12_tries_54 fu hfu fu x1 x2 (0 : Int32) S I_S TQ_S (by omega) (by omega) (by omega) (by omega) (by omega) (by omega) (by omega)) (fun U r p_h10 => ?_)
    obtain ⟨I_U, G_U, p_h10, TQ_U, L0_U, EQ0_U⟩ := p_h10
    have h11 := b_63_67 I_U
    have h12 := ti_eq (G_U 63 25 rfl)
    have h13 := ti_eq (G_U 63 50 rfl)
    have h14 := ti_eq (G_U 63 62 rfl)
    have L_U := L0_U.trans L_S
    exact ⟨I_U, Fr.tr F_S G_U rfl, by omega, TQ_U, L_U, (by first | exact fun _ => rfl | exact EQ0_U | exact fun h => absurd h (by decide))⟩
  · have h15 := nle_iv li_0 rfl c_h4
    have h16 := i32 x1
    have h17 : ((0 : Int32)).toInt = 0 := li_0
    have h18 := b_63_62 I_S
    refine Sf.mono (s_fX12_tries_6 fu hfu fu x1 (0 : Int32) S I_S TQ_S (by omega) (by omega) (by omega) (by omega) (by omega)) (fun U r p_h19 => ?_)
    obtain ⟨I_U, G_U, p_h19, TQ_U, L0_U, EQ0_U⟩ := p_h19
    have h20 := b_63_67 I_U
    have h21 := ti_eq (G_U 63 25 rfl)
    have h22 := ti_eq (G_U 63 50 rfl)
    have h23 := ti_eq (G_U 63 62 rfl)
    have L_U := L0_U.trans L_S
    exact ⟨I_U, Fr.tr F_S G_U rfl, by omega, TQ_U, L_U, (by first | exact fun _ => rfl | exact EQ0_U | exact fun h => absurd h (by decide))⟩
theorem s_fX12_opens (fu : Nat) (hfu : 1000000000000000000 ≤ fu) (x1 : Int32) (x2 : Int32) (S : St) (I_S : Inv S) (TQ_S : TQ S) (g0 : (S.1 63 62).toInt < 4) (g1 : 0 ≤ (x1).toInt) (g2 : (x1).toInt ≤ 299) : Sf (fX12_opens fu x1 x2 S) (fun U r => Inv U ∧ Fr [(63, 63), (97, 0), (98, 0), (99, 0), (100, 0), (102, 0), (103, 0)] S U ∧ (((U.1 63 62).toInt = (S.1 63 62).toInt + 1)) ∧ TQ U ∧ U.2 = S.2 ∧ (OP S U)) := by
  unfold fX12_opens
  have F_S : Fr [(63, 63), (97, 0), (98, 0), (99, 0), (100, 0), (102, 0), (103, 0)] S S := Fr.refl _ _
  have L_S : S.2 = S.2 := rfl
  have h1 := b_63_62 I_S
  have h2 := b_63_62 I_S
  refine Sf.g (ck_iv (by omega) (by omega)) ?_
  have h3 := i32 x1
  refine Sf.w I_S F_S rfl (show ((0) : Int) ≤ (x1).toInt by omega) (show (x1).toInt ≤ (299 : Int) by omega) (fun S_9 I_S_9 F_S_9 v_S_9 f_S_9 l_S_9 => ?_)
  have h4 := ti_eq (f_S_9 63 62 (fun e => absurd e (by decide)))
  have h5 : (S_9.1 97 (((S.1 63 62)).toNatClampNeg)).toInt = (x1).toInt := eq_iv rfl rfl v_S_9
  have h6 : (S_9.1 97 (((S_9.1 63 62)).toNatClampNeg)).toInt = (x1).toInt := by rw [f_S_9 63 62 (fun e => absurd e (by decide))]; exact eq_iv rfl rfl v_S_9
  have L_S_9 := l_S_9.trans L_S
  have TQ_S_9 := TQ_fr (U := S_9) TQ_S (f_S_9 63 62 (fun e => absurd e (by decide))) (f_S_9 63 65 (fun e => absurd e (by decide))) (fun b => f_S_9 102 b (fun e => absurd e (by decide)))
  have h7 := b_63_62 I_S_9
  refine Sf.g (ck_iv (by omega) (by omega)) ?_
  have h8 := i32 x2
  refine Sf.w I_S_9 F_S_9 rfl (i32 _).1 (i32 _).2 (fun S_19 I_S_19 F_S_19 v_S_19 f_S_19 l_S_19 => ?_)
  have h9 := ti_eq (f_S_19 63 62 (fun e => absurd e (by decide)))
  have h10 : (S_19.1 98 (((S_9.1 63 62)).toNatClampNeg)).toInt = (x2).toInt := eq_iv rfl rfl v_S_19
  have h11 : (S_19.1 98 (((S_19.1 63 62)).toNatClampNeg)).toInt = (x2).toInt := by rw [f_S_19 63 62 (fun e => absurd e (by decide))]; exact eq_iv rfl rfl v_S_19
  have L_S_19 := l_S_19.trans L_S_9
  have TQ_S_19 := TQ_fr (U := S_19) TQ_S_9 (f_S_19 63 62 (fun e => absurd e (by decide))) (f_S_19 63 65 (fun e => absurd e (by decide))) (fun b => f_S_19 102 b (fun e => absurd e (by decide)))
  have h12 : (S_19.1 97 (((S.1 63 62)).toNatClampNeg)).toInt = (S_9.1 97 (((S.1 63 62)).toNatClampNeg)).toInt := ti_eq (f_S_19 97 (((S.1 63 62)).toNatClampNeg) (fun e => absurd e (by decide)))
  have h13 : (S_19.1 97 (((S_9.1 63 62)).toNatClampNeg)).toInt = (S_9.1 97 (((S_9.1 63 62)).toNatClampNeg)).toInt := ti_eq (f_S_19 97 (((S_9.1 63 62)).toNatClampNeg) (fun e => absurd e (by decide)))
  have h14 : (S_19.1 97 (((S_19.1 63 62)).toNatClampNeg)).toInt = (S_9.1 97 (((S_9.1 63 62)).toNatClampNeg)).toInt := by rw [f_S_19 63 62 (fun e => absurd e (by decide))]; exact ti_eq (f_S_19 97 (((S_9.1 63 62)).toNatClampNeg) (fun e => absurd e (by decide)))
  have h15 := b_63_62 I_S_19
  refine Sf.g (ck_iv (by omega) (by omega)) ?_
  refine Sf.w I_S_19 F_S_19 rfl (show ((0) : Int) ≤ ((0 : Int32)).toInt by rw [li_0]; omega) (show ((0 : Int32)).toInt ≤ (8 : Int) by rw [li_0]; omega) (fun S_29 I_S_29 F_S_29 v_S_29 f_S_29 l_S_29 => ?_)
  have h16 := ti_eq (f_S_29 63 62 (fun e => absurd e (by decide)))
  have h17 : (S_29.1 99 (((S_19.1 63 62)).toNatClampNeg)).toInt = (0) := eq_iv rfl li_0 v_S_29
  have h18 : (S_29.1 99 (((S_29.1 63 62)).toNatClampNeg)).toInt = (0) := by rw [f_S_29 63 62 (fun e => absurd e (by decide))]; exact eq_iv rfl li_0 v_S_29
  have L_S_29 := l_S_29.trans L_S_19
  have TQ_S_29 := TQ_fr (U := S_29) TQ_S_19 (f_S_29 63 62 (fun e => absurd e (by decide))) (f_S_29 63 65 (fun e => absurd e (by decide))) (fun b => f_S_29 102 b (fun e => absurd e (by decide)))
  have h19 : (S_29.1 97 (((S.1 63 62)).toNatClampNeg)).toInt = (S_19.1 97 (((S.1 63 62)).toNatClampNeg)).toInt := ti_eq (f_S_29 97 (((S.1 63 62)).toNatClampNeg) (fun e => absurd e (by decide)))
  have h20 : (S_29.1 97 (((S_19.1 63 62)).toNatClampNeg)).toInt = (S_19.1 97 (((S_19.1 63 62)).toNatClampNeg)).toInt := ti_eq (f_S_29 97 (((S_19.1 63 62)).toNatClampNeg) (fun e => absurd e (by decide)))
  have h21 : (S_29.1 97 (((S_29.1 63 62)).toNatClampNeg)).toInt = (S_19.1 97 (((S_19.1 63 62)).toNatClampNeg)).toInt := by rw [f_S_29 63 62 (fun e => absurd e (by decide))]; exact ti_eq (f_S_29 97 (((S_19.1 63 62)).toNatClampNeg) (fun e => absurd e (by decide)))
  have h22 : (S_29.1 97 (((S_9.1 63 62)).toNatClampNeg)).toInt = (S_19.1 97 (((S_9.1 63 62)).toNatClampNeg)).toInt := ti_eq (f_S_29 97 (((S_9.1 63 62)).toNatClampNeg) (fun e => absurd e (by decide)))
  have h23 : (S_29.1 98 (((S_19.1 63 62)).toNatClampNeg)).toInt = (S_19.1 98 (((S_19.1 63 62)).toNatClampNeg)).toInt := ti_eq (f_S_29 98 (((S_19.1 63 62)).toNatClampNeg) (fun e => absurd e (by decide)))
  have h24 : (S_29.1 98 (((S_29.1 63 62)).toNatClampNeg)).toInt = (S_19.1 98 (((S_19.1 63 62)).toNatClampNeg)).toInt := by rw [f_S_29 63 62 (fun e => absurd e (by decide))]; exact ti_eq (f_S_29 98 (((S_19.1 63 62)).toNatClampNeg) (fun e => absurd e (by decide)))
  have h25 : (S_29.1 98 (((S_9.1 63 62)).toNatClampNeg)).toInt = (S_19.1 98 (((S_9.1 63 62)).toNatClampNeg)).toInt := ti_eq (f_S_29 98 (((S_9.1 63 62)).toNatClampNeg) (fun e => absurd e (by decide)))
  have h26 := b_63_62 I_S_29
  refine Sf.g (ck_iv (by omega) (by omega)) ?_
  refine Sf.w I_S_29 F_S_29 rfl (show ((-1) : Int) ≤ ((-1 : Int32)).toInt by rw [li_m1]; omega) (show ((-1 : Int32)).toInt ≤ (299 : Int) by rw [li_m1]; omega) (fun S_39 I_S_39 F_S_39 v_S_39 f_S_39 l_S_39 => ?_)
  have h27 := ti_eq (f_S_39 63 62 (fun e => absurd e (by decide)))
  have h28 : (S_39.1 100 (((S_29.1 63 62)).toNatClampNeg)).toInt = (-1) := eq_iv rfl li_m1 v_S_39
  have h29 : (S_39.1 100 (((S_39.1 63 62)).toNatClampNeg)).toInt = (-1) := by rw [f_S_39 63 62 (fun e => absurd e (by decide))]; exact eq_iv rfl li_m1 v_S_39
  have L_S_39 := l_S_39.trans L_S_29
  have TQ_S_39 := TQ_fr (U := S_39) TQ_S_29 (f_S_39 63 62 (fun e => absurd e (by decide))) (f_S_39 63 65 (fun e => absurd e (by decide))) (fun b => f_S_39 102 b (fun e => absurd e (by decide)))
  have h30 : (S_39.1 97 (((S.1 63 62)).toNatClampNeg)).toInt = (S_29.1 97 (((S.1 63 62)).toNatClampNeg)).toInt := ti_eq (f_S_39 97 (((S.1 63 62)).toNatClampNeg) (fun e => absurd e (by decide)))
  have h31 : (S_39.1 97 (((S_19.1 63 62)).toNatClampNeg)).toInt = (S_29.1 97 (((S_19.1 63 62)).toNatClampNeg)).toInt := ti_eq (f_S_39 97 (((S_19.1 63 62)).toNatClampNeg) (fun e => absurd e (by decide)))
  have h32 : (S_39.1 97 (((S_29.1 63 62)).toNatClampNeg)).toInt = (S_29.1 97 (((S_29.1 63 62)).toNatClampNeg)).toInt := ti_eq (f_S_39 97 (((S_29.1 63 62)).toNatClampNeg) (fun e => absurd e (by decide)))
  have h33 : (S_39.1 97 (((S_39.1 63 62)).toNatClampNeg)).toInt = (S_29.1 97 (((S_29.1 63 62)).toNatClampNeg)).toInt := by rw [f_S_39 63 62 (fun e => absurd e (by decide))]; exact ti_eq (f_S_39 97 (((S_29.1 63 62)).toNatClampNeg) (fun e => absurd e (by decide)))
  have h34 : (S_39.1 97 (((S_9.1 63 62)).toNatClampNeg)).toInt = (S_29.1 97 (((S_9.1 63 62)).toNatClampNeg)).toInt := ti_eq (f_S_39 97 (((S_9.1 63 62)).toNatClampNeg) (fun e => absurd e (by decide)))
  have h35 : (S_39.1 98 (((S_19.1 63 62)).toNatClampNeg)).toInt = (S_29.1 98 (((S_19.1 63 62)).toNatClampNeg)).toInt := ti_eq (f_S_39 98 (((S_19.1 63 62)).toNatClampNeg) (fun e => absurd e (by decide)))
  have h36 : (S_39.1 98 (((S_29.1 63 62)).toNatClampNeg)).toInt = (S_29.1 98 (((S_29.1 63 62)).toNatClampNeg)).toInt := ti_eq (f_S_39 98 (((S_29.1 63 62)).toNatClampNeg) (fun e => absurd e (by decide)))
  have h37 : (S_39.1 98 (((S_39.1 63 62)).toNatClampNeg)).toInt = (S_29.1 98 (((S_29.1 63 62)).toNatClampNeg)).toInt := by rw [f_S_39 63 62 (fun e => absurd e (by decide))]; exact ti_eq (f_S_39 98 (((S_29.1 63 62)).toNatClampNeg) (fun e => absurd e (by decide)))
  have h38 : (S_39.1 98 (((S_9.1 63 62)).toNatClampNeg)).toInt = (S_29.1 98 (((S_9.1 63 62)).toNatClampNeg)).toInt := ti_eq (f_S_39 98 (((S_9.1 63 62)).toNatClampNeg) (fun e => absurd e (by decide)))
  have h39 : (S_39.1 99 (((S_19.1 63 62)).toNatClampNeg)).toInt = (S_29.1 99 (((S_19.1 63 62)).toNatClampNeg)).toInt := ti_eq (f_S_39 99 (((S_19.1 63 62)).toNatClampNeg) (fun e => absurd e (by decide)))
  have h40 : (S_39.1 99 (((S_29.1 63 62)).toNatClampNeg)).toInt = (S_29.1 99 (((S_29.1 63 62)).toNatClampNeg)).toInt := ti_eq (f_S_39 99 (((S_29.1 63 62)).toNatClampNeg) (fun e => absurd e (by decide)))
  have h41 : (S_39.1 99 (((S_39.1 63 62)).toNatClampNeg)).toInt = (S_29.1 99 (((S_29.1 63 62)).toNatClampNeg)).toInt := by rw [f_S_39 63 62 (fun e => absurd e (by decide))]; exact ti_eq (f_S_39 99 (((S_29.1 63 62)).toNatClampNeg) (fun e => absurd e (by decide)))
  have h42 := b_63_62 I_S_39
  refine Sf.b (s_fX12_anew fu hfu (S_39.1 63 62) S_39 I_S_39 TQ_S_39 (by omega) (by omega)) (fun S_45 r_45_ p_r_45_ => ?_)
  obtain ⟨I_S_45, G_S_45, p_r_45_, TQ_S_45, L0_S_45, AN_S_45⟩ := p_r_45_
  have L_S_45 := L0_S_45.trans L_S_39
  have F_S_45 := Fr.tr F_S_39 G_S_45 rfl
  have h43 := ti_eq (G_S_45 63 62 rfl)
  have h44 : (S_45.1 97 (((S.1 63 62)).toNatClampNeg)).toInt = (S_39.1 97 (((S.1 63 62)).toNatClampNeg)).toInt := ti_eq (G_S_45 97 (((S.1 63 62)).toNatClampNeg) rfl)
  have h45 : (S_45.1 97 (((S_19.1 63 62)).toNatClampNeg)).toInt = (S_39.1 97 (((S_19.1 63 62)).toNatClampNeg)).toInt := ti_eq (G_S_45 97 (((S_19.1 63 62)).toNatClampNeg) rfl)
  have h46 : (S_45.1 97 (((S_29.1 63 62)).toNatClampNeg)).toInt = (S_39.1 97 (((S_29.1 63 62)).toNatClampNeg)).toInt := ti_eq (G_S_45 97 (((S_29.1 63 62)).toNatClampNeg) rfl)
  have h47 : (S_45.1 97 (((S_39.1 63 62)).toNatClampNeg)).toInt = (S_39.1 97 (((S_39.1 63 62)).toNatClampNeg)).toInt := ti_eq (G_S_45 97 (((S_39.1 63 62)).toNatClampNeg) rfl)
  have h48 : (S_45.1 97 (((S_45.1 63 62)).toNatClampNeg)).toInt = (S_39.1 97 (((S_39.1 63 62)).toNatClampNeg)).toInt := by rw [G_S_45 63 62 rfl]; exact ti_eq (G_S_45 97 (((S_39.1 63 62)).toNatClampNeg) rfl)
  have h49 : (S_45.1 97 (((S_9.1 63 62)).toNatClampNeg)).toInt = (S_39.1 97 (((S_9.1 63 62)).toNatClampNeg)).toInt := ti_eq (G_S_45 97 (((S_9.1 63 62)).toNatClampNeg) rfl)
  have h50 : (S_45.1 98 (((S_19.1 63 62)).toNatClampNeg)).toInt = (S_39.1 98 (((S_19.1 63 62)).toNatClampNeg)).toInt := ti_eq (G_S_45 98 (((S_19.1 63 62)).toNatClampNeg) rfl)
  have h51 : (S_45.1 98 (((S_29.1 63 62)).toNatClampNeg)).toInt = (S_39.1 98 (((S_29.1 63 62)).toNatClampNeg)).toInt := ti_eq (G_S_45 98 (((S_29.1 63 62)).toNatClampNeg) rfl)
  have h52 : (S_45.1 98 (((S_39.1 63 62)).toNatClampNeg)).toInt = (S_39.1 98 (((S_39.1 63 62)).toNatClampNeg)).toInt := ti_eq (G_S_45 98 (((S_39.1 63 62)).toNatClampNeg) rfl)
  have h53 : (S_45.1 98 (((S_45.1 63 62)).toNatClampNeg)).toInt = (S_39.1 98 (((S_39.1 63 62)).toNatClampNeg)).toInt := by rw [G_S_45 63 62 rfl]; exact ti_eq (G_S_45 98 (((S_39.1 63 62)).toNatClampNeg) rfl)
  have h54 : (S_45.1 98 (((S_9.1 63 62)).toNatClampNeg)).toInt = (S_39.1 98 (((S_9.1 63 62)).toNatClampNeg)).toInt := ti_eq (G_S_45 98 (((S_9.1 63 62)).toNatClampNeg) rfl)
  have h55 : (S_45.1 99 (((S_19.1 63 62)).toNatClampNeg)).toInt = (S_39.1 99 (((S_19.1 63 62)).toNatClampNeg)).toInt := ti_eq (G_S_45 99 (((S_19.1 63 62)).toNatClampNeg) rfl)
  have h56 : (S_45.1 99 (((S_29.1 63 62)).toNatClampNeg)).toInt = (S_39.1 99 (((S_29.1 63 62)).toNatClampNeg)).toInt := ti_eq (G_S_45 99 (((S_29.1 63 62)).toNatClampNeg) rfl)
  have h57 : (S_45.1 99 (((S_39.1 63 62)).toNatClampNeg)).toInt = (S_39.1 99 (((S_39.1 63 62)).toNatClampNeg)).toInt := ti_eq (G_S_45 99 (((S_39.1 63 62)).toNatClampNeg) rfl)
  have h58 : (S_45.1 99 (((S_45.1 63 62)).toNatClampNeg)).toInt = (S_39.1 99 (((S_39.1 63 62)).toNatClampNeg)).toInt := by rw [G_S_45 63 62 rfl]; exact ti_eq (G_S_45 99 (((S_39.1 63 62)).toNatClampNeg) rfl)
  have h59 : (S_45.1 100 (((S_29.1 63 62)).toNatClampNeg)).toInt = (S_39.1 100 (((S_29.1 63 62)).toNatClampNeg)).toInt := ti_eq (G_S_45 100 (((S_29.1 63 62)).toNatClampNeg) rfl)
  have h60 : (S_45.1 100 (((S_39.1 63 62)).toNatClampNeg)).toInt = (S_39.1 100 (((S_39.1 63 62)).toNatClampNeg)).toInt := ti_eq (G_S_45 100 (((S_39.1 63 62)).toNatClampNeg) rfl)
  have h61 : (S_45.1 100 (((S_45.1 63 62)).toNatClampNeg)).toInt = (S_39.1 100 (((S_39.1 63 62)).toNatClampNeg)).toInt := by rw [G_S_45 63 62 rfl]; exact ti_eq (G_S_45 100 (((S_39.1 63 62)).toNatClampNeg) rfl)
  have h62 := b_63_62 I_S_45
  try have h63 : (((S_45.1 63 62) + (1 : Int32))).toInt = ((S_45.1 63 62)).toInt + (1) := add_iv rfl li_1 (by omega) (by omega)
  refine Sf.w I_S_45 F_S_45 rfl (show ((0) : Int) ≤ (((S_45.1 63 62) + (1 : Int32))).toInt by omega) (show (((S_45.1 63 62) + (1 : Int32))).toInt ≤ (4 : Int) by omega) (fun S_55 I_S_55 F_S_55 v_S_55 f_S_55 l_S_55 => ?_)
  have h64 := eq_iv rfl rfl v_S_55
  have L_S_55 := l_S_55.trans L_S_45
  have hq := b_63_65 I_S_45
  have c_S := cl_iv (b_63_62 I_S).1
  have c_S_9 := cl_iv (b_63_62 I_S_9).1
  have c_S_19 := cl_iv (b_63_62 I_S_19).1
  have c_S_29 := cl_iv (b_63_62 I_S_29).1
  have c_S_39 := cl_iv (b_63_62 I_S_39).1
  have TQ_S_55 : TQ S_55 := TQ_inc TQ_S_45 f_S_55 (by omega) (i := ((S_39.1 63 62)).toNatClampNeg) (by omega) (by omega)
  have OP_S_55 : OP S S_55 := fun g hg => ⟨by rw [f_S_55 97 _ (fun e => absurd e (by decide)), G_S_45 97 _ rfl, f_S_39 97 _ (fun e => absurd e (by decide)), f_S_29 97 _ (fun e => absurd e (by decide)), f_S_19 97 _ (fun e => absurd e (by decide)), f_S_9 97 _ (fun _ e => by omega)], by rw [f_S_55 99 _ (fun e => absurd e (by decide)), G_S_45 99 _ rfl, f_S_39 99 _ (fun e => absurd e (by decide)), f_S_29 99 _ (fun _ e => by omega), f_S_19 99 _ (fun e => absurd e (by decide)), f_S_9 99 _ (fun e => absurd e (by decide))], by rw [f_S_55 100 _ (fun e => absurd e (by decide)), G_S_45 100 _ rfl, f_S_39 100 _ (fun _ e => by omega), f_S_29 100 _ (fun e => absurd e (by decide)), f_S_19 100 _ (fun e => absurd e (by decide)), f_S_9 100 _ (fun e => absurd e (by decide))], fun k hk => by rw [f_S_55 103 _ (fun e => absurd e (by decide)), AN_S_45 _ (by omega), f_S_39 103 _ (fun e => absurd e (by decide)), f_S_29 103 _ (fun e => absurd e (by decide)), f_S_19 103 _ (fun e => absurd e (by decide)), f_S_9 103 _ (fun e => absurd e (by decide))]⟩
  have h65 : (S_55.1 97 (((S.1 63 62)).toNatClampNeg)).toInt = (S_45.1 97 (((S.1 63 62)).toNatClampNeg)).toInt := ti_eq (f_S_55 97 (((S.1 63 62)).toNatClampNeg) (fun e => absurd e (by decide)))
  have h66 : (S_55.1 97 (((S_19.1 63 62)).toNatClampNeg)).toInt = (S_45.1 97 (((S_19.1 63 62)).toNatClampNeg)).toInt := ti_eq (f_S_55 97 (((S_19.1 63 62)).toNatClampNeg) (fun e => absurd e (by decide)))
  have h67 : (S_55.1 97 (((S_29.1 63 62)).toNatClampNeg)).toInt = (S_45.1 97 (((S_29.1 63 62)).toNatClampNeg)).toInt := ti_eq (f_S_55 97 (((S_29.1 63 62)).toNatClampNeg) (fun e => absurd e (by decide)))
  have h68 : (S_55.1 97 (((S_39.1 63 62)).toNatClampNeg)).toInt = (S_45.1 97 (((S_39.1 63 62)).toNatClampNeg)).toInt := ti_eq (f_S_55 97 (((S_39.1 63 62)).toNatClampNeg) (fun e => absurd e (by decide)))
  have h69 : (S_55.1 97 (((S_45.1 63 62)).toNatClampNeg)).toInt = (S_45.1 97 (((S_45.1 63 62)).toNatClampNeg)).toInt := ti_eq (f_S_55 97 (((S_45.1 63 62)).toNatClampNeg) (fun e => absurd e (by decide)))
  have h70 : (S_55.1 97 (((S_9.1 63 62)).toNatClampNeg)).toInt = (S_45.1 97 (((S_9.1 63 62)).toNatClampNeg)).toInt := ti_eq (f_S_55 97 (((S_9.1 63 62)).toNatClampNeg) (fun e => absurd e (by decide)))
  have h71 : (S_55.1 98 (((S_19.1 63 62)).toNatClampNeg)).toInt = (S_45.1 98 (((S_19.1 63 62)).toNatClampNeg)).toInt := ti_eq (f_S_55 98 (((S_19.1 63 62)).toNatClampNeg) (fun e => absurd e (by decide)))
  have h72 : (S_55.1 98 (((S_29.1 63 62)).toNatClampNeg)).toInt = (S_45.1 98 (((S_29.1 63 62)).toNatClampNeg)).toInt := ti_eq (f_S_55 98 (((S_29.1 63 62)).toNatClampNeg) (fun e => absurd e (by decide)))
  have h73 : (S_55.1 98 (((S_39.1 63 62)).toNatClampNeg)).toInt = (S_45.1 98 (((S_39.1 63 62)).toNatClampNeg)).toInt := ti_eq (f_S_55 98 (((S_39.1 63 62)).toNatClampNeg) (fun e => absurd e (by decide)))
  have h74 : (S_55.1 98 (((S_45.1 63 62)).toNatClampNeg)).toInt = (S_45.1 98 (((S_45.1 63 62)).toNatClampNeg)).toInt := ti_eq (f_S_55 98 (((S_45.1 63 62)).toNatClampNeg) (fun e => absurd e (by decide)))
  have h75 : (S_55.1 98 (((S_9.1 63 62)).toNatClampNeg)).toInt = (S_45.1 98 (((S_9.1 63 62)).toNatClampNeg)).toInt := ti_eq (f_S_55 98 (((S_9.1 63 62)).toNatClampNeg) (fun e => absurd e (by decide)))
  have h76 : (S_55.1 99 (((S_19.1 63 62)).toNatClampNeg)).toInt = (S_45.1 99 (((S_19.1 63 62)).toNatClampNeg)).toInt := ti_eq (f_S_55 99 (((S_19.1 63 62)).toNatClampNeg) (fun e => absurd e (by decide)))
  have h77 : (S_55.1 99 (((S_29.1 63 62)).toNatClampNeg)).toInt = (S_45.1 99 (((S_29.1 63 62)).toNatClampNeg)).toInt := ti_eq (f_S_55 99 (((S_29.1 63 62)).toNatClampNeg) (fun e => absurd e (by decide)))
  have h78 : (S_55.1 99 (((S_39.1 63 62)).toNatClampNeg)).toInt = (S_45.1 99 (((S_39.1 63 62)).toNatClampNeg)).toInt := ti_eq (f_S_55 99 (((S_39.1 63 62)).toNatClampNeg) (fun e => absurd e (by decide)))
  have h79 : (S_55.1 99 (((S_45.1 63 62)).toNatClampNeg)).toInt = (S_45.1 99 (((S_45.1 63 62)).toNatClampNeg)).toInt := ti_eq (f_S_55 99 (((S_45.1 63 62)).toNatClampNeg) (fun e => absurd e (by decide)))
  have h80 : (S_55.1 100 (((S_29.1 63 62)).toNatClampNeg)).toInt = (S_45.1 100 (((S_29.1 63 62)).toNatClampNeg)).toInt := ti_eq (f_S_55 100 (((S_29.1 63 62)).toNatClampNeg) (fun e => absurd e (by decide)))
  have h81 : (S_55.1 100 (((S_39.1 63 62)).toNatClampNeg)).toInt = (S_45.1 100 (((S_39.1 63 62)).toNatClampNeg)).toInt := ti_eq (f_S_55 100 (((S_39.1 63 62)).toNatClampNeg) (fun e => absurd e (by decide)))
  have h82 : (S_55.1 100 (((S_45.1 63 62)).toNatClampNeg)).toInt = (S_45.1 100 (((S_45.1 63 62)).toNatClampNeg)).toInt := ti_eq (f_S_55 100 (((S_45.1 63 62)).toNatClampNeg) (fun e => absurd e (by decide)))
  have h83 := b_63_62 I_S_55
  have h84 := b_63_62 I_S
  have h85 : ((0 : Int32)).toInt = 0 := li_0
  exact Sf.so ⟨I_S_55, F_S_55, by omega, TQ_S_55, L_S_55, (by exact OP_S_55)⟩
theorem s_fX12_ends_58 (fu : Nat) (hfu : 1000000000000000000 ≤ fu) : ∀ (n : Nat) (x2 : Int32) (x3 : Int32) (S : St), Inv S → (0 ≤ (x2).toInt) → ((x2).toInt < 100) → (0 ≤ (x3).toInt) → (10 - (x3).toInt).toNat < n → Sf (fX12_ends_58 fu n x2 x3 S) (fun U r => Inv U ∧ Fr [(104, 0)] S U ∧ (True) ∧ U.2 = S.2) := by
  intro n
  induction n with
  | zero => intro x2 x3 S I_S g0 g1 g2 hm; exact absurd hm (Nat.not_lt_zero _)
  | succ n ih =>
    intro x2 x3 S I_S g0 g1 g2 hm
    rw [fX12_ends_58_s]
    have F_S : Fr [(104, 0)] S S := Fr.refl _ _
    have L_S : S.2 = S.2 := rfl
    have h1 := b_63_71 I_S
    have h2 := i32 x3
    refine Sf.i (fun c_h3 => ?_) (fun c_h3 => ?_)
    · have h4 := le_iv rfl rfl c_h3
      exact Sf.so ⟨I_S, F_S, trivial, L_S⟩
    · have h5 := nle_iv rfl rfl c_h3
      have h6 := i32 x2
      try have h7 : (((10 : Int32) * x2)).toInt = (10) * (x2).toInt := mul_iv li_10 rfl (by omega) (by omega)
      try have h8 : ((((10 : Int32) * x2) + x3)).toInt = (((10 : Int32) * x2)).toInt + (x3).toInt := add_iv rfl rfl (by omega) (by omega)
      refine Sf.g (ck_iv (by omega) (by omega)) ?_
      refine Sf.g (ck_iv (by omega) (by omega)) ?_
      refine Sf.w I_S F_S rfl (i32 _).1 (i32 _).2 (fun S_82 I_S_82 F_S_82 v_S_82 f_S_82 l_S_82 => ?_)
      have h9 := ti_eq (f_S_82 63 71 (fun e => absurd e (by decide)))
      have h10 : (S_82.1 104 ((x3).toNatClampNeg)).toInt = ((S.1 94 (((((10 : Int32) * x2) + x3)).toNatClampNeg))).toInt := eq_iv rfl rfl v_S_82
      have L_S_82 := l_S_82.trans L_S
      have h11 : (S_82.1 94 (((((10 : Int32) * x2) + x3)).toNatClampNeg)).toInt = (S.1 94 (((((10 : Int32) * x2) + x3)).toNatClampNeg)).toInt := ti_eq (f_S_82 94 (((((10 : Int32) * x2) + x3)).toNatClampNeg) (fun e => absurd e (by decide)))
      try have h12 : ((x3 + (1 : Int32))).toInt = (x3).toInt + (1) := add_iv rfl li_1 (by omega) (by omega)
      refine Sf.mono (ih x2 (x3 + (1 : Int32)) S_82 I_S_82 (by omega) (by omega) (by omega) (by omega)) (fun U r p_h13 => ?_)
      obtain ⟨I_U, G_U, p_h13, L0_U⟩ := p_h13
      have h14 := ti_eq (G_U 63 71 rfl)
      have L_U := L0_U.trans L_S_82
      exact ⟨I_U, Fr.tr F_S_82 G_U rfl, trivial, L_U⟩
theorem s_fX12_two_82_1000 (fu : Nat) (hfu : 1000000000000000000 ≤ fu) (x1 : Int32) (S : St) (I_S : Inv S) (g0 : 0 ≤ (x1).toInt) (g1 : (x1).toInt + 1 < 1000) : Sp (fX12_two fu 82 1000 x1 S) S (fun r => (0 ≤ r.toInt) ∧ (r.toInt ≤ 65535)) := by
  unfold fX12_two
  try simp only [Nat.reduceAdd]
  have h1 := i32 x1
  refine Sp.g (ck_iv (by omega) (by omega)) ?_
  try have h2 : ((x1 + (1 : Int32))).toInt = (x1).toInt + (1) := add_iv rfl li_1 (by omega) (by omega)
  refine Sp.g (ck_iv (by omega) (by omega)) ?_
  have h3 := and_255 ((S.1 82 ((x1).toNatClampNeg)))
  have h4 := and_31 ((8 : Int32))
  have h5 := and_255 ((S.1 82 (((x1 + (1 : Int32))).toNatClampNeg)))
  have h6 := two_iv ((S.1 82 ((x1).toNatClampNeg))) ((S.1 82 (((x1 + (1 : Int32))).toNatClampNeg)))
  exact Sp.so (by omega)
theorem s_fX12_isName_170_82_1000 (fu : Nat) (hfu : 1000000000000000000 ≤ fu) (k_14 : Int32 → Int32 → Int32 → Int32 → St → Option (St × Int32)) (N : Nat) (hk_k_14 : ∀ (x3 : Int32) (x4 : Int32) (x5 : Int32) (x6 : Int32) (S : St), Inv S → PX S → ((x3).toInt ≤ 1000) → (0 ≤ (x4).toInt) → (0 ≤ (x5).toInt) → ((x4).toInt ≤ 1100) → (((x6).toInt = -1 ∧ (x4).toInt ≤ (x5).toInt ∧ (x4).toInt = (S.1 63 31).toInt ∨ (S.1 63 31).toInt + 2 ≤ (x6).toInt ∧ (x6).toInt ≤ (x3).toInt)) → (0 ≤ (S.1 63 31).toInt) → (8 * (x4).toInt + 7 - (S.1 63 8).toInt).toNat < N → Sf (k_14 x3 x4 x5 x6 S) (fun U r => Inv U ∧ Fr [(63, 9), (63, 31), (63, 32), (68, 0), (69, 0)] S U ∧ (((r.toInt = 0 ∧ (U.1 63 31).toInt = (S.1 63 31).toInt ∧ 0 < (U.1 63 30).toInt ∨ r.toInt = 1 ∧ (U.1 63 30).toInt = (S.1 63 30).toInt ∧ (S.1 63 31).toInt + 1 ≤ (U.1 63 31).toInt ∧ (U.1 63 31).toInt ≤ (x3).toInt))) ∧ PX U)) : ∀ (n : Nat) (x3 : Int32) (x4 : Int32) (x5 : Int32) (x6 : Int32) (x7 : Int32) (x8 : Int32) (S : St), Inv S → PX S → ((x3).toInt ≤ 1000) → (0 ≤ (x4).toInt) → (0 ≤ (x5).toInt) → ((x4).toInt ≤ 1100) → (((x6).toInt = -1 ∧ (x4).toInt ≤ (x5).toInt ∧ (x4).toInt = (S.1 63 31).toInt ∨ (S.1 63 31).toInt + 2 ≤ (x6).toInt ∧ (x6).toInt ≤ (x3).toInt)) → (0 ≤ (S.1 63 31).toInt) → (0 < (x7).toInt) → ((x7).toInt ≤ 10) → (1 ≤ (x8).toInt) → ((x5).toInt + (x8).toInt ≤ (x3).toInt ∨ (x7).toInt < (x8).toInt ) → ((x5).toInt + (x8).toInt - 1 < (x3).toInt) → ((S.1 63 8).toInt < 6) → ((8 * (x4).toInt + 7 - (S.1 63 8).toInt).toNat ≤ N) → (11 - (x8).toInt).toNat < n → Sf (fX12_isName_170 fu 82 1000 k_14 n x3 x4 x5 x6 x7 x8 S) (fun U r => Inv U ∧ Fr [(63, 9), (63, 31), (63, 32), (68, 0), (69, 0)] S U ∧ (((r.toInt = 0 ∧ (U.1 63 31).toInt = (S.1 63 31).toInt ∧ 0 < (U.1 63 30).toInt ∨ r.toInt = 1 ∧ (U.1 63 30).toInt = (S.1 63 30).toInt ∧ (S.1 63 31).toInt + 1 ≤ (U.1 63 31).toInt ∧ (U.1 63 31).toInt ≤ (x3).toInt))) ∧ PX U) := by
  intro n
  induction n with
  | zero => intro x3 x4 x5 x6 x7 x8 S I_S PX_S g0 g1 g2 g3 g4 g5 g6 g7 g8 g9 g10 g11 g12 hm; exact absurd hm (Nat.not_lt_zero _)
  | succ n ih =>
    intro x3 x4 x5 x6 x7 x8 S I_S PX_S g0 g1 g2 g3 g4 g5 g6 g7 g8 g9 g10 g11 g12 hm
    rw [fX12_isName_170_s]
    try simp only [Nat.reduceAdd]
    have F_S : Fr [(63, 9), (63, 31), (63, 32), (68, 0), (69, 0)] S S := Fr.refl _ _
    have h1 := b_63_31 I_S
    have h2 := b_63_31 I_S
    have h3 := b_63_31 I_S
    have h4 := b_63_8 I_S
    have h5 := b_63_8 I_S
    have h6 := i32 x7
    have h7 := i32 x8
    refine Sf.i (fun c_h8 => ?_) (fun c_h8 => ?_)
    · have h9 := lt_iv rfl rfl c_h8
      have h10 := b_63_8 I_S
      refine Sf.g (ck_iv (by omega) (by omega)) ?_
      have h11 := i32 x5
      try have h12 : ((x5 + (1 : Int32))).toInt = (x5).toInt + (1) := add_iv rfl li_1 (by omega) (by omega)
      refine Sf.w I_S F_S rfl (show ((0) : Int) ≤ ((x5 + (1 : Int32))).toInt by omega) (show ((x5 + (1 : Int32))).toInt ≤ (1000 : Int) by omega) (fun S_245 I_S_245 F_S_245 v_S_245 f_S_245 l_S_245 => ?_)
      have h13 := ti_eq (f_S_245 63 8 (fun e => absurd e (by decide)))
      have h14 := ti_eq (f_S_245 63 30 (fun e => absurd e (by decide)))
      have h15 := ti_eq (f_S_245 63 31 (fun e => absurd e (by decide)))
      have h16 : (S_245.1 68 (((S.1 63 8)).toNatClampNeg)).toInt = ((x5 + (1 : Int32))).toInt := eq_iv rfl rfl v_S_245
      have h17 : (S_245.1 68 (((S_245.1 63 8)).toNatClampNeg)).toInt = ((x5 + (1 : Int32))).toInt := by rw [f_S_245 63 8 (fun e => absurd e (by decide))]; exact eq_iv rfl rfl v_S_245
      have hc1 := cl_iv (b_63_8 I_S).1
      have PX_S_245 : PX S_245 := RG_w PX_S (by decide) (by omega) f_S_245
      have h18 := b_63_8 I_S_245
      refine Sf.g (ck_iv (by omega) (by omega)) ?_
      refine Sf.w I_S_245 F_S_245 rfl (show ((0) : Int) ≤ (x7).toInt by omega) (show (x7).toInt ≤ (10 : Int) by omega) (fun S_256 I_S_256 F_S_256 v_S_256 f_S_256 l_S_256 => ?_)
      have h19 := ti_eq (f_S_256 63 8 (fun e => absurd e (by decide)))
      have h20 := ti_eq (f_S_256 63 30 (fun e => absurd e (by decide)))
      have h21 := ti_eq (f_S_256 63 31 (fun e => absurd e (by decide)))
      have h22 : (S_256.1 69 (((S_245.1 63 8)).toNatClampNeg)).toInt = (x7).toInt := eq_iv rfl rfl v_S_256
      have h23 : (S_256.1 69 (((S_256.1 63 8)).toNatClampNeg)).toInt = (x7).toInt := by rw [f_S_256 63 8 (fun e => absurd e (by decide))]; exact eq_iv rfl rfl v_S_256
      have hc2 := cl_iv (b_63_8 I_S_245).1
      have PX_S_256 : PX S_256 := RG_w PX_S_245 (by decide) (by omega) f_S_256
      have h24 : (S_256.1 68 (((S.1 63 8)).toNatClampNeg)).toInt = (S_245.1 68 (((S.1 63 8)).toNatClampNeg)).toInt := ti_eq (f_S_256 68 (((S.1 63 8)).toNatClampNeg) (fun e => absurd e (by decide)))
      have h25 : (S_256.1 68 (((S_245.1 63 8)).toNatClampNeg)).toInt = (S_245.1 68 (((S_245.1 63 8)).toNatClampNeg)).toInt := ti_eq (f_S_256 68 (((S_245.1 63 8)).toNatClampNeg) (fun e => absurd e (by decide)))
      have h26 : (S_256.1 68 (((S_256.1 63 8)).toNatClampNeg)).toInt = (S_245.1 68 (((S_245.1 63 8)).toNatClampNeg)).toInt := by rw [f_S_256 63 8 (fun e => absurd e (by decide))]; exact ti_eq (f_S_256 68 (((S_245.1 63 8)).toNatClampNeg) (fun e => absurd e (by decide)))
      have h27 := b_63_8 I_S_256
      try have h28 : (((S_256.1 63 8) + (1 : Int32))).toInt = ((S_256.1 63 8)).toInt + (1) := add_iv rfl li_1 (by omega) (by omega)
      refine Sf.w I_S_256 F_S_256 rfl (show ((0) : Int) ≤ (((S_256.1 63 8) + (1 : Int32))).toInt by omega) (show (((S_256.1 63 8) + (1 : Int32))).toInt ≤ (6 : Int) by omega) (fun S_264 I_S_264 F_S_264 v_S_264 f_S_264 l_S_264 => ?_)
      have h29 := eq_iv rfl rfl v_S_264
      have h30 := ti_eq (f_S_264 63 30 (fun _ e => absurd e (by decide)))
      have h31 := ti_eq (f_S_264 63 31 (fun _ e => absurd e (by decide)))
      have PX_S_264 : PX S_264 := RG_inc PX_S_256 (by decide) (by decide) f_S_264 (by omega) (by omega) (by show _ + _ ≤ _; omega)
      have h32 : (S_264.1 68 (((S.1 63 8)).toNatClampNeg)).toInt = (S_256.1 68 (((S.1 63 8)).toNatClampNeg)).toInt := ti_eq (f_S_264 68 (((S.1 63 8)).toNatClampNeg) (fun e => absurd e (by decide)))
      have h33 : (S_264.1 68 (((S_245.1 63 8)).toNatClampNeg)).toInt = (S_256.1 68 (((S_245.1 63 8)).toNatClampNeg)).toInt := ti_eq (f_S_264 68 (((S_245.1 63 8)).toNatClampNeg) (fun e => absurd e (by decide)))
      have h34 : (S_264.1 68 (((S_256.1 63 8)).toNatClampNeg)).toInt = (S_256.1 68 (((S_256.1 63 8)).toNatClampNeg)).toInt := ti_eq (f_S_264 68 (((S_256.1 63 8)).toNatClampNeg) (fun e => absurd e (by decide)))
      have h35 : (S_264.1 69 (((S_245.1 63 8)).toNatClampNeg)).toInt = (S_256.1 69 (((S_245.1 63 8)).toNatClampNeg)).toInt := ti_eq (f_S_264 69 (((S_245.1 63 8)).toNatClampNeg) (fun e => absurd e (by decide)))
      have h36 : (S_264.1 69 (((S_256.1 63 8)).toNatClampNeg)).toInt = (S_256.1 69 (((S_256.1 63 8)).toNatClampNeg)).toInt := ti_eq (f_S_264 69 (((S_256.1 63 8)).toNatClampNeg) (fun e => absurd e (by decide)))
      have h37 := i32 x3
      have h38 := i32 x4
      try have h39 : (((1 : Int32) + x7)).toInt = (1) + (x7).toInt := add_iv li_1 rfl (by omega) (by omega)
      try have h40 : ((x5 + ((1 : Int32) + x7))).toInt = (x5).toInt + (((1 : Int32) + x7)).toInt := add_iv rfl rfl (by omega) (by omega)
      have h41 := i32 x6
      have h42 := b_63_31 I_S_264
      have h43 := b_63_30 I_S_264
      refine Sf.mono (hk_k_14 x3 x4 (x5 + ((1 : Int32) + x7)) x6 S_264 I_S_264 PX_S_264 (by omega) (by omega) (by omega) (by omega) (by omega) (by omega) (by omega)) (fun U r p_h44 => ?_)
      obtain ⟨I_U, G_U, p_h44, PX_U⟩ := p_h44
      have h45 := b_63_31 I_U
      have h46 := b_63_30 I_U
      have h47 := b_63_30 I_U
      have h48 := b_63_31 I_U
      have h49 := b_63_31 I_U
      have h50 := b_63_31 I_S
      have h51 := b_63_30 I_S
      have h52 := b_63_31 I_S
      exact ⟨I_U, Fr.tr F_S_264 G_U rfl, by omega, PX_U⟩
    · have h53 := nlt_iv rfl rfl c_h8
      have h54 := i32 x5
      have h55 := i32 x3
      try have h56 : ((x5 + x8)).toInt = (x5).toInt + (x8).toInt := add_iv rfl rfl (by omega) (by omega)
      refine Sf.i (fun c_h57 => ?_) (fun c_h57 => ?_)
      · have h58 := lt_iv rfl rfl c_h57
        refine Sf.g (ck_iv (by omega) (by omega)) ?_
        refine Sf.bp (s_fX12_isLetter fu hfu (S.1 82 (((x5 + x8)).toNatClampNeg)) S I_S) (fun r_207 p_r_207 => ?_)
        have h59 := i32 r_207
        refine Sf.i (fun c_h60 => ?_) (fun c_h60 => ?_)
        · have h61 := eq_iv rfl li_0 c_h60
          have h62 : ((2 : Int32)).toInt = 2 := li_2
          refine Sf.b (s_fX12_wrong fu hfu (2 : Int32) S I_S (by omega) (by omega)) (fun S_215 r_215 p_r_215 => ?_)
          obtain ⟨I_S_215, G_S_215, p_r_215⟩ := p_r_215
          have F_S_215 := Fr.tr F_S G_S_215 rfl
          have PX_S_215 := PX_fr (U := S_215) PX_S (G_S_215 63 8 rfl) (fun b => G_S_215 68 b rfl) (fun b => G_S_215 69 b rfl)
          have h63 := b_63_30 I_S_215
          have h64 := ti_eq (G_S_215 63 8 rfl)
          have h65 := ti_eq (G_S_215 63 31 rfl)
          have h66 : (S_215.1 82 (((x5 + x8)).toNatClampNeg)).toInt = (S.1 82 (((x5 + x8)).toNatClampNeg)).toInt := ti_eq (G_S_215 82 (((x5 + x8)).toNatClampNeg) rfl)
          have h67 := i32 r_215
          refine Sf.i (fun c_h68 => ?_) (fun c_h68 => ?_)
          · have h69 := le_iv rfl li_0 c_h68
            have h70 := b_63_31 I_S_215
            have h71 := b_63_30 I_S_215
            have h72 := b_63_30 I_S_215
            have h73 := b_63_31 I_S_215
            have h74 := b_63_31 I_S_215
            have h75 := b_63_31 I_S
            have h76 := b_63_30 I_S
            have h77 := b_63_31 I_S
            have h78 : ((0 : Int32)).toInt = 0 := li_0
            exact Sf.so ⟨I_S_215, F_S_215, by omega, PX_S_215⟩
          · have h79 := nle_iv rfl li_0 c_h68
            have h80 := b_63_31 I_S_215
            have h81 := b_63_30 I_S_215
            have h82 := b_63_30 I_S_215
            have h83 := b_63_31 I_S_215
            have h84 := b_63_31 I_S_215
            have h85 := b_63_31 I_S
            have h86 := b_63_30 I_S
            have h87 := b_63_31 I_S
            have h88 : ((1 : Int32)).toInt = 1 := li_1
            exact Sf.so ⟨I_S_215, F_S_215, by omega, PX_S_215⟩
        · have h89 := neq_iv rfl li_0 c_h60
          have h90 := i32 x4
          have h91 := i32 x6
          try have h92 : ((x8 + (1 : Int32))).toInt = (x8).toInt + (1) := add_iv rfl li_1 (by omega) (by omega)
          have h93 := b_63_31 I_S
          have h94 := b_63_8 I_S
          have h95 := b_63_30 I_S
          refine Sf.mono (ih x3 x4 x5 x6 x7 (x8 + (1 : Int32)) S I_S PX_S (by omega) (by omega) (by omega) (by omega) (by omega) (by omega) (by omega) (by omega) (by omega) (by omega) (by omega) (by omega) (by omega) (by omega)) (fun U r p_h96 => ?_)
          obtain ⟨I_U, G_U, p_h96, PX_U⟩ := p_h96
          have h97 := b_63_31 I_U
          have h98 := b_63_30 I_U
          have h99 := b_63_30 I_U
          have h100 := b_63_31 I_U
          have h101 := b_63_31 I_U
          have h102 := b_63_31 I_S
          have h103 := b_63_30 I_S
          have h104 := b_63_31 I_S
          exact ⟨I_U, Fr.tr F_S G_U rfl, by omega, PX_U⟩
      · have h105 := nlt_iv rfl rfl c_h57
        have h106 : ((3 : Int32)).toInt = 3 := li_3
        refine Sf.b (s_fX12_wrong fu hfu (3 : Int32) S I_S (by omega) (by omega)) (fun S_188 r_188 p_r_188 => ?_)
        obtain ⟨I_S_188, G_S_188, p_r_188⟩ := p_r_188
        have F_S_188 := Fr.tr F_S G_S_188 rfl
        have PX_S_188 := PX_fr (U := S_188) PX_S (G_S_188 63 8 rfl) (fun b => G_S_188 68 b rfl) (fun b => G_S_188 69 b rfl)
        have h107 := b_63_30 I_S_188
        have h108 := ti_eq (G_S_188 63 8 rfl)
        have h109 := ti_eq (G_S_188 63 31 rfl)
        have h110 := i32 r_188
        refine Sf.i (fun c_h111 => ?_) (fun c_h111 => ?_)
        · have h112 := le_iv rfl li_0 c_h111
          have h113 := b_63_31 I_S_188
          have h114 := b_63_30 I_S_188
          have h115 := b_63_30 I_S_188
          have h116 := b_63_31 I_S_188
          have h117 := b_63_31 I_S_188
          have h118 := b_63_31 I_S
          have h119 := b_63_30 I_S
          have h120 := b_63_31 I_S
          have h121 : ((0 : Int32)).toInt = 0 := li_0
          exact Sf.so ⟨I_S_188, F_S_188, by omega, PX_S_188⟩
        · have h122 := nle_iv rfl li_0 c_h111
          have h123 := b_63_31 I_S_188
          have h124 := b_63_30 I_S_188
          have h125 := b_63_30 I_S_188
          have h126 := b_63_31 I_S_188
          have h127 := b_63_31 I_S_188
          have h128 := b_63_31 I_S
          have h129 := b_63_30 I_S
          have h130 := b_63_31 I_S
          have h131 : ((1 : Int32)).toInt = 1 := li_1
          exact Sf.so ⟨I_S_188, F_S_188, by omega, PX_S_188⟩
theorem s_fX12_isName_14_82_1000 (fu : Nat) (hfu : 1000000000000000000 ≤ fu) : ∀ (n : Nat) (x3 : Int32) (x4 : Int32) (x5 : Int32) (x6 : Int32) (S : St), Inv S → PX S → ((x3).toInt ≤ 1000) → (0 ≤ (x4).toInt) → (0 ≤ (x5).toInt) → ((x4).toInt ≤ 1100) → (((x6).toInt = -1 ∧ (x4).toInt ≤ (x5).toInt ∧ (x4).toInt = (S.1 63 31).toInt ∨ (S.1 63 31).toInt + 2 ≤ (x6).toInt ∧ (x6).toInt ≤ (x3).toInt)) → (0 ≤ (S.1 63 31).toInt) → (8 * (x4).toInt + 7 - (S.1 63 8).toInt).toNat < n → Sf (fX12_isName_14 fu 82 1000 n x3 x4 x5 x6 S) (fun U r => Inv U ∧ Fr [(63, 9), (63, 31), (63, 32), (68, 0), (69, 0)] S U ∧ (((r.toInt = 0 ∧ (U.1 63 31).toInt = (S.1 63 31).toInt ∧ 0 < (U.1 63 30).toInt ∨ r.toInt = 1 ∧ (U.1 63 30).toInt = (S.1 63 30).toInt ∧ (S.1 63 31).toInt + 1 ≤ (U.1 63 31).toInt ∧ (U.1 63 31).toInt ≤ (x3).toInt))) ∧ PX U) := by
  intro n
  induction n with
  | zero => intro x3 x4 x5 x6 S I_S PX_S g0 g1 g2 g3 g4 g5 hm; exact absurd hm (Nat.not_lt_zero _)
  | succ n ih =>
    intro x3 x4 x5 x6 S I_S PX_S g0 g1 g2 g3 g4 g5 hm
    rw [fX12_isName_14_s]
    try simp only [Nat.reduceAdd]
    have F_S : Fr [(63, 9), (63, 31), (63, 32), (68, 0), (69, 0)] S S := Fr.refl _ _
    have h1 := b_63_31 I_S
    have h2 := b_63_31 I_S
    have h3 := b_63_31 I_S
    have h4 := b_63_8 I_S
    have h5 := i32 x5
    have h6 := i32 x3
    refine Sf.i (fun c_h7 => ?_) (fun c_h7 => ?_)
    · have h8 := lt_iv rfl rfl c_h7
      refine Sf.g (ck_iv (by omega) (by omega)) ?_
      have h9 := and_255 ((S.1 82 ((x5).toNatClampNeg)))
      refine Sf.i (fun c_h10 => ?_) (fun c_h10 => ?_)
      · have h11 := eq_iv rfl li_0 c_h10
        have h12 := i32 x6
        refine Sf.i (fun c_h13 => ?_) (fun c_h13 => ?_)
        · have h14 := le_iv li_0 rfl c_h13
          unfold fX12_isName_294
          try simp only [Nat.reduceAdd]
          refine Sf.w I_S F_S rfl (show ((0) : Int) ≤ (x6).toInt by omega) (show (x6).toInt ≤ (1100 : Int) by omega) (fun S_294 I_S_294 F_S_294 v_S_294 f_S_294 l_S_294 => ?_)
          have h15 := ti_eq (f_S_294 63 8 (fun _ e => absurd e (by decide)))
          have h16 := ti_eq (f_S_294 63 30 (fun _ e => absurd e (by decide)))
          have h17 := eq_iv rfl rfl v_S_294
          have PX_S_294 := PX_fr (U := S_294) PX_S (f_S_294 63 8 (fun _ e => absurd e (by decide))) (fun b => f_S_294 68 b (fun e => absurd e (by decide))) (fun b => f_S_294 69 b (fun e => absurd e (by decide)))
          have h18 : (S_294.1 82 ((x5).toNatClampNeg)).toInt = (S.1 82 ((x5).toNatClampNeg)).toInt := ti_eq (f_S_294 82 ((x5).toNatClampNeg) (fun e => absurd e (by decide)))
          have h19 := b_63_31 I_S_294
          have h20 := b_63_30 I_S_294
          have h21 := b_63_30 I_S_294
          have h22 := b_63_31 I_S_294
          have h23 := b_63_31 I_S_294
          have h24 := b_63_31 I_S
          have h25 := b_63_30 I_S
          have h26 := b_63_31 I_S
          have h27 : ((1 : Int32)).toInt = 1 := li_1
          exact Sf.so ⟨I_S_294, F_S_294, by omega, PX_S_294⟩
        · have h28 := nle_iv li_0 rfl c_h13
          unfold fX12_isName_294
          try simp only [Nat.reduceAdd]
          try have h29 : ((x5 + (1 : Int32))).toInt = (x5).toInt + (1) := add_iv rfl li_1 (by omega) (by omega)
          refine Sf.w I_S F_S rfl (show ((0) : Int) ≤ ((x5 + (1 : Int32))).toInt by omega) (show ((x5 + (1 : Int32))).toInt ≤ (1100 : Int) by omega) (fun S_294 I_S_294 F_S_294 v_S_294 f_S_294 l_S_294 => ?_)
          have h30 := ti_eq (f_S_294 63 8 (fun _ e => absurd e (by decide)))
          have h31 := ti_eq (f_S_294 63 30 (fun _ e => absurd e (by decide)))
          have h32 := eq_iv rfl rfl v_S_294
          have PX_S_294 := PX_fr (U := S_294) PX_S (f_S_294 63 8 (fun _ e => absurd e (by decide))) (fun b => f_S_294 68 b (fun e => absurd e (by decide))) (fun b => f_S_294 69 b (fun e => absurd e (by decide)))
          have h33 : (S_294.1 82 ((x5).toNatClampNeg)).toInt = (S.1 82 ((x5).toNatClampNeg)).toInt := ti_eq (f_S_294 82 ((x5).toNatClampNeg) (fun e => absurd e (by decide)))
          have h34 := b_63_31 I_S_294
          have h35 := b_63_30 I_S_294
          have h36 := b_63_30 I_S_294
          have h37 := b_63_31 I_S_294
          have h38 := b_63_31 I_S_294
          have h39 := b_63_31 I_S
          have h40 := b_63_30 I_S
          have h41 := b_63_31 I_S
          have h42 : ((1 : Int32)).toInt = 1 := li_1
          exact Sf.so ⟨I_S_294, F_S_294, by omega, PX_S_294⟩
      · have h43 := neq_iv rfl li_0 c_h10
        refine Sf.i (fun c_h44 => ?_) (fun c_h44 => ?_)
        · have h45 := lt_iv rfl li_192 c_h44
          refine Sf.i (fun c_h46 => ?_) (fun c_h46 => ?_)
          · have h47 := lt_iv li_10 rfl c_h46
            unfold fX12_isName_153
            try simp only [Nat.reduceAdd]
            have h48 : ((2 : Int32)).toInt = 2 := li_2
            refine Sf.b (s_fX12_wrong fu hfu (2 : Int32) S I_S (by omega) (by omega)) (fun S_155 r_155 p_r_155 => ?_)
            obtain ⟨I_S_155, G_S_155, p_r_155⟩ := p_r_155
            have F_S_155 := Fr.tr F_S G_S_155 rfl
            have PX_S_155 := PX_fr (U := S_155) PX_S (G_S_155 63 8 rfl) (fun b => G_S_155 68 b rfl) (fun b => G_S_155 69 b rfl)
            have h49 := b_63_30 I_S_155
            have h50 := ti_eq (G_S_155 63 8 rfl)
            have h51 := ti_eq (G_S_155 63 31 rfl)
            have h52 : (S_155.1 82 ((x5).toNatClampNeg)).toInt = (S.1 82 ((x5).toNatClampNeg)).toInt := ti_eq (G_S_155 82 ((x5).toNatClampNeg) rfl)
            have h53 := i32 r_155
            refine Sf.i (fun c_h54 => ?_) (fun c_h54 => ?_)
            · have h55 := le_iv rfl li_0 c_h54
              have h56 := b_63_31 I_S_155
              have h57 := b_63_30 I_S_155
              have h58 := b_63_30 I_S_155
              have h59 := b_63_31 I_S_155
              have h60 := b_63_31 I_S_155
              have h61 := b_63_31 I_S
              have h62 := b_63_30 I_S
              have h63 := b_63_31 I_S
              have h64 : ((0 : Int32)).toInt = 0 := li_0
              exact Sf.so ⟨I_S_155, F_S_155, by omega, PX_S_155⟩
            · have h65 := nle_iv rfl li_0 c_h54
              have h66 := b_63_31 I_S_155
              have h67 := b_63_30 I_S_155
              have h68 := b_63_30 I_S_155
              have h69 := b_63_31 I_S_155
              have h70 := b_63_31 I_S_155
              have h71 := b_63_31 I_S
              have h72 := b_63_30 I_S
              have h73 := b_63_31 I_S
              have h74 : ((1 : Int32)).toInt = 1 := li_1
              exact Sf.so ⟨I_S_155, F_S_155, by omega, PX_S_155⟩
          · have h75 := nlt_iv li_10 rfl c_h46
            have h76 := b_63_8 I_S
            refine Sf.i (fun c_h77 => ?_) (fun c_h77 => ?_)
            · have h78 := eq_iv rfl li_6 c_h77
              unfold fX12_isName_153
              try simp only [Nat.reduceAdd]
              have h79 : ((2 : Int32)).toInt = 2 := li_2
              refine Sf.b (s_fX12_wrong fu hfu (2 : Int32) S I_S (by omega) (by omega)) (fun S_155 r_155 p_r_155 => ?_)
              obtain ⟨I_S_155, G_S_155, p_r_155⟩ := p_r_155
              have F_S_155 := Fr.tr F_S G_S_155 rfl
              have PX_S_155 := PX_fr (U := S_155) PX_S (G_S_155 63 8 rfl) (fun b => G_S_155 68 b rfl) (fun b => G_S_155 69 b rfl)
              have h80 := b_63_30 I_S_155
              have h81 := ti_eq (G_S_155 63 8 rfl)
              have h82 := ti_eq (G_S_155 63 31 rfl)
              have h83 : (S_155.1 82 ((x5).toNatClampNeg)).toInt = (S.1 82 ((x5).toNatClampNeg)).toInt := ti_eq (G_S_155 82 ((x5).toNatClampNeg) rfl)
              have h84 := i32 r_155
              refine Sf.i (fun c_h85 => ?_) (fun c_h85 => ?_)
              · have h86 := le_iv rfl li_0 c_h85
                have h87 := b_63_31 I_S_155
                have h88 := b_63_30 I_S_155
                have h89 := b_63_30 I_S_155
                have h90 := b_63_31 I_S_155
                have h91 := b_63_31 I_S_155
                have h92 := b_63_31 I_S
                have h93 := b_63_30 I_S
                have h94 := b_63_31 I_S
                have h95 : ((0 : Int32)).toInt = 0 := li_0
                exact Sf.so ⟨I_S_155, F_S_155, by omega, PX_S_155⟩
              · have h96 := nle_iv rfl li_0 c_h85
                have h97 := b_63_31 I_S_155
                have h98 := b_63_30 I_S_155
                have h99 := b_63_30 I_S_155
                have h100 := b_63_31 I_S_155
                have h101 := b_63_31 I_S_155
                have h102 := b_63_31 I_S
                have h103 := b_63_30 I_S
                have h104 := b_63_31 I_S
                have h105 : ((1 : Int32)).toInt = 1 := li_1
                exact Sf.so ⟨I_S_155, F_S_155, by omega, PX_S_155⟩
            · have h106 := neq_iv rfl li_6 c_h77
              have h107 := i32 x4
              have h108 := i32 x6
              have h109 : ((1 : Int32)).toInt = 1 := li_1
              have h110 := b_63_31 I_S
              have h111 := b_63_30 I_S
              refine Sf.mono (s_fX12_isName_170_82_1000 fu hfu _ _ ih fu x3 x4 x5 x6 ((S.1 82 ((x5).toNatClampNeg)) &&& (255 : Int32)) (1 : Int32) S I_S PX_S (by omega) (by omega) (by omega) (by omega) (by omega) (by omega) (by omega) (by omega) (by omega) (by omega) (by omega) (by omega) (by omega) (by omega)) (fun U r p_h112 => ?_)
              obtain ⟨I_U, G_U, p_h112, PX_U⟩ := p_h112
              have h113 := b_63_31 I_U
              have h114 := b_63_30 I_U
              have h115 := b_63_30 I_U
              have h116 := b_63_31 I_U
              have h117 := b_63_31 I_U
              have h118 := b_63_31 I_S
              have h119 := b_63_30 I_S
              have h120 := b_63_31 I_S
              exact ⟨I_U, Fr.tr F_S G_U rfl, by omega, PX_U⟩
        · have h121 := nlt_iv rfl li_192 c_h44
          try have h122 : ((x5 + (1 : Int32))).toInt = (x5).toInt + (1) := add_iv rfl li_1 (by omega) (by omega)
          refine Sf.i (fun c_h123 => ?_) (fun c_h123 => ?_)
          · have h124 := lt_iv rfl rfl c_h123
            refine Sf.bp (s_fX12_two_82_1000 fu hfu x5 S I_S (by omega) (by omega)) (fun r_85 p_r_85 => ?_)
            have h125 := i32 r_85
            have h126 := i32 x4
            have h127 := and_16383 (r_85)
            refine Sf.i (fun c_h128 => ?_) (fun c_h128 => ?_)
            · have h129 := lt_iv rfl rfl c_h128
              have h130 := i32 x6
              refine Sf.i (fun c_h131 => ?_) (fun c_h131 => ?_)
              · have h132 := le_iv li_0 rfl c_h131
                unfold fX12_isName_126
                try simp only [Nat.reduceAdd]
                have h133 := b_63_31 I_S
                have h134 := b_63_30 I_S
                refine Sf.mono (ih x3 (r_85 &&& (16383 : Int32)) (r_85 &&& (16383 : Int32)) x6 S I_S PX_S (by omega) (by omega) (by omega) (by omega) (by omega) (by omega) (by omega)) (fun U r p_h135 => ?_)
                obtain ⟨I_U, G_U, p_h135, PX_U⟩ := p_h135
                have h136 := b_63_31 I_U
                have h137 := b_63_30 I_U
                have h138 := b_63_30 I_U
                have h139 := b_63_31 I_U
                have h140 := b_63_31 I_U
                have h141 := b_63_31 I_S
                have h142 := b_63_30 I_S
                have h143 := b_63_31 I_S
                exact ⟨I_U, Fr.tr F_S G_U rfl, by omega, PX_U⟩
              · have h144 := nle_iv li_0 rfl c_h131
                unfold fX12_isName_126
                try simp only [Nat.reduceAdd]
                try have h145 : ((x5 + (2 : Int32))).toInt = (x5).toInt + (2) := add_iv rfl li_2 (by omega) (by omega)
                have h146 := b_63_31 I_S
                have h147 := b_63_30 I_S
                refine Sf.mono (ih x3 (r_85 &&& (16383 : Int32)) (r_85 &&& (16383 : Int32)) (x5 + (2 : Int32)) S I_S PX_S (by omega) (by omega) (by omega) (by omega) (by omega) (by omega) (by omega)) (fun U r p_h148 => ?_)
                obtain ⟨I_U, G_U, p_h148, PX_U⟩ := p_h148
                have h149 := b_63_31 I_U
                have h150 := b_63_30 I_U
                have h151 := b_63_30 I_U
                have h152 := b_63_31 I_U
                have h153 := b_63_31 I_U
                have h154 := b_63_31 I_S
                have h155 := b_63_30 I_S
                have h156 := b_63_31 I_S
                exact ⟨I_U, Fr.tr F_S G_U rfl, by omega, PX_U⟩
            · have h157 := nlt_iv rfl rfl c_h128
              have h158 : ((2 : Int32)).toInt = 2 := li_2
              refine Sf.b (s_fX12_wrong fu hfu (2 : Int32) S I_S (by omega) (by omega)) (fun S_103 r_103 p_r_103 => ?_)
              obtain ⟨I_S_103, G_S_103, p_r_103⟩ := p_r_103
              have F_S_103 := Fr.tr F_S G_S_103 rfl
              have PX_S_103 := PX_fr (U := S_103) PX_S (G_S_103 63 8 rfl) (fun b => G_S_103 68 b rfl) (fun b => G_S_103 69 b rfl)
              have h159 := b_63_30 I_S_103
              have h160 := ti_eq (G_S_103 63 8 rfl)
              have h161 := ti_eq (G_S_103 63 31 rfl)
              have h162 : (S_103.1 82 ((x5).toNatClampNeg)).toInt = (S.1 82 ((x5).toNatClampNeg)).toInt := ti_eq (G_S_103 82 ((x5).toNatClampNeg) rfl)
              have h163 := i32 r_103
              refine Sf.i (fun c_h164 => ?_) (fun c_h164 => ?_)
              · have h165 := le_iv rfl li_0 c_h164
                have h166 := b_63_31 I_S_103
                have h167 := b_63_30 I_S_103
                have h168 := b_63_30 I_S_103
                have h169 := b_63_31 I_S_103
                have h170 := b_63_31 I_S_103
                have h171 := b_63_31 I_S
                have h172 := b_63_30 I_S
                have h173 := b_63_31 I_S
                have h174 : ((0 : Int32)).toInt = 0 := li_0
                exact Sf.so ⟨I_S_103, F_S_103, by omega, PX_S_103⟩
              · have h175 := nle_iv rfl li_0 c_h164
                have h176 := b_63_31 I_S_103
                have h177 := b_63_30 I_S_103
                have h178 := b_63_30 I_S_103
                have h179 := b_63_31 I_S_103
                have h180 := b_63_31 I_S_103
                have h181 := b_63_31 I_S
                have h182 := b_63_30 I_S
                have h183 := b_63_31 I_S
                have h184 : ((1 : Int32)).toInt = 1 := li_1
                exact Sf.so ⟨I_S_103, F_S_103, by omega, PX_S_103⟩
          · have h185 := nlt_iv rfl rfl c_h123
            have h186 : ((3 : Int32)).toInt = 3 := li_3
            refine Sf.b (s_fX12_wrong fu hfu (3 : Int32) S I_S (by omega) (by omega)) (fun S_70 r_70 p_r_70 => ?_)
            obtain ⟨I_S_70, G_S_70, p_r_70⟩ := p_r_70
            have F_S_70 := Fr.tr F_S G_S_70 rfl
            have PX_S_70 := PX_fr (U := S_70) PX_S (G_S_70 63 8 rfl) (fun b => G_S_70 68 b rfl) (fun b => G_S_70 69 b rfl)
            have h187 := b_63_30 I_S_70
            have h188 := ti_eq (G_S_70 63 8 rfl)
            have h189 := ti_eq (G_S_70 63 31 rfl)
            have h190 : (S_70.1 82 ((x5).toNatClampNeg)).toInt = (S.1 82 ((x5).toNatClampNeg)).toInt := ti_eq (G_S_70 82 ((x5).toNatClampNeg) rfl)
            have h191 := i32 r_70
            refine Sf.i (fun c_h192 => ?_) (fun c_h192 => ?_)
            · have h193 := le_iv rfl li_0 c_h192
              have h194 := b_63_31 I_S_70
              have h195 := b_63_30 I_S_70
              have h196 := b_63_30 I_S_70
              have h197 := b_63_31 I_S_70
              have h198 := b_63_31 I_S_70
              have h199 := b_63_31 I_S
              have h200 := b_63_30 I_S
              have h201 := b_63_31 I_S
              have h202 : ((0 : Int32)).toInt = 0 := li_0
              exact Sf.so ⟨I_S_70, F_S_70, by omega, PX_S_70⟩
            · have h203 := nle_iv rfl li_0 c_h192
              have h204 := b_63_31 I_S_70
              have h205 := b_63_30 I_S_70
              have h206 := b_63_30 I_S_70
              have h207 := b_63_31 I_S_70
              have h208 := b_63_31 I_S_70
              have h209 := b_63_31 I_S
              have h210 := b_63_30 I_S
              have h211 := b_63_31 I_S
              have h212 : ((1 : Int32)).toInt = 1 := li_1
              exact Sf.so ⟨I_S_70, F_S_70, by omega, PX_S_70⟩
    · have h213 := nlt_iv rfl rfl c_h7
      have h214 : ((3 : Int32)).toInt = 3 := li_3
      refine Sf.b (s_fX12_wrong fu hfu (3 : Int32) S I_S (by omega) (by omega)) (fun S_22 r_22 p_r_22 => ?_)
      obtain ⟨I_S_22, G_S_22, p_r_22⟩ := p_r_22
      have F_S_22 := Fr.tr F_S G_S_22 rfl
      have PX_S_22 := PX_fr (U := S_22) PX_S (G_S_22 63 8 rfl) (fun b => G_S_22 68 b rfl) (fun b => G_S_22 69 b rfl)
      have h215 := b_63_30 I_S_22
      have h216 := ti_eq (G_S_22 63 8 rfl)
      have h217 := ti_eq (G_S_22 63 31 rfl)
      have h218 := i32 r_22
      refine Sf.i (fun c_h219 => ?_) (fun c_h219 => ?_)
      · have h220 := le_iv rfl li_0 c_h219
        have h221 := b_63_31 I_S_22
        have h222 := b_63_30 I_S_22
        have h223 := b_63_30 I_S_22
        have h224 := b_63_31 I_S_22
        have h225 := b_63_31 I_S_22
        have h226 := b_63_31 I_S
        have h227 := b_63_30 I_S
        have h228 := b_63_31 I_S
        have h229 : ((0 : Int32)).toInt = 0 := li_0
        exact Sf.so ⟨I_S_22, F_S_22, by omega, PX_S_22⟩
      · have h230 := nle_iv rfl li_0 c_h219
        have h231 := b_63_31 I_S_22
        have h232 := b_63_30 I_S_22
        have h233 := b_63_30 I_S_22
        have h234 := b_63_31 I_S_22
        have h235 := b_63_31 I_S_22
        have h236 := b_63_31 I_S
        have h237 := b_63_30 I_S
        have h238 := b_63_31 I_S
        have h239 : ((1 : Int32)).toInt = 1 := li_1
        exact Sf.so ⟨I_S_22, F_S_22, by omega, PX_S_22⟩
theorem s_fX12_isName_82_1000 (fu : Nat) (hfu : 1000000000000000000 ≤ fu) (x2 : Int32) (x3 : Int32) (S : St) (I_S : Inv S) (g0 : (x3).toInt ≤ 1000) (g1 : 0 ≤ (x2).toInt) (g2 : (x2).toInt = (S.1 63 31).toInt) : Sf (fX12_isName fu 82 1000 x2 x3 S) (fun U r => Inv U ∧ Fr [(63, 9), (63, 31), (63, 32), (68, 0), (69, 0)] S U ∧ (((r.toInt = 0 ∧ (U.1 63 31).toInt = (S.1 63 31).toInt ∧ 0 < (U.1 63 30).toInt ∨ r.toInt = 1 ∧ (U.1 63 30).toInt = (S.1 63 30).toInt ∧ (S.1 63 31).toInt + 1 ≤ (U.1 63 31).toInt ∧ (U.1 63 31).toInt ≤ (x3).toInt))) ∧ PX U) := by
  unfold fX12_isName
  try simp only [Nat.reduceAdd]
  have F_S : Fr [(63, 9), (63, 31), (63, 32), (68, 0), (69, 0)] S S := Fr.refl _ _
  have h1 := b_63_31 I_S
  refine Sf.w I_S F_S rfl (show ((0) : Int) ≤ ((0 : Int32)).toInt by rw [li_0]; omega) (show ((0 : Int32)).toInt ≤ (6 : Int) by rw [li_0]; omega) (fun S_2 I_S_2 F_S_2 v_S_2 f_S_2 l_S_2 => ?_)
  have h2 := eq_iv rfl li_0 v_S_2
  have h3 := ti_eq (f_S_2 63 30 (fun _ e => absurd e (by decide)))
  have h4 := ti_eq (f_S_2 63 31 (fun _ e => absurd e (by decide)))
  have PX_S_2 : PX S_2 := RG_zero (by omega)
  have h5 := i32 x3
  have h6 := i32 x2
  have h7 : ((-1 : Int32)).toInt = -1 := li_m1
  have h8 := b_63_31 I_S_2
  have h9 := b_63_30 I_S_2
  refine Sf.mono (s_fX12_isName_14_82_1000 fu hfu fu x3 x2 x2 (-1 : Int32) S_2 I_S_2 PX_S_2 (by omega) (by omega) (by omega) (by omega) (by omega) (by omega) (by omega)) (fun U r p_h10 => ?_)
  obtain ⟨I_U, G_U, p_h10, PX_U⟩ := p_h10
  have h11 := b_63_31 I_U
  have h12 := b_63_30 I_U
  have h13 := b_63_30 I_U
  have h14 := b_63_31 I_U
  have h15 := b_63_31 I_U
  have h16 := b_63_31 I_S
  have h17 := b_63_30 I_S
  have h18 := b_63_31 I_S
  exact ⟨I_U, Fr.tr F_S_2 G_U rfl, by omega, PX_U⟩
theorem s_fX12_child_45_82_1000 (fu : Nat) (hfu : 1000000000000000000 ≤ fu) (k_3 : Int32 → Int32 → Int32 → Int32 → St → Option (St × Int32)) (N : Nat) (hk_k_3 : ∀ (x1 : Int32) (x3 : Int32) (x4 : Int32) (x5 : Int32) (S : St), Inv S → (0 ≤ (x3).toInt) → (0 ≤ (x4).toInt) → ((x4).toInt ≤ 10) → ((x3).toInt + (x4).toInt ≤ 1000) → (1 ≤ (x5).toInt) → (300 - (x5).toInt).toNat < N → Sp (k_3 x1 x3 x4 x5 S) S (fun r => (-1 ≤ r.toInt) ∧ (r.toInt < (S.1 63 5).toInt))) : ∀ (n : Nat) (x1 : Int32) (x3 : Int32) (x4 : Int32) (x5 : Int32) (x6 : Int32) (x7 : Int32) (S : St), Inv S → (0 ≤ (x3).toInt) → (0 ≤ (x4).toInt) → ((x4).toInt ≤ 10) → ((x3).toInt + (x4).toInt ≤ 1000) → (1 ≤ (x5).toInt) → ((x5).toInt < (S.1 63 5).toInt) → (0 ≤ (x7).toInt) → ((300 - (x5).toInt).toNat ≤ N) → (10 - (x7).toInt).toNat < n → Sp (fX12_child_45 fu 82 1000 k_3 n x1 x3 x4 x5 x6 x7 S) S (fun r => (-1 ≤ r.toInt) ∧ (r.toInt < (S.1 63 5).toInt)) := by
  intro n
  induction n with
  | zero => intro x1 x3 x4 x5 x6 x7 S I_S g0 g1 g2 g3 g4 g5 g6 g7 hm; exact absurd hm (Nat.not_lt_zero _)
  | succ n ih =>
    intro x1 x3 x4 x5 x6 x7 S I_S g0 g1 g2 g3 g4 g5 g6 g7 hm
    rw [fX12_child_45_s]
    try simp only [Nat.reduceAdd]
    have h1 := b_63_5 I_S
    have h2 := i32 x6
    refine Sp.i (fun c_h3 => ?_) (fun c_h3 => ?_)
    · have h4 := eq_iv rfl li_0 c_h3
      unfold fX12_child_92
      try simp only [Nat.reduceAdd]
      refine Sp.i (fun c_h5 => ?_) (fun c_h5 => ?_)
      · have h6 := eq_iv rfl li_0 c_h5
        have h7 := i32 x1
        have h8 := i32 x3
        have h9 := i32 x4
        have h10 := i32 x5
        try have h11 : ((x5 + (1 : Int32))).toInt = (x5).toInt + (1) := add_iv rfl li_1 (by omega) (by omega)
        have h12 := b_63_5 I_S
        refine Sp.mono (hk_k_3 x1 x3 x4 (x5 + (1 : Int32)) S I_S (by omega) (by omega) (by omega) (by omega) (by omega) (by omega)) (fun r p_h13 => ?_)
        exact by omega
      · have h14 := neq_iv rfl li_0 c_h5
        have h15 := i32 x5
        have h16 := b_63_5 I_S
        exact Sp.so (by omega)
    · have h17 := neq_iv rfl li_0 c_h3
      have h18 := i32 x4
      have h19 := i32 x7
      refine Sp.i (fun c_h20 => ?_) (fun c_h20 => ?_)
      · have h21 := le_iv rfl rfl c_h20
        unfold fX12_child_92
        try simp only [Nat.reduceAdd]
        refine Sp.i (fun c_h22 => ?_) (fun c_h22 => ?_)
        · have h23 := eq_iv rfl li_0 c_h22
          have h24 := i32 x1
          have h25 := i32 x3
          have h26 := i32 x5
          try have h27 : ((x5 + (1 : Int32))).toInt = (x5).toInt + (1) := add_iv rfl li_1 (by omega) (by omega)
          have h28 := b_63_5 I_S
          refine Sp.mono (hk_k_3 x1 x3 x4 (x5 + (1 : Int32)) S I_S (by omega) (by omega) (by omega) (by omega) (by omega) (by omega)) (fun r p_h29 => ?_)
          exact by omega
        · have h30 := neq_iv rfl li_0 c_h22
          have h31 := i32 x5
          have h32 := b_63_5 I_S
          exact Sp.so (by omega)
      · have h33 := nle_iv rfl rfl c_h20
        have h34 := i32 x5
        try have h35 : (((10 : Int32) * x5)).toInt = (10) * (x5).toInt := mul_iv li_10 rfl (by omega) (by omega)
        try have h36 : ((((10 : Int32) * x5) + x7)).toInt = (((10 : Int32) * x5)).toInt + (x7).toInt := add_iv rfl rfl (by omega) (by omega)
        refine Sp.g (ck_iv (by omega) (by omega)) ?_
        have h37 := i32 x3
        try have h38 : ((x3 + x7)).toInt = (x3).toInt + (x7).toInt := add_iv rfl rfl (by omega) (by omega)
        refine Sp.g (ck_iv (by omega) (by omega)) ?_
        refine Sp.i (fun c_h39 => ?_) (fun c_h39 => ?_)
        · have h40 := eq_iv rfl rfl c_h39
          unfold fX12_child_84
          try simp only [Nat.reduceAdd]
          have h41 := i32 x1
          have h42 : ((1 : Int32)).toInt = 1 := li_1
          try have h43 : ((x7 + (1 : Int32))).toInt = (x7).toInt + (1) := add_iv rfl li_1 (by omega) (by omega)
          have h44 := b_63_5 I_S
          refine Sp.mono (ih x1 x3 x4 x5 (1 : Int32) (x7 + (1 : Int32)) S I_S (by omega) (by omega) (by omega) (by omega) (by omega) (by omega) (by omega) (by omega) (by omega)) (fun r p_h45 => ?_)
          exact by omega
        · have h46 := neq_iv rfl rfl c_h39
          unfold fX12_child_84
          try simp only [Nat.reduceAdd]
          have h47 := i32 x1
          have h48 : ((0 : Int32)).toInt = 0 := li_0
          try have h49 : ((x7 + (1 : Int32))).toInt = (x7).toInt + (1) := add_iv rfl li_1 (by omega) (by omega)
          have h50 := b_63_5 I_S
          refine Sp.mono (ih x1 x3 x4 x5 (0 : Int32) (x7 + (1 : Int32)) S I_S (by omega) (by omega) (by omega) (by omega) (by omega) (by omega) (by omega) (by omega) (by omega)) (fun r p_h51 => ?_)
          exact by omega
