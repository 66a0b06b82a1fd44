theorem s_fX10_remove (fu : Nat) (hfu : 1000000000000000000 ≤ fu) (x1 : Int32) (x2 : Int32) (x3 : Int32) (S : St) (I_S : Inv S) : Sf (fX10_remove fu x1 x2 x3 S) (fun U r => Inv U ∧ Fr [(10, 10), (13, 0), (14, 0), (15, 0), (16, 0), (17, 0)] S U ∧ (True)) := by
  unfold fX10_remove
  have F_S : Fr [(10, 10), (13, 0), (14, 0), (15, 0), (16, 0), (17, 0)] S S := Fr.refl _ _
  have h1 := i32 x1
  have h2 := i32 x2
  have h3 := i32 x3
  have h4 := b_10_9 I_S
  have h5 : ((0 : Int32)).toInt = 0 := li_0
  refine Sf.mono (s_fX10_remove_12 fu hfu fu x1 x2 x3 (S.1 10 9) (0 : Int32) (0 : Int32) S I_S (by omega) (by omega) (by omega) (by omega) (by omega)) (fun U r p_h6 => ?_)
  obtain ⟨I_U, G_U, p_h6⟩ := p_h6
  exact ⟨I_U, Fr.tr F_S G_U rfl, trivial⟩
theorem s_fX11_drop (fu : Nat) (hfu : 1000000000000000000 ≤ fu) (x1 : Int32) (x2 : Int32) (x3 : Int32) (S : St) (I_S : Inv S) : Sf (fX11_drop fu x1 x2 x3 S) (fun U r => Inv U ∧ Fr [(10, 10), (13, 0), (14, 0), (15, 0), (16, 0), (17, 0)] S U ∧ (((r.1 = 0 ∨ r.1 = 3)))) := by
  unfold fX11_drop
  have F_S : Fr [(10, 10), (13, 0), (14, 0), (15, 0), (16, 0), (17, 0)] S S := Fr.refl _ _
  have h1 := i32 x1
  have h2 := b_10_3 I_S
  refine Sf.xp (s_fX11_needZone fu hfu x1 S I_S) (fun r_2_ p_r_2_ => ?_) (fun k r p_e => ?_)
  rotate_left
  · have p_e : (((k + 1) = 0 ∧ 0 ≤ (x1).toInt ∧ (x1).toInt < (S.1 10 3).toInt ∨ (k + 1) = 3)) := p_e
    exact ⟨I_S, F_S, (show (((k + 1) = 0 ∨ (k + 1) = 3)) by omega)⟩
  have p_r_2_ : (((0 : Nat) = 0 ∧ 0 ≤ (x1).toInt ∧ (x1).toInt < (S.1 10 3).toInt ∨ (0 : Nat) = 3)) := p_r_2_
  have h3 := i32 x2
  have h4 := b_3_3 I_S
  refine Sf.xp (s_fX11_needName fu hfu x2 S I_S) (fun r_7_ p_r_7_ => ?_) (fun k r p_e => ?_)
  rotate_left
  · have p_e : (((k + 1) = 0 ∧ 0 ≤ (x2).toInt ∧ (x2).toInt < (S.1 3 3).toInt ∨ (k + 1) = 3)) := p_e
    exact ⟨I_S, F_S, (show (((k + 1) = 0 ∨ (k + 1) = 3)) by omega)⟩
  have p_r_7_ : (((0 : Nat) = 0 ∧ 0 ≤ (x2).toInt ∧ (x2).toInt < (S.1 3 3).toInt ∨ (0 : Nat) = 3)) := p_r_7_
  have h5 := i32 x3
  refine Sf.b (s_fX10_remove fu hfu x1 x2 x3 S I_S) (fun S_17 r_17 p_r_17 => ?_)
  obtain ⟨I_S_17, G_S_17, p_r_17⟩ := p_r_17
  have F_S_17 := Fr.tr F_S G_S_17 rfl
  have h6 := ti_eq (G_S_17 3 3 rfl)
  have h7 := ti_eq (G_S_17 10 3 rfl)
  exact Sf.so ⟨I_S_17, F_S_17, (show (((0 : Nat) = 0 ∨ (0 : Nat) = 3)) by omega)⟩
theorem s_fX7_ofAddress_2 (fu : Nat) (hfu : 1000000000000000000 ≤ fu) : ∀ (n : Nat) (x1 : Int32) (x2 : Int32) (S : St), Inv S → (0 ≤ (x2).toInt) → (12 - (x2).toInt).toNat < n → Sp (fX7_ofAddress_2 fu n x1 x2 S) S (fun r => (-1 ≤ r.toInt) ∧ (r.toInt < (S.1 23 4).toInt)) := by
  intro n
  induction n with
  | zero => intro x1 x2 S I_S g0 hm; exact absurd hm (Nat.not_lt_zero _)
  | succ n ih =>
    intro x1 x2 S I_S g0 hm
    rw [fX7_ofAddress_2_s]
    have h1 := b_23_4 I_S
    have h2 := i32 x2
    refine Sp.i (fun c_h3 => ?_) (fun c_h3 => ?_)
    · have h4 := le_iv rfl rfl c_h3
      have h5 := b_23_4 I_S
      have h6 : ((-1 : Int32)).toInt = -1 := li_m1
      exact Sp.so (by omega)
    · have h7 := nle_iv rfl rfl c_h3
      refine Sp.g (ck_iv (by omega) (by omega)) ?_
      have h8 := i32 x1
      refine Sp.i (fun c_h9 => ?_) (fun c_h9 => ?_)
      · have h10 := eq_iv rfl rfl c_h9
        have h11 := b_23_4 I_S
        exact Sp.so (by omega)
      · have h12 := neq_iv rfl rfl c_h9
        try have h13 : ((x2 + (1 : Int32))).toInt = (x2).toInt + (1) := add_iv rfl li_1 (by omega) (by omega)
        refine Sp.mono (ih x1 (x2 + (1 : Int32)) S I_S (by omega) (by omega)) (fun r p_h14 => ?_)
        exact by omega
theorem s_fX7_ofAddress (fu : Nat) (hfu : 1000000000000000000 ≤ fu) (x1 : Int32) (S : St) (I_S : Inv S) : Sp (fX7_ofAddress fu x1 S) S (fun r => (-1 ≤ r.toInt) ∧ (r.toInt < (S.1 23 4).toInt)) := by
  unfold fX7_ofAddress
  have h1 := i32 x1
  have h2 : ((0 : Int32)).toInt = 0 := li_0
  have h3 := b_23_4 I_S
  refine Sp.mono (s_fX7_ofAddress_2 fu hfu fu x1 (0 : Int32) S I_S (by omega) (by omega)) (fun r p_h4 => ?_)
  exact by omega
theorem s_fX7_size (fu : Nat) (hfu : 1000000000000000000 ≤ fu) (S : St) (I_S : Inv S) : Sp (fX7_size fu S) S (fun r => (r.toInt = (S.1 23 4).toInt)) := by
  unfold fX7_size
  have h1 := b_23_4 I_S
  have h2 := b_23_4 I_S
  exact Sp.so (by omega)
theorem s_fX7_open (fu : Nat) (hfu : 1000000000000000000 ≤ fu) (x1 : Int32) (S : St) (I_S : Inv S) : Sf (fX7_open fu x1 S) (fun U r => Inv U ∧ Fr [(23, 5), (24, 0), (25, 0)] S U ∧ (True)) := by
  unfold fX7_open
  have F_S : Fr [(23, 5), (24, 0), (25, 0)] S S := Fr.refl _ _
  have h1 := b_23_4 I_S
  refine Sf.i (fun c_h2 => ?_) (fun c_h2 => ?_)
  · have h3 := lt_iv rfl li_12 c_h2
    refine Sf.g (ck_iv (by omega) (by omega)) ?_
    have h4 := i32 x1
    refine Sf.w I_S F_S rfl (i32 _).1 (i32 _).2 (fun S_20 I_S_20 F_S_20 v_S_20 f_S_20 l_S_20 => ?_)
    have h5 := ti_eq (f_S_20 23 4 (fun e => absurd e (by decide)))
    have h6 : (S_20.1 24 (((S.1 23 4)).toNatClampNeg)).toInt = (x1).toInt := eq_iv rfl rfl v_S_20
    have h7 : (S_20.1 24 (((S_20.1 23 4)).toNatClampNeg)).toInt = (x1).toInt := by rw [f_S_20 23 4 (fun e => absurd e (by decide))]; exact eq_iv rfl rfl v_S_20
    have h8 := b_23_4 I_S_20
    refine Sf.g (ck_iv (by omega) (by omega)) ?_
    refine Sf.w I_S_20 F_S_20 rfl (i32 _).1 (i32 _).2 (fun S_30 I_S_30 F_S_30 v_S_30 f_S_30 l_S_30 => ?_)
    have h9 := ti_eq (f_S_30 23 4 (fun e => absurd e (by decide)))
    have h10 : (S_30.1 25 (((S_20.1 23 4)).toNatClampNeg)).toInt = (0) := eq_iv rfl li_0 v_S_30
    have h11 : (S_30.1 25 (((S_30.1 23 4)).toNatClampNeg)).toInt = (0) := by rw [f_S_30 23 4 (fun e => absurd e (by decide))]; exact eq_iv rfl li_0 v_S_30
    have h12 : (S_30.1 24 (((S.1 23 4)).toNatClampNeg)).toInt = (S_20.1 24 (((S.1 23 4)).toNatClampNeg)).toInt := ti_eq (f_S_30 24 (((S.1 23 4)).toNatClampNeg) (fun e => absurd e (by decide)))
    have h13 : (S_30.1 24 (((S_20.1 23 4)).toNatClampNeg)).toInt = (S_20.1 24 (((S_20.1 23 4)).toNatClampNeg)).toInt := ti_eq (f_S_30 24 (((S_20.1 23 4)).toNatClampNeg) (fun e => absurd e (by decide)))
    have h14 : (S_30.1 24 (((S_30.1 23 4)).toNatClampNeg)).toInt = (S_20.1 24 (((S_20.1 23 4)).toNatClampNeg)).toInt := by rw [f_S_30 23 4 (fun e => absurd e (by decide))]; exact ti_eq (f_S_30 24 (((S_20.1 23 4)).toNatClampNeg) (fun e => absurd e (by decide)))
    have h15 := b_23_4 I_S_30
    try have h16 : (((S_30.1 23 4) + (1 : Int32))).toInt = ((S_30.1 23 4)).toInt + (1) := add_iv rfl li_1 (by omega) (by omega)
    refine Sf.w I_S_30 F_S_30 rfl (show ((0) : Int) ≤ (((S_30.1 23 4) + (1 : Int32))).toInt by omega) (show (((S_30.1 23 4) + (1 : Int32))).toInt ≤ (12 : Int) by omega) (fun S_38 I_S_38 F_S_38 v_S_38 f_S_38 l_S_38 => ?_)
    have h17 := eq_iv rfl rfl v_S_38
    have h18 : (S_38.1 24 (((S.1 23 4)).toNatClampNeg)).toInt = (S_30.1 24 (((S.1 23 4)).toNatClampNeg)).toInt := ti_eq (f_S_38 24 (((S.1 23 4)).toNatClampNeg) (fun e => absurd e (by decide)))
    have h19 : (S_38.1 24 (((S_20.1 23 4)).toNatClampNeg)).toInt = (S_30.1 24 (((S_20.1 23 4)).toNatClampNeg)).toInt := ti_eq (f_S_38 24 (((S_20.1 23 4)).toNatClampNeg) (fun e => absurd e (by decide)))
    have h20 : (S_38.1 24 (((S_30.1 23 4)).toNatClampNeg)).toInt = (S_30.1 24 (((S_30.1 23 4)).toNatClampNeg)).toInt := ti_eq (f_S_38 24 (((S_30.1 23 4)).toNatClampNeg) (fun e => absurd e (by decide)))
    have h21 : (S_38.1 25 (((S_20.1 23 4)).toNatClampNeg)).toInt = (S_30.1 25 (((S_20.1 23 4)).toNatClampNeg)).toInt := ti_eq (f_S_38 25 (((S_20.1 23 4)).toNatClampNeg) (fun e => absurd e (by decide)))
    have h22 : (S_38.1 25 (((S_30.1 23 4)).toNatClampNeg)).toInt = (S_30.1 25 (((S_30.1 23 4)).toNatClampNeg)).toInt := ti_eq (f_S_38 25 (((S_30.1 23 4)).toNatClampNeg) (fun e => absurd e (by decide)))
    exact Sf.so ⟨I_S_38, F_S_38, trivial⟩
  · have h23 := nlt_iv rfl li_12 c_h2
    exact Sf.so ⟨I_S, F_S, trivial⟩
theorem s_fX11_server (fu : Nat) (hfu : 1000000000000000000 ≤ fu) (x1 : Int32) (S : St) (I_S : Inv S) : Sf (fX11_server fu x1 S) (fun U r => Inv U ∧ Fr [(23, 5), (24, 0), (25, 0)] S U ∧ (((r.1 = 0 ∨ r.1 = 1 ∨ r.1 = 2)))) := by
  unfold fX11_server
  have F_S : Fr [(23, 5), (24, 0), (25, 0)] S S := Fr.refl _ _
  have h1 := i32 x1
  have h2 := b_23_4 I_S
  refine Sf.bp (s_fX7_ofAddress fu hfu x1 S I_S) (fun r_5 p_r_5 => ?_)
  have h3 := i32 r_5
  refine Sf.i (fun c_h4 => ?_) (fun c_h4 => ?_)
  · have h5 := eq_iv rfl li_m1 c_h4
    refine Sf.bp (s_fX7_size fu hfu S I_S) (fun r_26 p_r_26 => ?_)
    have h6 := i32 r_26
    refine Sf.i (fun c_h7 => ?_) (fun c_h7 => ?_)
    · have h8 := lt_iv rfl li_12 c_h7
      refine Sf.b (s_fX7_open fu hfu x1 S I_S) (fun S_49 r_49 p_r_49 => ?_)
      obtain ⟨I_S_49, G_S_49, p_r_49⟩ := p_r_49
      have F_S_49 := Fr.tr F_S G_S_49 rfl
      exact Sf.so ⟨I_S_49, F_S_49, (show (((0 : Nat) = 0 ∨ (0 : Nat) = 1 ∨ (0 : Nat) = 2)) by omega)⟩
    · have h9 := nlt_iv rfl li_12 c_h7
      exact Sf.so ⟨I_S, F_S, (show (((2 : Nat) = 0 ∨ (2 : Nat) = 1 ∨ (2 : Nat) = 2)) by omega)⟩
  · have h10 := neq_iv rfl li_m1 c_h4
    exact Sf.so ⟨I_S, F_S, (show (((1 : Nat) = 0 ∨ (1 : Nat) = 1 ∨ (1 : Nat) = 2)) by omega)⟩
theorem s_fX7_has (fu : Nat) (hfu : 1000000000000000000 ≤ fu) (x1 : Int32) (S : St) (I_S : Inv S) : Sp (fX7_has fu x1 S) S (fun r => ((r.toInt = 0 ∨ r.toInt = 1 ∧ 0 ≤ (x1).toInt ∧ (x1).toInt < (S.1 23 4).toInt))) := by
  unfold fX7_has
  have h1 := i32 x1
  refine Sp.i (fun c_h2 => ?_) (fun c_h2 => ?_)
  · have h3 := lt_iv rfl li_0 c_h2
    have h4 := b_23_4 I_S
    have h5 : ((0 : Int32)).toInt = 0 := li_0
    exact Sp.so (by omega)
  · have h6 := nlt_iv rfl li_0 c_h2
    have h7 := b_23_4 I_S
    refine Sp.i (fun c_h8 => ?_) (fun c_h8 => ?_)
    · have h9 := le_iv rfl rfl c_h8
      have h10 := b_23_4 I_S
      have h11 : ((0 : Int32)).toInt = 0 := li_0
      exact Sp.so (by omega)
    · have h12 := nle_iv rfl rfl c_h8
      have h13 := b_23_4 I_S
      have h14 : ((1 : Int32)).toInt = 1 := li_1
      exact Sp.so (by omega)
theorem s_fX11_needServer (fu : Nat) (hfu : 1000000000000000000 ≤ fu) (x1 : Int32) (S : St) (I_S : Inv S) : Sp (fX11_needServer fu x1 S) S (fun r => ((r.1 = 0 ∧ 0 ≤ (x1).toInt ∧ (x1).toInt < (S.1 23 4).toInt ∨ r.1 = 3))) := by
  unfold fX11_needServer
  have h1 := i32 x1
  have h2 := b_23_4 I_S
  refine Sp.b (s_fX7_has fu hfu x1 S I_S) (fun r_5 p_r_5 => ?_)
  have h3 := i32 r_5
  refine Sp.i (fun c_h4 => ?_) (fun c_h4 => ?_)
  · have h5 := eq_iv rfl li_0 c_h4
    have h6 := b_23_4 I_S
    exact Sp.so (show (((3 : Nat) = 0 ∧ 0 ≤ (x1).toInt ∧ (x1).toInt < (S.1 23 4).toInt ∨ (3 : Nat) = 3)) by omega)
  · have h7 := neq_iv rfl li_0 c_h4
    have h8 := b_23_4 I_S
    exact Sp.so (show (((0 : Nat) = 0 ∧ 0 ≤ (x1).toInt ∧ (x1).toInt < (S.1 23 4).toInt ∨ (0 : Nat) = 3)) by omega)
theorem s_fX7_isServed (fu : Nat) (hfu : 1000000000000000000 ≤ fu) (x1 : Int32) (x2 : Int32) (S : St) (I_S : Inv S) : Sp (fX7_isServed fu x1 x2 S) S (fun r => (0 ≤ r.toInt) ∧ (r.toInt ≤ 1)) := by
  unfold fX7_isServed
  have h1 := i32 x1
  have h2 := b_23_4 I_S
  refine Sp.b (s_fX7_has fu hfu x1 S I_S) (fun r_2 p_r_2 => ?_)
  have h3 := i32 r_2
  refine Sp.i (fun c_h4 => ?_) (fun c_h4 => ?_)
  · have h5 := eq_iv rfl li_0 c_h4
    have h6 : ((0 : Int32)).toInt = 0 := li_0
    exact Sp.so (by omega)
  · have h7 := neq_iv rfl li_0 c_h4
    refine Sp.g (ck_iv (by omega) (by omega)) ?_
    have h8 := i32 x2
    have h9 := and_31 (x2)
    have h10 := and_1 (((S.1 25 ((x1).toNatClampNeg)) >>> (x2 &&& 31)))
    refine Sp.i (fun c_h11 => ?_) (fun c_h11 => ?_)
    · have h12 := eq_iv rfl li_1 c_h11
      have h13 : ((1 : Int32)).toInt = 1 := li_1
      exact Sp.so (by omega)
    · have h14 := neq_iv rfl li_1 c_h11
      have h15 : ((0 : Int32)).toInt = 0 := li_0
      exact Sp.so (by omega)
theorem s_fX7_change (fu : Nat) (hfu : 1000000000000000000 ≤ fu) (x1 : Int32) (x2 : Int32) (x3 : Int32) (S : St) (I_S : Inv S) : Sf (fX7_change fu x1 x2 x3 S) (fun U r => Inv U ∧ Fr [(25, 0)] S U ∧ ((0 ≤ r.toInt) ∧ (r.toInt ≤ 1))) := by
  unfold fX7_change
  have F_S : Fr [(25, 0)] S S := Fr.refl _ _
  have h1 := i32 x1
  have h2 := b_23_4 I_S
  refine Sf.bp (s_fX7_has fu hfu x1 S I_S) (fun r_2 p_r_2 => ?_)
  have h3 := i32 r_2
  refine Sf.i (fun c_h4 => ?_) (fun c_h4 => ?_)
  · have h5 := eq_iv rfl li_0 c_h4
    have h6 : ((0 : Int32)).toInt = 0 := li_0
    exact Sf.so ⟨I_S, F_S, by omega⟩
  · have h7 := neq_iv rfl li_0 c_h4
    have h8 := i32 x2
    refine Sf.bp (s_fX7_isServed fu hfu x1 x2 S I_S) (fun r_11 p_r_11 => ?_)
    have h9 := i32 r_11
    have h10 := i32 x3
    refine Sf.i (fun c_h11 => ?_) (fun c_h11 => ?_)
    · have h12 := eq_iv rfl rfl c_h11
      have h13 : ((0 : Int32)).toInt = 0 := li_0
      exact Sf.so ⟨I_S, F_S, by omega⟩
    · have h14 := neq_iv rfl rfl c_h11
      refine Sf.g (ck_iv (by omega) (by omega)) ?_
      refine Sf.g (ck_iv (by omega) (by omega)) ?_
      have h15 := and_31 (x2)
      refine Sf.w I_S F_S rfl (i32 _).1 (i32 _).2 (fun S_31 I_S_31 F_S_31 v_S_31 f_S_31 l_S_31 => ?_)
      have h16 := ti_eq (f_S_31 23 4 (fun e => absurd e (by decide)))
      have h17 : (S_31.1 25 ((x1).toNatClampNeg)).toInt = (((S.1 25 ((x1).toNatClampNeg)) ^^^ ((1 : Int32) <<< (x2 &&& 31)))).toInt := eq_iv rfl rfl v_S_31
      have h18 : ((1 : Int32)).toInt = 1 := li_1
      exact Sf.so ⟨I_S_31, F_S_31, by omega⟩
theorem s_fX11_serve (fu : Nat) (hfu : 1000000000000000000 ≤ fu) (x1 : Int32) (x2 : Int32) (x3 : Int32) (S : St) (I_S : Inv S) : Sf (fX11_serve fu x1 x2 x3 S) (fun U r => Inv U ∧ Fr [(25, 0)] S U ∧ (((r.1 = 0 ∨ r.1 = 3)))) := by
  unfold fX11_serve
  have F_S : Fr [(25, 0)] S S := Fr.refl _ _
  have h1 := i32 x1
  have h2 := b_23_4 I_S
  refine Sf.xp (s_fX11_needServer fu hfu x1 S I_S) (fun r_2_ p_r_2_ => ?_) (fun k r p_e => ?_)
  rotate_left
  · have p_e : (((k + 1) = 0 ∧ 0 ≤ (x1).toInt ∧ (x1).toInt < (S.1 23 4).toInt ∨ (k + 1) = 3)) := p_e
    exact ⟨I_S, F_S, (show (((k + 1) = 0 ∨ (k + 1) = 3)) by omega)⟩
  have p_r_2_ : (((0 : Nat) = 0 ∧ 0 ≤ (x1).toInt ∧ (x1).toInt < (S.1 23 4).toInt ∨ (0 : Nat) = 3)) := p_r_2_
  have h3 := i32 x2
  have h4 := b_10_3 I_S
  refine Sf.xp (s_fX11_needZone fu hfu x2 S I_S) (fun r_7_ p_r_7_ => ?_) (fun k r p_e => ?_)
  rotate_left
  · have p_e : (((k + 1) = 0 ∧ 0 ≤ (x2).toInt ∧ (x2).toInt < (S.1 10 3).toInt ∨ (k + 1) = 3)) := p_e
    exact ⟨I_S, F_S, (show (((k + 1) = 0 ∨ (k + 1) = 3)) by omega)⟩
  have p_r_7_ : (((0 : Nat) = 0 ∧ 0 ≤ (x2).toInt ∧ (x2).toInt < (S.1 10 3).toInt ∨ (0 : Nat) = 3)) := p_r_7_
  have h5 := i32 x3
  refine Sf.b (s_fX7_change fu hfu x1 x2 x3 S I_S) (fun S_17 r_17 p_r_17 => ?_)
  obtain ⟨I_S_17, G_S_17, p_r_17⟩ := p_r_17
  have F_S_17 := Fr.tr F_S G_S_17 rfl
  have h6 := ti_eq (G_S_17 10 3 rfl)
  have h7 := ti_eq (G_S_17 23 4 rfl)
  have h8 := i32 r_17
  refine Sf.g (isB_iv (by omega) (by omega)) ?_
  exact Sf.so ⟨I_S_17, F_S_17, (show (((0 : Nat) = 0 ∨ (0 : Nat) = 3)) by omega)⟩
theorem s_fX7_zoneFor_5 (fu : Nat) (hfu : 1000000000000000000 ≤ fu) : ∀ (n : Nat) (x1 : Int32) (x3 : Int32) (x4 : Int32) (S : St), Inv S → (0 ≤ (x4).toInt) → (7 - (x4).toInt).toNat < n → Sp (fX7_zoneFor_5 fu n x1 x3 x4 S) S (fun r => (-1 ≤ r.toInt) ∧ (r.toInt < (S.1 10 3).toInt)) := by
  intro n
  induction n with
  | zero => intro x1 x3 x4 S I_S g0 hm; exact absurd hm (Nat.not_lt_zero _)
  | succ n ih =>
    intro x1 x3 x4 S I_S g0 hm
    rw [fX7_zoneFor_5_s]
    have h1 := i32 x4
    refine Sp.i (fun c_h2 => ?_) (fun c_h2 => ?_)
    · have h3 := lt_iv li_6 rfl c_h2
      have h4 := b_10_3 I_S
      have h5 : ((-1 : Int32)).toInt = -1 := li_m1
      exact Sp.so (by omega)
    · have h6 := nlt_iv li_6 rfl c_h2
      have h7 := i32 x3
      have h8 := b_10_3 I_S
      refine Sp.b (s_fX10_ofApex fu hfu x3 S I_S) (fun r_17 p_r_17 => ?_)
      have h9 := i32 r_17
      refine Sp.i (fun c_h10 => ?_) (fun c_h10 => ?_)
      · have h11 := eq_iv rfl li_m1 c_h10
        unfold fX7_zoneFor_41
        refine Sp.b (s_fX3_above fu hfu x3 S I_S) (fun r_46 p_r_46 => ?_)
        have h12 := i32 x1
        have h13 := i32 r_46
        try have h14 : ((x4 + (1 : Int32))).toInt = (x4).toInt + (1) := add_iv rfl li_1 (by omega) (by omega)
        refine Sp.mono (ih x1 r_46 (x4 + (1 : Int32)) S I_S (by omega) (by omega)) (fun r p_h15 => ?_)
        exact by omega
      · have h16 := neq_iv rfl li_m1 c_h10
        have h17 := i32 x1
        refine Sp.b (s_fX7_isServed fu hfu x1 r_17 S I_S) (fun r_32 p_r_32 => ?_)
        have h18 := i32 r_32
        refine Sp.i (fun c_h19 => ?_) (fun c_h19 => ?_)
        · have h20 := eq_iv rfl li_0 c_h19
          unfold fX7_zoneFor_41
          refine Sp.b (s_fX3_above fu hfu x3 S I_S) (fun r_46 p_r_46 => ?_)
          have h21 := i32 r_46
          try have h22 : ((x4 + (1 : Int32))).toInt = (x4).toInt + (1) := add_iv rfl li_1 (by omega) (by omega)
          refine Sp.mono (ih x1 r_46 (x4 + (1 : Int32)) S I_S (by omega) (by omega)) (fun r p_h23 => ?_)
          exact by omega
        · have h24 := neq_iv rfl li_0 c_h19
          have h25 := b_10_3 I_S
          exact Sp.so (by omega)
theorem s_fX7_zoneFor (fu : Nat) (hfu : 1000000000000000000 ≤ fu) (x1 : Int32) (x2 : Int32) (S : St) (I_S : Inv S) : Sp (fX7_zoneFor fu x1 x2 S) S (fun r => (-1 ≤ r.toInt) ∧ (r.toInt < (S.1 10 3).toInt)) := by
  unfold fX7_zoneFor
  have h1 := i32 x1
  have h2 := i32 x2
  have h3 : ((0 : Int32)).toInt = 0 := li_0
  have h4 := b_10_3 I_S
  refine Sp.mono (s_fX7_zoneFor_5 fu hfu fu x1 x2 (0 : Int32) S I_S (by omega) (by omega)) (fun r p_h5 => ?_)
  exact by omega
theorem s_fX0_clear_19 (fu : Nat) (hfu : 1000000000000000000 ≤ fu) (S : St) (I_S : Inv S) : Sf (fX0_clear fu 19 S) (fun U r => Inv U ∧ Fr [(19, 2), (19, 3)] S U ∧ (True)) := by
  unfold fX0_clear
  try simp only [Nat.reduceAdd]
  have F_S : Fr [(19, 2), (19, 3)] S S := Fr.refl _ _
  refine Sf.w I_S F_S rfl (show ((0) : Int) ≤ ((0 : Int32)).toInt by rw [li_0]; omega) (show ((0 : Int32)).toInt ≤ (1000 : Int) by rw [li_0]; omega) (fun S_2 I_S_2 F_S_2 v_S_2 f_S_2 l_S_2 => ?_)
  refine Sf.w I_S_2 F_S_2 rfl (show ((0) : Int) ≤ ((0 : Int32)).toInt by rw [li_0]; omega) (show ((0 : Int32)).toInt ≤ (1 : Int) by rw [li_0]; omega) (fun S_7 I_S_7 F_S_7 v_S_7 f_S_7 l_S_7 => ?_)
  exact Sf.so ⟨I_S_7, F_S_7, trivial⟩
theorem s_fJ7_fill_53178_5_21_300 (fu : Nat) (hfu : 1000000000000000000 ≤ fu) : ∀ (n : Nat) (x1 : Int32) (x2 : Int32) (x3 : Int32) (S : St), Inv S → (0 ≤ (x2).toInt) → ((x3).toInt ≤ 300) → (300 - (x2).toInt).toNat < n → Sf (fJ7_fill_53178_5 fu 21 300 n x1 x2 x3 S) (fun U r => Inv U ∧ Fr [(21, 0)] S U ∧ (True)) := by
  intro n
  induction n with
  | zero => intro x1 x2 x3 S I_S g0 g1 hm; exact absurd hm (Nat.not_lt_zero _)
  | succ n ih =>
    intro x1 x2 x3 S I_S g0 g1 hm
    rw [fJ7_fill_53178_5_s]
    try simp only [Nat.reduceAdd]
    have F_S : Fr [(21, 0)] S S := Fr.refl _ _
    have h1 := i32 x3
    have h2 := i32 x2
    refine Sf.i (fun c_h3 => ?_) (fun c_h3 => ?_)
    · have h4 := le_iv rfl rfl c_h3
      exact Sf.so ⟨I_S, F_S, trivial⟩
    · have h5 := nle_iv rfl rfl c_h3
      refine Sf.g (ck_iv (by omega) (by omega)) ?_
      have h6 := i32 x1
      refine Sf.w I_S F_S rfl (i32 _).1 (i32 _).2 (fun S_13 I_S_13 F_S_13 v_S_13 f_S_13 l_S_13 => ?_)
      have h7 : (S_13.1 21 ((x2).toNatClampNeg)).toInt = (x1).toInt := eq_iv rfl rfl v_S_13
      try have h8 : ((x2 + (1 : Int32))).toInt = (x2).toInt + (1) := add_iv rfl li_1 (by omega) (by omega)
      refine Sf.mono (ih x1 (x2 + (1 : Int32)) x3 S_13 I_S_13 (by omega) (by omega) (by omega)) (fun U r p_h9 => ?_)
      obtain ⟨I_U, G_U, p_h9⟩ := p_h9
      exact ⟨I_U, Fr.tr F_S_13 G_U rfl, trivial⟩
theorem s_fJ7_fill_53178_21_300 (fu : Nat) (hfu : 1000000000000000000 ≤ fu) (x1 : Int32) (S : St) (I_S : Inv S) : Sf (fJ7_fill_53178 fu 21 300 x1 S) (fun U r => Inv U ∧ Fr [(21, 0)] S U ∧ (True)) := by
  unfold fJ7_fill_53178
  try simp only [Nat.reduceAdd]
  have F_S : Fr [(21, 0)] S S := Fr.refl _ _
  have h1 := i32 x1
  have h2 : ((0 : Int32)).toInt = 0 := li_0
  have h3 : ((Int32.ofNat 300)).toInt = 300 := (show ((Int32.ofNat 300)).toInt = 300 by decide)
  refine Sf.mono (s_fJ7_fill_53178_5_21_300 fu hfu fu x1 (0 : Int32) (Int32.ofNat 300) S I_S (by omega) (by omega) (by omega)) (fun U r p_h4 => ?_)
  obtain ⟨I_U, G_U, p_h4⟩ := p_h4
  exact ⟨I_U, Fr.tr F_S G_U rfl, trivial⟩
theorem s_fJ7_fill_53178_5_22_3 (fu : Nat) (hfu : 1000000000000000000 ≤ fu) : ∀ (n : Nat) (x1 : Int32) (x2 : Int32) (x3 : Int32) (S : St), Inv S → (0 ≤ (x2).toInt) → ((x3).toInt ≤ 3) → (3 - (x2).toInt).toNat < n → Sf (fJ7_fill_53178_5 fu 22 3 n x1 x2 x3 S) (fun U r => Inv U ∧ Fr [(22, 0)] S U ∧ (True)) := by
  intro n
  induction n with
  | zero => intro x1 x2 x3 S I_S g0 g1 hm; exact absurd hm (Nat.not_lt_zero _)
  | succ n ih =>
    intro x1 x2 x3 S I_S g0 g1 hm
    rw [fJ7_fill_53178_5_s]
    try simp only [Nat.reduceAdd]
    have F_S : Fr [(22, 0)] S S := Fr.refl _ _
    have h1 := i32 x3
    have h2 := i32 x2
    refine Sf.i (fun c_h3 => ?_) (fun c_h3 => ?_)
    · have h4 := le_iv rfl rfl c_h3
      exact Sf.so ⟨I_S, F_S, trivial⟩
    · have h5 := nle_iv rfl rfl c_h3
      refine Sf.g (ck_iv (by omega) (by omega)) ?_
      have h6 := i32 x1
      refine Sf.w I_S F_S rfl (i32 _).1 (i32 _).2 (fun S_13 I_S_13 F_S_13 v_S_13 f_S_13 l_S_13 => ?_)
      have h7 : (S_13.1 22 ((x2).toNatClampNeg)).toInt = (x1).toInt := eq_iv rfl rfl v_S_13
      try have h8 : ((x2 + (1 : Int32))).toInt = (x2).toInt + (1) := add_iv rfl li_1 (by omega) (by omega)
      refine Sf.mono (ih x1 (x2 + (1 : Int32)) x3 S_13 I_S_13 (by omega) (by omega) (by omega)) (fun U r p_h9 => ?_)
      obtain ⟨I_U, G_U, p_h9⟩ := p_h9
      exact ⟨I_U, Fr.tr F_S_13 G_U rfl, trivial⟩
theorem s_fJ7_fill_53178_22_3 (fu : Nat) (hfu : 1000000000000000000 ≤ fu) (x1 : Int32) (S : St) (I_S : Inv S) : Sf (fJ7_fill_53178 fu 22 3 x1 S) (fun U r => Inv U ∧ Fr [(22, 0)] S U ∧ (True)) := by
  unfold fJ7_fill_53178
  try simp only [Nat.reduceAdd]
  have F_S : Fr [(22, 0)] S S := Fr.refl _ _
  have h1 := i32 x1
  have h2 : ((0 : Int32)).toInt = 0 := li_0
  have h3 : ((Int32.ofNat 3)).toInt = 3 := (show ((Int32.ofNat 3)).toInt = 3 by decide)
  refine Sf.mono (s_fJ7_fill_53178_5_22_3 fu hfu fu x1 (0 : Int32) (Int32.ofNat 3) S I_S (by omega) (by omega) (by omega)) (fun U r p_h4 => ?_)
  obtain ⟨I_U, G_U, p_h4⟩ := p_h4
  exact ⟨I_U, Fr.tr F_S G_U rfl, trivial⟩
theorem s_fX0_add_19 (fu : Nat) (hfu : 1000000000000000000 ≤ fu) (x1 : Int32) (S : St) (I_S : Inv S) : Sf (fX0_add fu 19 x1 S) (fun U r => Inv U ∧ Fr [(19, 2), (19, 3), (20, 0)] S U ∧ (True)) := by
  unfold fX0_add
  try simp only [Nat.reduceAdd]
  have F_S : Fr [(19, 2), (19, 3), (20, 0)] S S := Fr.refl _ _
  have h1 := b_19_1 I_S
  refine Sf.i (fun c_h2 => ?_) (fun c_h2 => ?_)
  · have h3 := lt_iv rfl li_1000 c_h2
    refine Sf.g (ck_iv (by omega) (by omega)) ?_
    have h4 := vpy ((x1).toInt8.toInt32)
    refine Sf.w I_S F_S rfl (show ((-128) : Int) ≤ ((vp_nar .byte ((x1).toInt8.toInt32))).toInt by omega) (show ((vp_nar .byte ((x1).toInt8.toInt32))).toInt ≤ (127 : Int) by omega) (fun S_26 I_S_26 F_S_26 v_S_26 f_S_26 l_S_26 => ?_)
    have h5 := ti_eq (f_S_26 19 1 (fun e => absurd e (by decide)))
    have h6 : (S_26.1 20 (((S.1 19 1)).toNatClampNeg)).toInt = ((vp_nar .byte ((x1).toInt8.toInt32))).toInt := eq_iv rfl rfl v_S_26
    have h7 : (S_26.1 20 (((S_26.1 19 1)).toNatClampNeg)).toInt = ((vp_nar .byte ((x1).toInt8.toInt32))).toInt := by rw [f_S_26 19 1 (fun e => absurd e (by decide))]; exact eq_iv rfl rfl v_S_26
    have h8 := b_19_1 I_S_26
    try have h9 : (((S_26.1 19 1) + (1 : Int32))).toInt = ((S_26.1 19 1)).toInt + (1) := add_iv rfl li_1 (by omega) (by omega)
    refine Sf.w I_S_26 F_S_26 rfl (show ((0) : Int) ≤ (((S_26.1 19 1) + (1 : Int32))).toInt by omega) (show (((S_26.1 19 1) + (1 : Int32))).toInt ≤ (1000 : Int) by omega) (fun S_34 I_S_34 F_S_34 v_S_34 f_S_34 l_S_34 => ?_)
    have h10 := eq_iv rfl rfl v_S_34
    have h11 : (S_34.1 20 (((S.1 19 1)).toNatClampNeg)).toInt = (S_26.1 20 (((S.1 19 1)).toNatClampNeg)).toInt := ti_eq (f_S_34 20 (((S.1 19 1)).toNatClampNeg) (fun e => absurd e (by decide)))
    have h12 : (S_34.1 20 (((S_26.1 19 1)).toNatClampNeg)).toInt = (S_26.1 20 (((S_26.1 19 1)).toNatClampNeg)).toInt := ti_eq (f_S_34 20 (((S_26.1 19 1)).toNatClampNeg) (fun e => absurd e (by decide)))
    exact Sf.so ⟨I_S_34, F_S_34, trivial⟩
  · have h13 := nlt_iv rfl li_1000 c_h2
    refine Sf.w I_S F_S rfl (show ((0) : Int) ≤ ((1 : Int32)).toInt by rw [li_1]; omega) (show ((1 : Int32)).toInt ≤ (1 : Int) by rw [li_1]; omega) (fun S_12 I_S_12 F_S_12 v_S_12 f_S_12 l_S_12 => ?_)
    have h14 := ti_eq (f_S_12 19 1 (fun _ e => absurd e (by decide)))
    exact Sf.so ⟨I_S_12, F_S_12, trivial⟩
theorem s_fX0_addTwo_19 (fu : Nat) (hfu : 1000000000000000000 ≤ fu) (x1 : Int32) (S : St) (I_S : Inv S) : Sf (fX0_addTwo fu 19 x1 S) (fun U r => Inv U ∧ Fr [(19, 2), (19, 3), (20, 0)] S U ∧ (True)) := by
  unfold fX0_addTwo
  try simp only [Nat.reduceAdd]
  have F_S : Fr [(19, 2), (19, 3), (20, 0)] S S := Fr.refl _ _
  have h1 := i32 x1
  have h2 := and_31 ((8 : Int32))
  refine Sf.b (s_fX0_add_19 fu hfu (x1 >>> ((8 : Int32) &&& 31)) S I_S) (fun S_5 r_5_ p_r_5_ => ?_)
  obtain ⟨I_S_5, G_S_5, p_r_5_⟩ := p_r_5_
  have F_S_5 := Fr.tr F_S G_S_5 rfl
  refine Sf.b (s_fX0_add_19 fu hfu x1 S_5 I_S_5) (fun S_10 r_10_ p_r_10_ => ?_)
  obtain ⟨I_S_10, G_S_10, p_r_10_⟩ := p_r_10_
  have F_S_10 := Fr.tr F_S_5 G_S_10 rfl
  exact Sf.so ⟨I_S_10, F_S_10, trivial⟩
theorem s_fX0_addFour_19 (fu : Nat) (hfu : 1000000000000000000 ≤ fu) (x1 : Int32) (S : St) (I_S : Inv S) : Sf (fX0_addFour fu 19 x1 S) (fun U r => Inv U ∧ Fr [(19, 2), (19, 3), (20, 0)] S U ∧ (True)) := by
  unfold fX0_addFour
  try simp only [Nat.reduceAdd]
  have F_S : Fr [(19, 2), (19, 3), (20, 0)] S S := Fr.refl _ _
  have h1 := i32 x1
  have h2 := and_31 ((24 : Int32))
  refine Sf.b (s_fX0_add_19 fu hfu (x1 >>> ((24 : Int32) &&& 31)) S I_S) (fun S_5 r_5_ p_r_5_ => ?_)
  obtain ⟨I_S_5, G_S_5, p_r_5_⟩ := p_r_5_
  have F_S_5 := Fr.tr F_S G_S_5 rfl
  have h3 := and_31 ((16 : Int32))
  refine Sf.b (s_fX0_add_19 fu hfu (x1 >>> ((16 : Int32) &&& 31)) S_5 I_S_5) (fun S_13 r_13_ p_r_13_ => ?_)
  obtain ⟨I_S_13, G_S_13, p_r_13_⟩ := p_r_13_
  have F_S_13 := Fr.tr F_S_5 G_S_13 rfl
  have h4 := and_31 ((8 : Int32))
  refine Sf.b (s_fX0_add_19 fu hfu (x1 >>> ((8 : Int32) &&& 31)) S_13 I_S_13) (fun S_21 r_21_ p_r_21_ => ?_)
  obtain ⟨I_S_21, G_S_21, p_r_21_⟩ := p_r_21_
  have F_S_21 := Fr.tr F_S_13 G_S_21 rfl
  refine Sf.b (s_fX0_add_19 fu hfu x1 S_21 I_S_21) (fun S_26 r_26_ p_r_26_ => ?_)
  obtain ⟨I_S_26, G_S_26, p_r_26_⟩ := p_r_26_
  have F_S_26 := Fr.tr F_S_21 G_S_26 rfl
  exact Sf.so ⟨I_S_26, F_S_26, trivial⟩
theorem s_fX0_size_19 (fu : Nat) (hfu : 1000000000000000000 ≤ fu) (S : St) (I_S : Inv S) : Sp (fX0_size fu 19 S) S (fun r => (r.toInt = (S.1 19 1).toInt)) := by
  unfold fX0_size
  try simp only [Nat.reduceAdd]
  have h1 := b_19_1 I_S
  have h2 := b_19_1 I_S
  exact Sp.so (by omega)
theorem s_fX9_addName_69 (fu : Nat) (hfu : 1000000000000000000 ≤ fu) (k_19 : Int32 → Int32 → St → Option (St × Int32)) (N : Nat) (hk_k_19 : ∀ (x2 : Int32) (x3 : Int32) (S : St), Inv S → (0 ≤ (x2).toInt) → ((x2).toInt ≤ 299) → (0 ≤ (x3).toInt) → (6 - (x3).toInt).toNat < N → Sf (k_19 x2 x3 S) (fun U r => Inv U ∧ Fr [(19, 2), (19, 3), (20, 0), (21, 0)] S U ∧ (True))) : ∀ (n : Nat) (x2 : Int32) (x3 : Int32) (x4 : Int32) (S : St), Inv S → (0 ≤ (x4).toInt) → (0 ≤ (x2).toInt) → ((x2).toInt ≤ 299) → (0 ≤ (x3).toInt) → ((x3).toInt < 6) → ((6 - (x3).toInt).toNat ≤ N) → (10 - (x4).toInt).toNat < n → Sf (fX9_addName_69 fu k_19 n x2 x3 x4 S) (fun U r => Inv U ∧ Fr [(19, 2), (19, 3), (20, 0), (21, 0)] S U ∧ (True)) := by
  intro n
  induction n with
  | zero => intro x2 x3 x4 S I_S g0 g1 g2 g3 g4 g5 hm; exact absurd hm (Nat.not_lt_zero _)
  | succ n ih =>
    intro x2 x3 x4 S I_S g0 g1 g2 g3 g4 g5 hm
    rw [fX9_addName_69_s]
    have F_S : Fr [(19, 2), (19, 3), (20, 0), (21, 0)] S S := Fr.refl _ _
    have h1 := i32 x2
    refine Sf.bp (s_fX3_labelSize fu hfu x2 S I_S) (fun r_76 p_r_76 => ?_)
    have h2 := i32 r_76
    have h3 := i32 x4
    refine Sf.i (fun c_h4 => ?_) (fun c_h4 => ?_)
    · have h5 := le_iv rfl rfl c_h4
      refine Sf.bp (s_fX3_above fu hfu x2 S I_S) (fun r_110 p_r_110 => ?_)
      have h6 := i32 r_110
      have h7 := i32 x3
      try have h8 : ((x3 + (1 : Int32))).toInt = (x3).toInt + (1) := add_iv rfl li_1 (by omega) (by omega)
      refine Sf.mono (hk_k_19 r_110 (x3 + (1 : Int32)) S I_S (by omega) (by omega) (by omega) (by omega)) (fun U r p_h9 => ?_)
      obtain ⟨I_U, G_U, p_h9⟩ := p_h9
      exact ⟨I_U, Fr.tr F_S G_U rfl, trivial⟩
    · have h10 := nle_iv rfl rfl c_h4
      refine Sf.bp (s_fX3_letter fu hfu x2 x4 S I_S) (fun r_93 p_r_93 => ?_)
      have h11 := i32 r_93
      refine Sf.b (s_fX0_add_19 fu hfu r_93 S I_S) (fun S_96 r_96_ p_r_96_ => ?_)
      obtain ⟨I_S_96, G_S_96, p_r_96_⟩ := p_r_96_
      have F_S_96 := Fr.tr F_S G_S_96 rfl
      have h12 := i32 x3
      try have h13 : ((x4 + (1 : Int32))).toInt = (x4).toInt + (1) := add_iv rfl li_1 (by omega) (by omega)
      refine Sf.mono (ih x2 x3 (x4 + (1 : Int32)) S_96 I_S_96 (by omega) (by omega) (by omega) (by omega) (by omega) (by omega) (by omega)) (fun U r p_h14 => ?_)
      obtain ⟨I_U, G_U, p_h14⟩ := p_h14
      exact ⟨I_U, Fr.tr F_S_96 G_U rfl, trivial⟩
theorem s_fX9_addName_19 (fu : Nat) (hfu : 1000000000000000000 ≤ fu) : ∀ (n : Nat) (x2 : Int32) (x3 : Int32) (S : St), Inv S → (0 ≤ (x2).toInt) → ((x2).toInt ≤ 299) → (0 ≤ (x3).toInt) → (6 - (x3).toInt).toNat < n → Sf (fX9_addName_19 fu n x2 x3 S) (fun U r => Inv U ∧ Fr [(19, 2), (19, 3), (20, 0), (21, 0)] S U ∧ (True)) := by
  intro n
  induction n with
  | zero => intro x2 x3 S I_S g0 g1 g2 hm; exact absurd hm (Nat.not_lt_zero _)
  | succ n ih =>
    intro x2 x3 S I_S g0 g1 g2 hm
    rw [fX9_addName_19_s]
    have F_S : Fr [(19, 2), (19, 3), (20, 0), (21, 0)] S S := Fr.refl _ _
    have h1 := i32 x3
    refine Sf.i (fun c_h2 => ?_) (fun c_h2 => ?_)
    · have h3 := le_iv li_6 rfl c_h2
      unfold fX9_addName_120
      have h4 := i32 x2
      refine Sf.i (fun c_h5 => ?_) (fun c_h5 => ?_)
      · have h6 := eq_iv rfl li_0 c_h5
        have h7 : ((0 : Int32)).toInt = 0 := li_0
        refine Sf.b (s_fX0_add_19 fu hfu (0 : Int32) S I_S) (fun S_129 r_129_ p_r_129_ => ?_)
        obtain ⟨I_S_129, G_S_129, p_r_129_⟩ := p_r_129_
        have F_S_129 := Fr.tr F_S G_S_129 rfl
        exact Sf.so ⟨I_S_129, F_S_129, trivial⟩
      · have h8 := neq_iv rfl li_0 c_h5
        refine Sf.g (ck_iv (by omega) (by omega)) ?_
        try have h9 : (((49152 : Int32) + (S.1 21 ((x2).toNatClampNeg)))).toInt = (49152) + ((S.1 21 ((x2).toNatClampNeg))).toInt := add_iv li_49152 rfl (by omega) (by omega)
        refine Sf.b (s_fX0_addTwo_19 fu hfu ((49152 : Int32) + (S.1 21 ((x2).toNatClampNeg))) S I_S) (fun S_148 r_148_ p_r_148_ => ?_)
        obtain ⟨I_S_148, G_S_148, p_r_148_⟩ := p_r_148_
        have F_S_148 := Fr.tr F_S G_S_148 rfl
        have h10 : (S_148.1 21 ((x2).toNatClampNeg)).toInt = (S.1 21 ((x2).toNatClampNeg)).toInt := ti_eq (G_S_148 21 ((x2).toNatClampNeg) rfl)
        exact Sf.so ⟨I_S_148, F_S_148, trivial⟩
    · have h11 := nle_iv li_6 rfl c_h2
      have h12 := i32 x2
      refine Sf.i (fun c_h13 => ?_) (fun c_h13 => ?_)
      · have h14 := eq_iv rfl li_0 c_h13
        unfold fX9_addName_120
        refine Sf.i (fun c_h15 => ?_) (fun c_h15 => ?_)
        · have h16 := eq_iv rfl li_0 c_h15
          have h17 : ((0 : Int32)).toInt = 0 := li_0
          refine Sf.b (s_fX0_add_19 fu hfu (0 : Int32) S I_S) (fun S_129 r_129_ p_r_129_ => ?_)
          obtain ⟨I_S_129, G_S_129, p_r_129_⟩ := p_r_129_
          have F_S_129 := Fr.tr F_S G_S_129 rfl
          exact Sf.so ⟨I_S_129, F_S_129, trivial⟩
        · have h18 := neq_iv rfl li_0 c_h15
          refine Sf.g (ck_iv (by omega) (by omega)) ?_
          try have h19 : (((49152 : Int32) + (S.1 21 ((x2).toNatClampNeg)))).toInt = (49152) + ((S.1 21 ((x2).toNatClampNeg))).toInt := add_iv li_49152 rfl (by omega) (by omega)
          refine Sf.b (s_fX0_addTwo_19 fu hfu ((49152 : Int32) + (S.1 21 ((x2).toNatClampNeg))) S I_S) (fun S_148 r_148_ p_r_148_ => ?_)
          obtain ⟨I_S_148, G_S_148, p_r_148_⟩ := p_r_148_
          have F_S_148 := Fr.tr F_S G_S_148 rfl
          have h20 : (S_148.1 21 ((x2).toNatClampNeg)).toInt = (S.1 21 ((x2).toNatClampNeg)).toInt := ti_eq (G_S_148 21 ((x2).toNatClampNeg) rfl)
          exact Sf.so ⟨I_S_148, F_S_148, trivial⟩
      · have h21 := neq_iv rfl li_0 c_h13
        refine Sf.g (ck_iv (by omega) (by omega)) ?_
        refine Sf.i (fun c_h22 => ?_) (fun c_h22 => ?_)
        · have h23 := eq_iv rfl li_0 c_h22
          have h24 := b_19_1 I_S
          refine Sf.bp (s_fX0_size_19 fu hfu S I_S) (fun r_47 p_r_47 => ?_)
          refine Sf.g (ck_iv (by omega) (by omega)) ?_
          have h25 := i32 r_47
          refine Sf.w I_S F_S rfl (i32 _).1 (i32 _).2 (fun S_50 I_S_50 F_S_50 v_S_50 f_S_50 l_S_50 => ?_)
          have h26 := ti_eq (f_S_50 19 1 (fun e => absurd e (by decide)))
          have h27 : (S_50.1 21 ((x2).toNatClampNeg)).toInt = (r_47).toInt := eq_iv rfl rfl v_S_50
          refine Sf.bp (s_fX3_labelSize fu hfu x2 S_50 I_S_50) (fun r_60 p_r_60 => ?_)
          have h28 := i32 r_60
          refine Sf.b (s_fX0_add_19 fu hfu r_60 S_50 I_S_50) (fun S_63 r_63_ p_r_63_ => ?_)
          obtain ⟨I_S_63, G_S_63, p_r_63_⟩ := p_r_63_
          have F_S_63 := Fr.tr F_S_50 G_S_63 rfl
          have h29 : (S_63.1 21 ((x2).toNatClampNeg)).toInt = (S_50.1 21 ((x2).toNatClampNeg)).toInt := ti_eq (G_S_63 21 ((x2).toNatClampNeg) rfl)
          have h30 : ((0 : Int32)).toInt = 0 := li_0
          refine Sf.mono (s_fX9_addName_69 fu hfu _ _ ih fu x2 x3 (0 : Int32) S_63 I_S_63 (by omega) (by omega) (by omega) (by omega) (by omega) (by omega) (by omega)) (fun U r p_h31 => ?_)
          obtain ⟨I_U, G_U, p_h31⟩ := p_h31
          exact ⟨I_U, Fr.tr F_S_63 G_U rfl, trivial⟩
        · have h32 := neq_iv rfl li_0 c_h22
          unfold fX9_addName_120
          refine Sf.i (fun c_h33 => ?_) (fun c_h33 => ?_)
          · have h34 := eq_iv rfl li_0 c_h33
            have h35 : ((0 : Int32)).toInt = 0 := li_0
            refine Sf.b (s_fX0_add_19 fu hfu (0 : Int32) S I_S) (fun S_129 r_129_ p_r_129_ => ?_)
            obtain ⟨I_S_129, G_S_129, p_r_129_⟩ := p_r_129_
            have F_S_129 := Fr.tr F_S G_S_129 rfl
            have h36 : (S_129.1 21 ((x2).toNatClampNeg)).toInt = (S.1 21 ((x2).toNatClampNeg)).toInt := ti_eq (G_S_129 21 ((x2).toNatClampNeg) rfl)
            exact Sf.so ⟨I_S_129, F_S_129, trivial⟩
          · have h37 := neq_iv rfl li_0 c_h33
            refine Sf.g (ck_iv (by omega) (by omega)) ?_
            try have h38 : (((49152 : Int32) + (S.1 21 ((x2).toNatClampNeg)))).toInt = (49152) + ((S.1 21 ((x2).toNatClampNeg))).toInt := add_iv li_49152 rfl (by omega) (by omega)
            refine Sf.b (s_fX0_addTwo_19 fu hfu ((49152 : Int32) + (S.1 21 ((x2).toNatClampNeg))) S I_S) (fun S_148 r_148_ p_r_148_ => ?_)
            obtain ⟨I_S_148, G_S_148, p_r_148_⟩ := p_r_148_
            have F_S_148 := Fr.tr F_S G_S_148 rfl
            have h39 : (S_148.1 21 ((x2).toNatClampNeg)).toInt = (S.1 21 ((x2).toNatClampNeg)).toInt := ti_eq (G_S_148 21 ((x2).toNatClampNeg) rfl)
            exact Sf.so ⟨I_S_148, F_S_148, trivial⟩
theorem s_fX9_addName (fu : Nat) (hfu : 1000000000000000000 ≤ fu) (x1 : Int32) (S : St) (I_S : Inv S) : Sf (fX9_addName fu x1 S) (fun U r => Inv U ∧ Fr [(19, 2), (19, 3), (20, 0), (21, 0)] S U ∧ (True)) := by
  unfold fX9_addName
  have F_S : Fr [(19, 2), (19, 3), (20, 0), (21, 0)] S S := Fr.refl _ _
  have h1 := i32 x1
  have h2 := b_3_3 I_S
  refine Sf.bp (s_fX3_has fu hfu x1 S I_S) (fun r_5 p_r_5 => ?_)
  have h3 := i32 r_5
  refine Sf.i (fun c_h4 => ?_) (fun c_h4 => ?_)
  · have h5 := eq_iv rfl li_0 c_h4
    unfold fX9_addName_16
    have h6 : ((0 : Int32)).toInt = 0 := li_0
    refine Sf.mono (s_fX9_addName_19 fu hfu fu (0 : Int32) (0 : Int32) S I_S (by omega) (by omega) (by omega) (by omega)) (fun U r p_h7 => ?_)
    obtain ⟨I_U, G_U, p_h7⟩ := p_h7
    have h8 := ti_eq (G_U 3 3 rfl)
    exact ⟨I_U, Fr.tr F_S G_U rfl, trivial⟩
  · have h9 := neq_iv rfl li_0 c_h4
    unfold fX9_addName_16
    have h10 : ((0 : Int32)).toInt = 0 := li_0
    refine Sf.mono (s_fX9_addName_19 fu hfu fu x1 (0 : Int32) S I_S (by omega) (by omega) (by omega) (by omega)) (fun U r p_h11 => ?_)
    obtain ⟨I_U, G_U, p_h11⟩ := p_h11
    have h12 := ti_eq (G_U 3 3 rfl)
    exact ⟨I_U, Fr.tr F_S G_U rfl, trivial⟩
theorem s_fX9_begin (fu : Nat) (hfu : 1000000000000000000 ≤ fu) (x1 : Int32) (x2 : Int32) (x3 : Int32) (S : St) (I_S : Inv S) : Sf (fX9_begin fu x1 x2 x3 S) (fun U r => Inv U ∧ Fr [(19, 2), (19, 3), (20, 0), (21, 0), (22, 0)] S U ∧ (True)) := by
  unfold fX9_begin
  have F_S : Fr [(19, 2), (19, 3), (20, 0), (21, 0), (22, 0)] S S := Fr.refl _ _
  refine Sf.b (s_fX0_clear_19 fu hfu S I_S) (fun S_4 r_4_ p_r_4_ => ?_)
  obtain ⟨I_S_4, G_S_4, p_r_4_⟩ := p_r_4_
  have F_S_4 := Fr.tr F_S G_S_4 rfl
  have h1 : ((0 : Int32)).toInt = 0 := li_0
  refine Sf.b (s_fJ7_fill_53178_21_300 fu hfu (0 : Int32) S_4 I_S_4) (fun S_12 r_12_ p_r_12_ => ?_)
  obtain ⟨I_S_12, G_S_12, p_r_12_⟩ := p_r_12_
  have F_S_12 := Fr.tr F_S_4 G_S_12 rfl
  refine Sf.b (s_fJ7_fill_53178_22_3 fu hfu (0 : Int32) S_12 I_S_12) (fun S_20 r_20_ p_r_20_ => ?_)
  obtain ⟨I_S_20, G_S_20, p_r_20_⟩ := p_r_20_
  have F_S_20 := Fr.tr F_S_12 G_S_20 rfl
  have h2 := i32 x1
  refine Sf.b (s_fX0_addTwo_19 fu hfu x1 S_20 I_S_20) (fun S_28 r_28_ p_r_28_ => ?_)
  obtain ⟨I_S_28, G_S_28, p_r_28_⟩ := p_r_28_
  have F_S_28 := Fr.tr F_S_20 G_S_28 rfl
  have h3 : ((32768 : Int32)).toInt = 32768 := li_32768
  refine Sf.b (s_fX0_addTwo_19 fu hfu (32768 : Int32) S_28 I_S_28) (fun S_37 r_37_ p_r_37_ => ?_)
  obtain ⟨I_S_37, G_S_37, p_r_37_⟩ := p_r_37_
  have F_S_37 := Fr.tr F_S_28 G_S_37 rfl
  have h4 : ((1 : Int32)).toInt = 1 := li_1
  refine Sf.b (s_fX0_addTwo_19 fu hfu (1 : Int32) S_37 I_S_37) (fun S_45 r_45_ p_r_45_ => ?_)
  obtain ⟨I_S_45, G_S_45, p_r_45_⟩ := p_r_45_
  have F_S_45 := Fr.tr F_S_37 G_S_45 rfl
  refine Sf.b (s_fX0_addTwo_19 fu hfu (0 : Int32) S_45 I_S_45) (fun S_53 r_53_ p_r_53_ => ?_)
  obtain ⟨I_S_53, G_S_53, p_r_53_⟩ := p_r_53_
  have F_S_53 := Fr.tr F_S_45 G_S_53 rfl
  refine Sf.b (s_fX0_addFour_19 fu hfu (0 : Int32) S_53 I_S_53) (fun S_61 r_61_ p_r_61_ => ?_)
  obtain ⟨I_S_61, G_S_61, p_r_61_⟩ := p_r_61_
  have F_S_61 := Fr.tr F_S_53 G_S_61 rfl
  have h5 := i32 x2
  refine Sf.b (s_fX9_addName fu hfu x2 S_61 I_S_61) (fun S_66 r_66_ p_r_66_ => ?_)
  obtain ⟨I_S_66, G_S_66, p_r_66_⟩ := p_r_66_
  have F_S_66 := Fr.tr F_S_61 G_S_66 rfl
  have h6 := i32 x3
  refine Sf.b (s_fX0_addTwo_19 fu hfu x3 S_66 I_S_66) (fun S_74 r_74_ p_r_74_ => ?_)
  obtain ⟨I_S_74, G_S_74, p_r_74_⟩ := p_r_74_
  have F_S_74 := Fr.tr F_S_66 G_S_74 rfl
  refine Sf.b (s_fX0_addTwo_19 fu hfu (1 : Int32) S_74 I_S_74) (fun S_82 r_82_ p_r_82_ => ?_)
  obtain ⟨I_S_82, G_S_82, p_r_82_⟩ := p_r_82_
  have F_S_82 := Fr.tr F_S_74 G_S_82 rfl
  exact Sf.so ⟨I_S_82, F_S_82, trivial⟩
theorem s_fX10_owns_3 (fu : Nat) (hfu : 1000000000000000000 ≤ fu) : ∀ (n : Nat) (x1 : Int32) (x2 : Int32) (x3 : Int32) (x4 : Int32) (S : St), Inv S → (0 ≤ (x4).toInt) → (150 - (x4).toInt).toNat < n → Sp (fX10_owns_3 fu n x1 x2 x3 x4 S) S (fun r => (0 ≤ r.toInt) ∧ (r.toInt ≤ 1)) := by
  intro n
  induction n with
  | zero => intro x1 x2 x3 x4 S I_S g0 hm; exact absurd hm (Nat.not_lt_zero _)
  | succ n ih =>
    intro x1 x2 x3 x4 S I_S g0 hm
    rw [fX10_owns_3_s]
    have h1 := b_10_9 I_S
    have h2 := i32 x4
    refine Sp.i (fun c_h3 => ?_) (fun c_h3 => ?_)
    · have h4 := le_iv rfl rfl c_h3
      have h5 : ((0 : Int32)).toInt = 0 := li_0
      exact Sp.so (by omega)
    · have h6 := nle_iv rfl rfl c_h3
      have h7 := i32 x1
      have h8 := i32 x2
      have h9 := i32 x3
      refine Sp.b (s_fX10_isOf fu hfu x4 x1 x2 x3 S I_S (by omega) (by omega)) (fun r_18 p_r_18 => ?_)
      have h10 := i32 r_18
      refine Sp.i (fun c_h11 => ?_) (fun c_h11 => ?_)
      · have h12 := eq_iv rfl li_0 c_h11
        try have h13 : ((x4 + (1 : Int32))).toInt = (x4).toInt + (1) := add_iv rfl li_1 (by omega) (by omega)
        refine Sp.mono (ih x1 x2 x3 (x4 + (1 : Int32)) S I_S (by omega) (by omega)) (fun r p_h14 => ?_)
        exact by omega
      · have h15 := neq_iv rfl li_0 c_h11
        have h16 : ((1 : Int32)).toInt = 1 := li_1
        exact Sp.so (by omega)
theorem s_fX10_owns (fu : Nat) (hfu : 1000000000000000000 ≤ fu) (x1 : Int32) (x2 : Int32) (x3 : Int32) (S : St) (I_S : Inv S) : Sp (fX10_owns fu x1 x2 x3 S) S (fun r => (0 ≤ r.toInt) ∧ (r.toInt ≤ 1)) := by
  unfold fX10_owns
  have h1 := i32 x1
  have h2 := i32 x2
  have h3 := i32 x3
  have h4 : ((0 : Int32)).toInt = 0 := li_0
  refine Sp.mono (s_fX10_owns_3 fu hfu fu x1 x2 x3 (0 : Int32) S I_S (by omega) (by omega)) (fun r p_h5 => ?_)
  exact by omega
theorem s_fX10_highestCut_8 (fu : Nat) (hfu : 1000000000000000000 ≤ fu) : ∀ (n : Nat) (x1 : Int32) (x3 : Int32) (x4 : Int32) (x5 : Int32) (S : St), Inv S → (0 ≤ (x5).toInt) → (6 - (x5).toInt).toNat < n → Sp (fX10_highestCut_8 fu n x1 x3 x4 x5 S) S (fun r => True) := by
  intro n
  induction n with
  | zero => intro x1 x3 x4 x5 S I_S g0 hm; exact absurd hm (Nat.not_lt_zero _)
  | succ n ih =>
    intro x1 x3 x4 x5 S I_S g0 hm
    rw [fX10_highestCut_8_s]
    have h1 := i32 x5
    refine Sp.i (fun c_h2 => ?_) (fun c_h2 => ?_)
    · have h3 := le_iv li_6 rfl c_h2
      exact Sp.so trivial
    · have h4 := nle_iv li_6 rfl c_h2
      have h5 := i32 x1
      refine Sp.b (s_fX10_apexOf fu hfu x1 S I_S) (fun r_19 p_r_19 => ?_)
      have h6 := i32 x4
      have h7 := i32 r_19
      refine Sp.i (fun c_h8 => ?_) (fun c_h8 => ?_)
      · have h9 := eq_iv rfl rfl c_h8
        exact Sp.so trivial
      · have h10 := neq_iv rfl rfl c_h8
        have h11 : ((2 : Int32)).toInt = 2 := li_2
        refine Sp.b (s_fX10_owns fu hfu x1 x4 (2 : Int32) S I_S) (fun r_30 p_r_30 => ?_)
        have h12 := i32 r_30
        refine Sp.i (fun c_h13 => ?_) (fun c_h13 => ?_)
        · have h14 := eq_iv rfl li_0 c_h13
          unfold fX10_highestCut_39
          refine Sp.b (s_fX3_above fu hfu x4 S I_S) (fun r_45 p_r_45 => ?_)
          have h15 := i32 x3
          have h16 := i32 r_45
          try have h17 : ((x5 + (1 : Int32))).toInt = (x5).toInt + (1) := add_iv rfl li_1 (by omega) (by omega)
          refine Sp.mono (ih x1 x3 r_45 (x5 + (1 : Int32)) S I_S (by omega) (by omega)) (fun r p_h18 => ?_)
          exact trivial
        · have h19 := neq_iv rfl li_0 c_h13
          unfold fX10_highestCut_39
          refine Sp.b (s_fX3_above fu hfu x4 S I_S) (fun r_45 p_r_45 => ?_)
          have h20 := i32 r_45
          try have h21 : ((x5 + (1 : Int32))).toInt = (x5).toInt + (1) := add_iv rfl li_1 (by omega) (by omega)
          refine Sp.mono (ih x1 x4 r_45 (x5 + (1 : Int32)) S I_S (by omega) (by omega)) (fun r p_h22 => ?_)
          exact trivial
theorem s_fX10_highestCut (fu : Nat) (hfu : 1000000000000000000 ≤ fu) (x1 : Int32) (x2 : Int32) (S : St) (I_S : Inv S) : Sp (fX10_highestCut fu x1 x2 S) S (fun r => True) := by
  unfold fX10_highestCut
  have h1 := i32 x1
  have h2 : ((-1 : Int32)).toInt = -1 := li_m1
  have h3 := i32 x2
  have h4 : ((0 : Int32)).toInt = 0 := li_0
  refine Sp.mono (s_fX10_highestCut_8 fu hfu fu x1 (-1 : Int32) x2 (0 : Int32) S I_S (by omega) (by omega)) (fun r p_h5 => ?_)
  exact trivial
theorem s_fX9_openRecord (fu : Nat) (hfu : 1000000000000000000 ≤ fu) (x1 : Int32) (x2 : Int32) (x3 : Int32) (x4 : Int32) (S : St) (I_S : Inv S) : Sf (fX9_openRecord fu x1 x2 x3 x4 S) (fun U r => Inv U ∧ Fr [(19, 2), (19, 3), (20, 0), (21, 0), (22, 0)] S U ∧ (True)) := by
  unfold fX9_openRecord
  have F_S : Fr [(19, 2), (19, 3), (20, 0), (21, 0), (22, 0)] S S := Fr.refl _ _
  have h1 := i32 x1
  refine Sf.i (fun c_h2 => ?_) (fun c_h2 => ?_)
  · have h3 := lt_iv rfl li_0 c_h2
    unfold fX9_openRecord_19
    have h4 := i32 x2
    refine Sf.b (s_fX9_addName fu hfu x2 S I_S) (fun S_21 r_21_ p_r_21_ => ?_)
    obtain ⟨I_S_21, G_S_21, p_r_21_⟩ := p_r_21_
    have F_S_21 := Fr.tr F_S G_S_21 rfl
    have h5 := i32 x3
    refine Sf.b (s_fX0_addTwo_19 fu hfu x3 S_21 I_S_21) (fun S_29 r_29_ p_r_29_ => ?_)
    obtain ⟨I_S_29, G_S_29, p_r_29_⟩ := p_r_29_
    have F_S_29 := Fr.tr F_S_21 G_S_29 rfl
    have h6 : ((1 : Int32)).toInt = 1 := li_1
    refine Sf.b (s_fX0_addTwo_19 fu hfu (1 : Int32) S_29 I_S_29) (fun S_37 r_37_ p_r_37_ => ?_)
    obtain ⟨I_S_37, G_S_37, p_r_37_⟩ := p_r_37_
    have F_S_37 := Fr.tr F_S_29 G_S_37 rfl
    have h7 := i32 x4
    refine Sf.b (s_fX0_addFour_19 fu hfu x4 S_37 I_S_37) (fun S_46 r_46_ p_r_46_ => ?_)
    obtain ⟨I_S_46, G_S_46, p_r_46_⟩ := p_r_46_
    have F_S_46 := Fr.tr F_S_37 G_S_46 rfl
    have h8 := b_19_1 I_S_46
    refine Sf.bp (s_fX0_size_19 fu hfu S_46 I_S_46) (fun r_53 p_r_53 => ?_)
    have h9 : ((0 : Int32)).toInt = 0 := li_0
    refine Sf.b (s_fX0_addTwo_19 fu hfu (0 : Int32) S_46 I_S_46) (fun S_63 r_63_ p_r_63_ => ?_)
    obtain ⟨I_S_63, G_S_63, p_r_63_⟩ := p_r_63_
    have F_S_63 := Fr.tr F_S_46 G_S_63 rfl
    exact Sf.so ⟨I_S_63, F_S_63, trivial⟩
  · have h10 := nlt_iv rfl li_0 c_h2
    refine Sf.i (fun c_h11 => ?_) (fun c_h11 => ?_)
    · have h12 := le_iv li_3 rfl c_h11
      unfold fX9_openRecord_19
      have h13 := i32 x2
      refine Sf.b (s_fX9_addName fu hfu x2 S I_S) (fun S_21 r_21_ p_r_21_ => ?_)
      obtain ⟨I_S_21, G_S_21, p_r_21_⟩ := p_r_21_
      have F_S_21 := Fr.tr F_S G_S_21 rfl
      have h14 := i32 x3
      refine Sf.b (s_fX0_addTwo_19 fu hfu x3 S_21 I_S_21) (fun S_29 r_29_ p_r_29_ => ?_)
      obtain ⟨I_S_29, G_S_29, p_r_29_⟩ := p_r_29_
      have F_S_29 := Fr.tr F_S_21 G_S_29 rfl
      have h15 : ((1 : Int32)).toInt = 1 := li_1
      refine Sf.b (s_fX0_addTwo_19 fu hfu (1 : Int32) S_29 I_S_29) (fun S_37 r_37_ p_r_37_ => ?_)
      obtain ⟨I_S_37, G_S_37, p_r_37_⟩ := p_r_37_
      have F_S_37 := Fr.tr F_S_29 G_S_37 rfl
      have h16 := i32 x4
      refine Sf.b (s_fX0_addFour_19 fu hfu x4 S_37 I_S_37) (fun S_46 r_46_ p_r_46_ => ?_)
      obtain ⟨I_S_46, G_S_46, p_r_46_⟩ := p_r_46_
      have F_S_46 := Fr.tr F_S_37 G_S_46 rfl
      have h17 := b_19_1 I_S_46
      refine Sf.bp (s_fX0_size_19 fu hfu S_46 I_S_46) (fun r_53 p_r_53 => ?_)
      have h18 : ((0 : Int32)).toInt = 0 := li_0
      refine Sf.b (s_fX0_addTwo_19 fu hfu (0 : Int32) S_46 I_S_46) (fun S_63 r_63_ p_r_63_ => ?_)
      obtain ⟨I_S_63, G_S_63, p_r_63_⟩ := p_r_63_
      have F_S_63 := Fr.tr F_S_46 G_S_63 rfl
      exact Sf.so ⟨I_S_63, F_S_63, trivial⟩
    · have h19 := nle_iv li_3 rfl c_h11
      refine Sf.g (ck_iv (by omega) (by omega)) ?_
      refine Sf.g (ck_iv (by omega) (by omega)) ?_
      try have h20 : (((S.1 22 ((x1).toNatClampNeg)) + (1 : Int32))).toInt = ((S.1 22 ((x1).toNatClampNeg))).toInt + (1) := add_iv rfl li_1 (by omega) (by omega)
      refine Sf.w I_S F_S rfl (i32 _).1 (i32 _).2 (fun S_18 I_S_18 F_S_18 v_S_18 f_S_18 l_S_18 => ?_)
      have h21 := ti_eq (f_S_18 19 1 (fun e => absurd e (by decide)))
      have h22 : (S_18.1 22 ((x1).toNatClampNeg)).toInt = (((S.1 22 ((x1).toNatClampNeg)) + (1 : Int32))).toInt := eq_iv rfl rfl v_S_18
      unfold fX9_openRecord_19
      have h23 := i32 x2
      refine Sf.b (s_fX9_addName fu hfu x2 S_18 I_S_18) (fun S_21 r_21_ p_r_21_ => ?_)
      obtain ⟨I_S_21, G_S_21, p_r_21_⟩ := p_r_21_
      have F_S_21 := Fr.tr F_S_18 G_S_21 rfl
      have h24 : (S_21.1 22 ((x1).toNatClampNeg)).toInt = (S_18.1 22 ((x1).toNatClampNeg)).toInt := ti_eq (G_S_21 22 ((x1).toNatClampNeg) rfl)
      have h25 := i32 x3
      refine Sf.b (s_fX0_addTwo_19 fu hfu x3 S_21 I_S_21) (fun S_29 r_29_ p_r_29_ => ?_)
      obtain ⟨I_S_29, G_S_29, p_r_29_⟩ := p_r_29_
      have F_S_29 := Fr.tr F_S_21 G_S_29 rfl
      have h26 : (S_29.1 22 ((x1).toNatClampNeg)).toInt = (S_21.1 22 ((x1).toNatClampNeg)).toInt := ti_eq (G_S_29 22 ((x1).toNatClampNeg) rfl)
      have h27 : ((1 : Int32)).toInt = 1 := li_1
      refine Sf.b (s_fX0_addTwo_19 fu hfu (1 : Int32) S_29 I_S_29) (fun S_37 r_37_ p_r_37_ => ?_)
      obtain ⟨I_S_37, G_S_37, p_r_37_⟩ := p_r_37_
      have F_S_37 := Fr.tr F_S_29 G_S_37 rfl
      have h28 : (S_37.1 22 ((x1).toNatClampNeg)).toInt = (S_29.1 22 ((x1).toNatClampNeg)).toInt := ti_eq (G_S_37 22 ((x1).toNatClampNeg) rfl)
      have h29 := i32 x4
      refine Sf.b (s_fX0_addFour_19 fu hfu x4 S_37 I_S_37) (fun S_46 r_46_ p_r_46_ => ?_)
      obtain ⟨I_S_46, G_S_46, p_r_46_⟩ := p_r_46_
      have F_S_46 := Fr.tr F_S_37 G_S_46 rfl
      have h30 : (S_46.1 22 ((x1).toNatClampNeg)).toInt = (S_37.1 22 ((x1).toNatClampNeg)).toInt := ti_eq (G_S_46 22 ((x1).toNatClampNeg) rfl)
      have h31 := b_19_1 I_S_46
      refine Sf.bp (s_fX0_size_19 fu hfu S_46 I_S_46) (fun r_53 p_r_53 => ?_)
      have h32 : ((0 : Int32)).toInt = 0 := li_0
      refine Sf.b (s_fX0_addTwo_19 fu hfu (0 : Int32) S_46 I_S_46) (fun S_63 r_63_ p_r_63_ => ?_)
      obtain ⟨I_S_63, G_S_63, p_r_63_⟩ := p_r_63_
      have F_S_63 := Fr.tr F_S_46 G_S_63 rfl
      have h33 : (S_63.1 22 ((x1).toNatClampNeg)).toInt = (S_46.1 22 ((x1).toNatClampNeg)).toInt := ti_eq (G_S_63 22 ((x1).toNatClampNeg) rfl)
      exact Sf.so ⟨I_S_63, F_S_63, trivial⟩
theorem s_fX0_set_19 (fu : Nat) (hfu : 1000000000000000000 ≤ fu) (x1 : Int32) (x2 : Int32) (S : St) (I_S : Inv S) : Sf (fX0_set fu 19 x1 x2 S) (fun U r => Inv U ∧ Fr [(20, 0)] S U ∧ ((0 ≤ r.toInt) ∧ (r.toInt ≤ 1))) := by
  unfold fX0_set
  try simp only [Nat.reduceAdd]
  have F_S : Fr [(20, 0)] S S := Fr.refl _ _
  have h1 := i32 x1
  refine Sf.i (fun c_h2 => ?_) (fun c_h2 => ?_)
  · have h3 := lt_iv rfl li_0 c_h2
    have h4 : ((0 : Int32)).toInt = 0 := li_0
    exact Sf.so ⟨I_S, F_S, by omega⟩
  · have h5 := nlt_iv rfl li_0 c_h2
    have h6 := b_19_1 I_S
    refine Sf.i (fun c_h7 => ?_) (fun c_h7 => ?_)
    · have h8 := lt_iv rfl rfl c_h7
      refine Sf.g (ck_iv (by omega) (by omega)) ?_
      have h9 := vpy ((x2).toInt8.toInt32)
      refine Sf.w I_S F_S rfl (show ((-128) : Int) ≤ ((vp_nar .byte ((x2).toInt8.toInt32))).toInt by omega) (show ((vp_nar .byte ((x2).toInt8.toInt32))).toInt ≤ (127 : Int) by omega) (fun S_21 I_S_21 F_S_21 v_S_21 f_S_21 l_S_21 => ?_)
      have h10 := ti_eq (f_S_21 19 1 (fun e => absurd e (by decide)))
      have h11 : (S_21.1 20 ((x1).toNatClampNeg)).toInt = ((vp_nar .byte ((x2).toInt8.toInt32))).toInt := eq_iv rfl rfl v_S_21
      have h12 : ((1 : Int32)).toInt = 1 := li_1
      exact Sf.so ⟨I_S_21, F_S_21, by omega⟩
    · have h13 := nlt_iv rfl rfl c_h7
      have h14 : ((0 : Int32)).toInt = 0 := li_0
      exact Sf.so ⟨I_S, F_S, by omega⟩
theorem s_fX0_setTwo_19 (fu : Nat) (hfu : 1000000000000000000 ≤ fu) (x1 : Int32) (x2 : Int32) (S : St) (I_S : Inv S) : Sf (fX0_setTwo fu 19 x1 x2 S) (fun U r => Inv U ∧ Fr [(20, 0)] S U ∧ (True)) := by
  unfold fX0_setTwo
  try simp only [Nat.reduceAdd]
  have F_S : Fr [(20, 0)] S S := Fr.refl _ _
  have h1 := i32 x1
  have h2 := i32 x2
  have h3 := and_31 ((8 : Int32))
  refine Sf.b (s_fX0_set_19 fu hfu x1 (x2 >>> ((8 : Int32) &&& 31)) S I_S) (fun S_6 r_6 p_r_6 => ?_)
  obtain ⟨I_S_6, G_S_6, p_r_6⟩ := p_r_6
  have F_S_6 := Fr.tr F_S G_S_6 rfl
  try have h4 : ((x1 + (1 : Int32))).toInt = (x1).toInt + (1) := add_iv rfl li_1 (by omega) (by omega)
  refine Sf.b (s_fX0_set_19 fu hfu (x1 + (1 : Int32)) x2 S_6 I_S_6) (fun S_15 r_15 p_r_15 => ?_)
  obtain ⟨I_S_15, G_S_15, p_r_15⟩ := p_r_15
  have F_S_15 := Fr.tr F_S_6 G_S_15 rfl
  exact Sf.so ⟨I_S_15, F_S_15, trivial⟩
theorem s_fX9_closeRecord (fu : Nat) (hfu : 1000000000000000000 ≤ fu) (x1 : Int32) (S : St) (I_S : Inv S) : Sf (fX9_closeRecord fu x1 S) (fun U r => Inv U ∧ Fr [(20, 0)] S U ∧ (True)) := by
  unfold fX9_closeRecord
  have F_S : Fr [(20, 0)] S S := Fr.refl _ _
  have h1 := b_19_1 I_S
  refine Sf.bp (s_fX0_size_19 fu hfu S I_S) (fun r_9 p_r_9 => ?_)
  have h2 := i32 x1
  have h3 := i32 r_9
  try have h4 : ((r_9 - x1)).toInt = (r_9).toInt - (x1).toInt := sub_iv rfl rfl (by omega) (by omega)
  try have h5 : (((r_9 - x1) - (2 : Int32))).toInt = ((r_9 - x1)).toInt - (2) := sub_iv rfl li_2 (by omega) (by omega)
  refine Sf.b (s_fX0_setTwo_19 fu hfu x1 ((r_9 - x1) - (2 : Int32)) S I_S) (fun S_16 r_16_ p_r_16_ => ?_)
  obtain ⟨I_S_16, G_S_16, p_r_16_⟩ := p_r_16_
  have F_S_16 := Fr.tr F_S G_S_16 rfl
  have h6 := ti_eq (G_S_16 19 1 rfl)
  exact Sf.so ⟨I_S_16, F_S_16, trivial⟩
theorem s_fX9_addRecord (fu : Nat) (hfu : 1000000000000000000 ≤ fu) (x1 : Int32) (x2 : Int32) (x3 : Int32) (x4 : Int32) (x5 : Int32) (S : St) (I_S : Inv S) : Sf (fX9_addRecord fu x1 x2 x3 x4 x5 S) (fun U r => Inv U ∧ Fr [(19, 2), (19, 3), (20, 0), (21, 0), (22, 0)] S U ∧ (True)) := by
  unfold fX9_addRecord
  have F_S : Fr [(19, 2), (19, 3), (20, 0), (21, 0), (22, 0)] S S := Fr.refl _ _
  have h1 := i32 x1
  have h2 := i32 x2
  have h3 := i32 x3
  have h4 := i32 x5
  refine Sf.b (s_fX9_openRecord fu hfu x1 x2 x3 x5 S I_S) (fun S_6 r_6 p_r_6 => ?_)
  obtain ⟨I_S_6, G_S_6, p_r_6⟩ := p_r_6
  have F_S_6 := Fr.tr F_S G_S_6 rfl
  refine Sf.bp (s_fX11_isNamed fu hfu x3 S_6 I_S_6) (fun r_12 p_r_12 => ?_)
  have h5 := i32 r_12
  refine Sf.i (fun c_h6 => ?_) (fun c_h6 => ?_)
  · have h7 := eq_iv rfl li_0 c_h6
    refine Sf.i (fun c_h8 => ?_) (fun c_h8 => ?_)
    · have h9 := eq_iv rfl li_16 c_h8
      have h10 : ((4 : Int32)).toInt = 4 := li_4
      refine Sf.b (s_fX0_add_19 fu hfu (4 : Int32) S_6 I_S_6) (fun S_38 r_38_ p_r_38_ => ?_)
      obtain ⟨I_S_38, G_S_38, p_r_38_⟩ := p_r_38_
      have F_S_38 := Fr.tr F_S_6 G_S_38 rfl
      unfold fX9_addRecord_41
      have h11 := i32 x4
      refine Sf.b (s_fX0_addFour_19 fu hfu x4 S_38 I_S_38) (fun S_47 r_47_ p_r_47_ => ?_)
      obtain ⟨I_S_47, G_S_47, p_r_47_⟩ := p_r_47_
      have F_S_47 := Fr.tr F_S_38 G_S_47 rfl
      unfold fX9_addRecord_50
      have h12 := i32 r_6
      refine Sf.b (s_fX9_closeRecord fu hfu r_6 S_47 I_S_47) (fun S_53 r_53_ p_r_53_ => ?_)
      obtain ⟨I_S_53, G_S_53, p_r_53_⟩ := p_r_53_
      have F_S_53 := Fr.tr F_S_47 G_S_53 rfl
      exact Sf.so ⟨I_S_53, F_S_53, trivial⟩
    · have h13 := neq_iv rfl li_16 c_h8
      unfold fX9_addRecord_41
      have h14 := i32 x4
      refine Sf.b (s_fX0_addFour_19 fu hfu x4 S_6 I_S_6) (fun S_47 r_47_ p_r_47_ => ?_)
      obtain ⟨I_S_47, G_S_47, p_r_47_⟩ := p_r_47_
      have F_S_47 := Fr.tr F_S_6 G_S_47 rfl
      unfold fX9_addRecord_50
      have h15 := i32 r_6
      refine Sf.b (s_fX9_closeRecord fu hfu r_6 S_47 I_S_47) (fun S_53 r_53_ p_r_53_ => ?_)
      obtain ⟨I_S_53, G_S_53, p_r_53_⟩ := p_r_53_
      have F_S_53 := Fr.tr F_S_47 G_S_53 rfl
      exact Sf.so ⟨I_S_53, F_S_53, trivial⟩
  · have h16 := neq_iv rfl li_0 c_h6
    have h17 := i32 x4
    refine Sf.b (s_fX9_addName fu hfu x4 S_6 I_S_6) (fun S_21 r_21_ p_r_21_ => ?_)
    obtain ⟨I_S_21, G_S_21, p_r_21_⟩ := p_r_21_
    have F_S_21 := Fr.tr F_S_6 G_S_21 rfl
    unfold fX9_addRecord_50
    have h18 := i32 r_6
    refine Sf.b (s_fX9_closeRecord fu hfu r_6 S_21 I_S_21) (fun S_53 r_53_ p_r_53_ => ?_)
    obtain ⟨I_S_53, G_S_53, p_r_53_⟩ := p_r_53_
    have F_S_53 := Fr.tr F_S_21 G_S_53 rfl
    exact Sf.so ⟨I_S_53, F_S_53, trivial⟩
theorem s_fX10_tellAll_6 (fu : Nat) (hfu : 1000000000000000000 ≤ fu) : ∀ (n : Nat) (x1 : Int32) (x2 : Int32) (x3 : Int32) (x4 : Int32) (x5 : Int32) (x7 : Int32) (x8 : Int32) (S : St), Inv S → (0 ≤ (x8).toInt) → (150 - (x8).toInt).toNat < n → Sf (fX10_tellAll_6 fu n x1 x2 x3 x4 x5 x7 x8 S) (fun U r => Inv U ∧ Fr [(19, 2), (19, 3), (20, 0), (21, 0), (22, 0)] S U ∧ (True)) := by
  intro n
  induction n with
  | zero => intro x1 x2 x3 x4 x5 x7 x8 S I_S g0 hm; exact absurd hm (Nat.not_lt_zero _)
  | succ n ih =>
    intro x1 x2 x3 x4 x5 x7 x8 S I_S g0 hm
    rw [fX10_tellAll_6_s]
    have F_S : Fr [(19, 2), (19, 3), (20, 0), (21, 0), (22, 0)] S S := Fr.refl _ _
    have h1 := b_10_9 I_S
    have h2 := i32 x8
    refine Sf.i (fun c_h3 => ?_) (fun c_h3 => ?_)
    · have h4 := le_iv rfl rfl c_h3
      exact Sf.so ⟨I_S, F_S, trivial⟩
    · have h5 := nle_iv rfl rfl c_h3
      have h6 := i32 x5
      have h7 := i32 x7
      refine Sf.i (fun c_h8 => ?_) (fun c_h8 => ?_)
      · have h9 := le_iv rfl rfl c_h8
        exact Sf.so ⟨I_S, F_S, trivial⟩
      · have h10 := nle_iv rfl rfl c_h8
        have h11 := i32 x1
        have h12 := i32 x2
        have h13 := i32 x3
        refine Sf.bp (s_fX10_isOf fu hfu x8 x1 x2 x3 S I_S (by omega) (by omega)) (fun r_28 p_r_28 => ?_)
        have h14 := i32 r_28
        refine Sf.i (fun c_h15 => ?_) (fun c_h15 => ?_)
        · have h16 := eq_iv rfl li_0 c_h15
          unfold fX10_tellAll_60
          have h17 := i32 x4
          try have h18 : ((x8 + (1 : Int32))).toInt = (x8).toInt + (1) := add_iv rfl li_1 (by omega) (by omega)
          refine Sf.mono (ih x1 x2 x3 x4 x5 x7 (x8 + (1 : Int32)) S I_S (by omega) (by omega)) (fun U r p_h19 => ?_)
          obtain ⟨I_U, G_U, p_h19⟩ := p_h19
          have h20 := ti_eq (G_U 10 9 rfl)
          exact ⟨I_U, Fr.tr F_S G_U rfl, trivial⟩
        · have h21 := neq_iv rfl li_0 c_h15
          refine Sf.g (ck_iv (by omega) (by omega)) ?_
          refine Sf.g (ck_iv (by omega) (by omega)) ?_
          have h22 := i32 x4
          refine Sf.b (s_fX9_addRecord fu hfu x4 x2 x3 (S.1 16 ((x8).toNatClampNeg)) (S.1 17 ((x8).toNatClampNeg)) S I_S) (fun S_54 r_54_ p_r_54_ => ?_)
          obtain ⟨I_S_54, G_S_54, p_r_54_⟩ := p_r_54_
          have F_S_54 := Fr.tr F_S G_S_54 rfl
          have h23 := ti_eq (G_S_54 10 9 rfl)
          have h24 : (S_54.1 16 ((x8).toNatClampNeg)).toInt = (S.1 16 ((x8).toNatClampNeg)).toInt := ti_eq (G_S_54 16 ((x8).toNatClampNeg) rfl)
          have h25 : (S_54.1 17 ((x8).toNatClampNeg)).toInt = (S.1 17 ((x8).toNatClampNeg)).toInt := ti_eq (G_S_54 17 ((x8).toNatClampNeg) rfl)
          unfold fX10_tellAll_60
          try have h26 : ((x7 + (1 : Int32))).toInt = (x7).toInt + (1) := add_iv rfl li_1 (by omega) (by omega)
          try have h27 : ((x8 + (1 : Int32))).toInt = (x8).toInt + (1) := add_iv rfl li_1 (by omega) (by omega)
          refine Sf.mono (ih x1 x2 x3 x4 x5 (x7 + (1 : Int32)) (x8 + (1 : Int32)) S_54 I_S_54 (by omega) (by omega)) (fun U r p_h28 => ?_)
          obtain ⟨I_U, G_U, p_h28⟩ := p_h28
          have h29 := ti_eq (G_U 10 9 rfl)
          exact ⟨I_U, Fr.tr F_S_54 G_U rfl, trivial⟩
theorem s_fX10_tellAll (fu : Nat) (hfu : 1000000000000000000 ≤ fu) (x1 : Int32) (x2 : Int32) (x3 : Int32) (x4 : Int32) (x5 : Int32) (S : St) (I_S : Inv S) : Sf (fX10_tellAll fu x1 x2 x3 x4 x5 S) (fun U r => Inv U ∧ Fr [(19, 2), (19, 3), (20, 0), (21, 0), (22, 0)] S U ∧ (True)) := by
  unfold fX10_tellAll
  have F_S : Fr [(19, 2), (19, 3), (20, 0), (21, 0), (22, 0)] S S := Fr.refl _ _
  have h1 := i32 x1
  have h2 := i32 x2
  have h3 := i32 x3
  have h4 := i32 x4
  have h5 := i32 x5
  have h6 : ((0 : Int32)).toInt = 0 := li_0
  refine Sf.mono (s_fX10_tellAll_6 fu hfu fu x1 x2 x3 x4 x5 (0 : Int32) (0 : Int32) S I_S (by omega) (by omega)) (fun U r p_h7 => ?_)
  obtain ⟨I_U, G_U, p_h7⟩ := p_h7
  have h8 := ti_eq (G_U 10 9 rfl)
  exact ⟨I_U, Fr.tr F_S G_U rfl, trivial⟩
theorem s_fX9_addSoa (fu : Nat) (hfu : 1000000000000000000 ≤ fu) (x1 : Int32) (x2 : Int32) (S : St) (I_S : Inv S) : Sf (fX9_addSoa fu x1 x2 S) (fun U r => Inv U ∧ Fr [(19, 2), (19, 3), (20, 0), (21, 0), (22, 0)] S U ∧ (True)) := by
  unfold fX9_addSoa
  have F_S : Fr [(19, 2), (19, 3), (20, 0), (21, 0), (22, 0)] S S := Fr.refl _ _
  have h1 : ((1 : Int32)).toInt = 1 := li_1
  have h2 := i32 x1
  have h3 : ((6 : Int32)).toInt = 6 := li_6
  have h4 := i32 x2
  refine Sf.b (s_fX9_openRecord fu hfu (1 : Int32) x1 (6 : Int32) x2 S I_S) (fun S_6 r_6 p_r_6 => ?_)
  obtain ⟨I_S_6, G_S_6, p_r_6⟩ := p_r_6
  have F_S_6 := Fr.tr F_S G_S_6 rfl
  have h5 : ((0 : Int32)).toInt = 0 := li_0
  refine Sf.b (s_fX9_addName fu hfu (0 : Int32) S_6 I_S_6) (fun S_12 r_12_ p_r_12_ => ?_)
  obtain ⟨I_S_12, G_S_12, p_r_12_⟩ := p_r_12_
  have F_S_12 := Fr.tr F_S_6 G_S_12 rfl
  refine Sf.b (s_fX9_addName fu hfu (0 : Int32) S_12 I_S_12) (fun S_17 r_17_ p_r_17_ => ?_)
  obtain ⟨I_S_17, G_S_17, p_r_17_⟩ := p_r_17_
  have F_S_17 := Fr.tr F_S_12 G_S_17 rfl
  refine Sf.b (s_fX0_addFour_19 fu hfu (1 : Int32) S_17 I_S_17) (fun S_25 r_25_ p_r_25_ => ?_)
  obtain ⟨I_S_25, G_S_25, p_r_25_⟩ := p_r_25_
  have F_S_25 := Fr.tr F_S_17 G_S_25 rfl
  refine Sf.b (s_fX0_addFour_19 fu hfu (0 : Int32) S_25 I_S_25) (fun S_33 r_33_ p_r_33_ => ?_)
  obtain ⟨I_S_33, G_S_33, p_r_33_⟩ := p_r_33_
  have F_S_33 := Fr.tr F_S_25 G_S_33 rfl
  refine Sf.b (s_fX0_addFour_19 fu hfu (0 : Int32) S_33 I_S_33) (fun S_41 r_41_ p_r_41_ => ?_)
  obtain ⟨I_S_41, G_S_41, p_r_41_⟩ := p_r_41_
  have F_S_41 := Fr.tr F_S_33 G_S_41 rfl
  refine Sf.b (s_fX0_addFour_19 fu hfu (0 : Int32) S_41 I_S_41) (fun S_49 r_49_ p_r_49_ => ?_)
  obtain ⟨I_S_49, G_S_49, p_r_49_⟩ := p_r_49_
  have F_S_49 := Fr.tr F_S_41 G_S_49 rfl
  refine Sf.b (s_fX0_addFour_19 fu hfu x2 S_49 I_S_49) (fun S_57 r_57_ p_r_57_ => ?_)
  obtain ⟨I_S_57, G_S_57, p_r_57_⟩ := p_r_57_
  have F_S_57 := Fr.tr F_S_49 G_S_57 rfl
  have h6 := i32 r_6
  refine Sf.b (s_fX9_closeRecord fu hfu r_6 S_57 I_S_57) (fun S_62 r_62_ p_r_62_ => ?_)
  obtain ⟨I_S_62, G_S_62, p_r_62_⟩ := p_r_62_
  have F_S_62 := Fr.tr F_S_57 G_S_62 rfl
  exact Sf.so ⟨I_S_62, F_S_62, trivial⟩
theorem s_fX10_isThere_13 (fu : Nat) (hfu : 1000000000000000000 ≤ fu) : ∀ (n : Nat) (x1 : Int32) (x2 : Int32) (x3 : Int32) (S : St), Inv S → (0 ≤ (x3).toInt) → (150 - (x3).toInt).toNat < n → Sp (fX10_isThere_13 fu n x1 x2 x3 S) S (fun r => (0 ≤ r.toInt) ∧ (r.toInt ≤ 1)) := by
  intro n
  induction n with
  | zero => intro x1 x2 x3 S I_S g0 hm; exact absurd hm (Nat.not_lt_zero _)
  | succ n ih =>
    intro x1 x2 x3 S I_S g0 hm
    rw [fX10_isThere_13_s]
    have h1 := b_10_9 I_S
    have h2 := i32 x3
    refine Sp.i (fun c_h3 => ?_) (fun c_h3 => ?_)
    · have h4 := le_iv rfl rfl c_h3
      have h5 : ((0 : Int32)).toInt = 0 := li_0
      exact Sp.so (by omega)
    · have h6 := nle_iv rfl rfl c_h3
      refine Sp.g (ck_iv (by omega) (by omega)) ?_
      have h7 := i32 x1
      refine Sp.i (fun c_h8 => ?_) (fun c_h8 => ?_)
      · have h9 := eq_iv rfl rfl c_h8
        refine Sp.g (ck_iv (by omega) (by omega)) ?_
        have h10 := i32 x2
        refine Sp.b (s_fX3_isIn fu hfu (S.1 14 ((x3).toNatClampNeg)) x2 S I_S) (fun r_42 p_r_42 => ?_)
        have h11 := i32 r_42
        refine Sp.i (fun c_h12 => ?_) (fun c_h12 => ?_)
        · have h13 := eq_iv rfl li_0 c_h12
          unfold fX10_isThere_50
          try have h14 : ((x3 + (1 : Int32))).toInt = (x3).toInt + (1) := add_iv rfl li_1 (by omega) (by omega)
          refine Sp.mono (ih x1 x2 (x3 + (1 : Int32)) S I_S (by omega) (by omega)) (fun r p_h15 => ?_)
          exact by omega
        · have h16 := neq_iv rfl li_0 c_h12
          have h17 : ((1 : Int32)).toInt = 1 := li_1
          exact Sp.so (by omega)
      · have h18 := neq_iv rfl rfl c_h8
        unfold fX10_isThere_50
        have h19 := i32 x2
        try have h20 : ((x3 + (1 : Int32))).toInt = (x3).toInt + (1) := add_iv rfl li_1 (by omega) (by omega)
        refine Sp.mono (ih x1 x2 (x3 + (1 : Int32)) S I_S (by omega) (by omega)) (fun r p_h21 => ?_)
        exact by omega
theorem s_fX10_isThere (fu : Nat) (hfu : 1000000000000000000 ≤ fu) (x1 : Int32) (x2 : Int32) (S : St) (I_S : Inv S) : Sp (fX10_isThere fu x1 x2 S) S (fun r => (0 ≤ r.toInt) ∧ (r.toInt ≤ 1)) := by
  unfold fX10_isThere
  have h1 := i32 x1
  refine Sp.b (s_fX10_apexOf fu hfu x1 S I_S) (fun r_3 p_r_3 => ?_)
  have h2 := i32 x2
  have h3 := i32 r_3
  refine Sp.i (fun c_h4 => ?_) (fun c_h4 => ?_)
  · have h5 := eq_iv rfl rfl c_h4
    have h6 : ((1 : Int32)).toInt = 1 := li_1
    exact Sp.so (by omega)
  · have h7 := neq_iv rfl rfl c_h4
    have h8 : ((0 : Int32)).toInt = 0 := li_0
    refine Sp.mono (s_fX10_isThere_13 fu hfu fu x1 x2 (0 : Int32) S I_S (by omega) (by omega)) (fun r p_h9 => ?_)
    exact by omega
theorem s_fX0_isTooLong_19 (fu : Nat) (hfu : 1000000000000000000 ≤ fu) (S : St) (I_S : Inv S) : Sp (fX0_isTooLong fu 19 S) S (fun r => (0 ≤ r.toInt) ∧ (r.toInt ≤ 1)) := by
  unfold fX0_isTooLong
  try simp only [Nat.reduceAdd]
  have h1 := b_19_2 I_S
  refine Sp.g (isB_iv (by omega) (by omega)) ?_
  exact Sp.so (by omega)
theorem s_fX9_finish (fu : Nat) (hfu : 1000000000000000000 ≤ fu) (x1 : Int32) (S : St) (I_S : Inv S) : Sf (fX9_finish fu x1 S) (fun U r => Inv U ∧ Fr [(20, 0)] S U ∧ ((0 ≤ r.toInt) ∧ (r.toInt ≤ 1))) := by
  unfold fX9_finish
  have F_S : Fr [(20, 0)] S S := Fr.refl _ _
  refine Sf.bp (s_fX0_isTooLong_19 fu hfu S I_S) (fun r_4 p_r_4 => ?_)
  have h1 := i32 r_4
  refine Sf.i (fun c_h2 => ?_) (fun c_h2 => ?_)
  · have h3 := eq_iv rfl li_0 c_h2
    have h4 : ((2 : Int32)).toInt = 2 := li_2
    have h5 := i32 x1
    try have h6 : (((32768 : Int32) + x1)).toInt = (32768) + (x1).toInt := add_iv li_32768 rfl (by omega) (by omega)
    refine Sf.b (s_fX0_setTwo_19 fu hfu (2 : Int32) ((32768 : Int32) + x1) S I_S) (fun S_21 r_21_ p_r_21_ => ?_)
    obtain ⟨I_S_21, G_S_21, p_r_21_⟩ := p_r_21_
    have F_S_21 := Fr.tr F_S G_S_21 rfl
    refine Sf.g (by decide) ?_
    have h7 : ((6 : Int32)).toInt = 6 := li_6
    refine Sf.b (s_fX0_setTwo_19 fu hfu (6 : Int32) (S_21.1 22 (((0 : Int32)).toNatClampNeg)) S_21 I_S_21) (fun S_36 r_36_ p_r_36_ => ?_)
    obtain ⟨I_S_36, G_S_36, p_r_36_⟩ := p_r_36_
    have F_S_36 := Fr.tr F_S_21 G_S_36 rfl
    have h8 : (S_36.1 22 (((0 : Int32)).toNatClampNeg)).toInt = (S_21.1 22 (((0 : Int32)).toNatClampNeg)).toInt := ti_eq (G_S_36 22 (((0 : Int32)).toNatClampNeg) rfl)
    refine Sf.g (by decide) ?_
    have h9 : ((8 : Int32)).toInt = 8 := li_8
    refine Sf.b (s_fX0_setTwo_19 fu hfu (8 : Int32) (S_36.1 22 (((1 : Int32)).toNatClampNeg)) S_36 I_S_36) (fun S_51 r_51_ p_r_51_ => ?_)
    obtain ⟨I_S_51, G_S_51, p_r_51_⟩ := p_r_51_
    have F_S_51 := Fr.tr F_S_36 G_S_51 rfl
    have h10 : (S_51.1 22 (((0 : Int32)).toNatClampNeg)).toInt = (S_36.1 22 (((0 : Int32)).toNatClampNeg)).toInt := ti_eq (G_S_51 22 (((0 : Int32)).toNatClampNeg) rfl)
    have h11 : (S_51.1 22 (((1 : Int32)).toNatClampNeg)).toInt = (S_36.1 22 (((1 : Int32)).toNatClampNeg)).toInt := ti_eq (G_S_51 22 (((1 : Int32)).toNatClampNeg) rfl)
    refine Sf.g (by decide) ?_
    have h12 : ((10 : Int32)).toInt = 10 := li_10
    refine Sf.b (s_fX0_setTwo_19 fu hfu (10 : Int32) (S_51.1 22 (((2 : Int32)).toNatClampNeg)) S_51 I_S_51) (fun S_66 r_66_ p_r_66_ => ?_)
    obtain ⟨I_S_66, G_S_66, p_r_66_⟩ := p_r_66_
    have F_S_66 := Fr.tr F_S_51 G_S_66 rfl
    have h13 : (S_66.1 22 (((0 : Int32)).toNatClampNeg)).toInt = (S_51.1 22 (((0 : Int32)).toNatClampNeg)).toInt := ti_eq (G_S_66 22 (((0 : Int32)).toNatClampNeg) rfl)
    have h14 : (S_66.1 22 (((1 : Int32)).toNatClampNeg)).toInt = (S_51.1 22 (((1 : Int32)).toNatClampNeg)).toInt := ti_eq (G_S_66 22 (((1 : Int32)).toNatClampNeg) rfl)
    have h15 : (S_66.1 22 (((2 : Int32)).toNatClampNeg)).toInt = (S_51.1 22 (((2 : Int32)).toNatClampNeg)).toInt := ti_eq (G_S_66 22 (((2 : Int32)).toNatClampNeg) rfl)
    have h16 : ((1 : Int32)).toInt = 1 := li_1
    exact Sf.so ⟨I_S_66, F_S_66, by omega⟩
  · have h17 := neq_iv rfl li_0 c_h2
    have h18 : ((0 : Int32)).toInt = 0 := li_0
    exact Sf.so ⟨I_S, F_S, by omega⟩
theorem s_fX10_isHost_3 (fu : Nat) (hfu : 1000000000000000000 ≤ fu) : ∀ (n : Nat) (x1 : Int32) (x2 : Int32) (x3 : Int32) (x4 : Int32) (S : St), Inv S → (0 ≤ (x4).toInt) → (150 - (x4).toInt).toNat < n → Sp (fX10_isHost_3 fu n x1 x2 x3 x4 S) S (fun r => (0 ≤ r.toInt) ∧ (r.toInt ≤ 1)) := by
  intro n
  induction n with
  | zero => intro x1 x2 x3 x4 S I_S g0 hm; exact absurd hm (Nat.not_lt_zero _)
  | succ n ih =>
    intro x1 x2 x3 x4 S I_S g0 hm
    rw [fX10_isHost_3_s]
    have h1 := b_10_9 I_S
    have h2 := i32 x4
    refine Sp.i (fun c_h3 => ?_) (fun c_h3 => ?_)
    · have h4 := le_iv rfl rfl c_h3
      have h5 : ((0 : Int32)).toInt = 0 := li_0
      exact Sp.so (by omega)
    · have h6 := nle_iv rfl rfl c_h3
      have h7 := i32 x1
      have h8 := i32 x2
      have h9 : ((2 : Int32)).toInt = 2 := li_2
      refine Sp.b (s_fX10_isOf fu hfu x4 x1 x2 (2 : Int32) S I_S (by omega) (by omega)) (fun r_18 p_r_18 => ?_)
      have h10 := i32 r_18
      refine Sp.i (fun c_h11 => ?_) (fun c_h11 => ?_)
      · have h12 := eq_iv rfl li_0 c_h11
        unfold fX10_isHost_37
        have h13 := i32 x3
        try have h14 : ((x4 + (1 : Int32))).toInt = (x4).toInt + (1) := add_iv rfl li_1 (by omega) (by omega)
        refine Sp.mono (ih x1 x2 x3 (x4 + (1 : Int32)) S I_S (by omega) (by omega)) (fun r p_h15 => ?_)
        exact by omega
      · have h16 := neq_iv rfl li_0 c_h11
        refine Sp.g (ck_iv (by omega) (by omega)) ?_
        have h17 := i32 x3
        refine Sp.i (fun c_h18 => ?_) (fun c_h18 => ?_)
        · have h19 := eq_iv rfl rfl c_h18
          have h20 : ((1 : Int32)).toInt = 1 := li_1
          exact Sp.so (by omega)
        · have h21 := neq_iv rfl rfl c_h18
          unfold fX10_isHost_37
          try have h22 : ((x4 + (1 : Int32))).toInt = (x4).toInt + (1) := add_iv rfl li_1 (by omega) (by omega)
          refine Sp.mono (ih x1 x2 x3 (x4 + (1 : Int32)) S I_S (by omega) (by omega)) (fun r p_h23 => ?_)
          exact by omega
theorem s_fX10_isHost (fu : Nat) (hfu : 1000000000000000000 ≤ fu) (x1 : Int32) (x2 : Int32) (x3 : Int32) (S : St) (I_S : Inv S) : Sp (fX10_isHost fu x1 x2 x3 S) S (fun r => (0 ≤ r.toInt) ∧ (r.toInt ≤ 1)) := by
  unfold fX10_isHost
  have h1 := i32 x1
  have h2 := i32 x2
  have h3 := i32 x3
  have h4 : ((0 : Int32)).toInt = 0 := li_0
  refine Sp.mono (s_fX10_isHost_3 fu hfu fu x1 x2 x3 (0 : Int32) S I_S (by omega) (by omega)) (fun r p_h5 => ?_)
  exact by omega
theorem s_fX10_tellHosts_3 (fu : Nat) (hfu : 1000000000000000000 ≤ fu) : ∀ (n : Nat) (x1 : Int32) (x2 : Int32) (x4 : Int32) (S : St), Inv S → (0 ≤ (x4).toInt) → (150 - (x4).toInt).toNat < n → Sf (fX10_tellHosts_3 fu n x1 x2 x4 S) (fun U r => Inv U ∧ Fr [(19, 2), (19, 3), (20, 0), (21, 0), (22, 0)] S U ∧ (True)) := by
  intro n
  induction n with
  | zero => intro x1 x2 x4 S I_S g0 hm; exact absurd hm (Nat.not_lt_zero _)
  | succ n ih =>
    intro x1 x2 x4 S I_S g0 hm
    rw [fX10_tellHosts_3_s]
    have F_S : Fr [(19, 2), (19, 3), (20, 0), (21, 0), (22, 0)] S S := Fr.refl _ _
    have h1 := b_10_9 I_S
    have h2 := i32 x4
    refine Sf.i (fun c_h3 => ?_) (fun c_h3 => ?_)
    · have h4 := le_iv rfl rfl c_h3
      exact Sf.so ⟨I_S, F_S, trivial⟩
    · have h5 := nle_iv rfl rfl c_h3
      refine Sf.g (ck_iv (by omega) (by omega)) ?_
      have h6 := i32 x1
      refine Sf.i (fun c_h7 => ?_) (fun c_h7 => ?_)
      · have h8 := eq_iv rfl rfl c_h7
        refine Sf.g (ck_iv (by omega) (by omega)) ?_
        refine Sf.i (fun c_h9 => ?_) (fun c_h9 => ?_)
        · have h10 := eq_iv rfl li_1 c_h9
          refine Sf.g (ck_iv (by omega) (by omega)) ?_
          have h11 := i32 x2
          refine Sf.bp (s_fX10_isHost fu hfu x1 x2 (S.1 14 ((x4).toNatClampNeg)) S I_S) (fun r_44 p_r_44 => ?_)
          have h12 := i32 r_44
          refine Sf.i (fun c_h13 => ?_) (fun c_h13 => ?_)
          · have h14 := eq_iv rfl li_0 c_h13
            unfold fX10_tellHosts_77
            try have h15 : ((x4 + (1 : Int32))).toInt = (x4).toInt + (1) := add_iv rfl li_1 (by omega) (by omega)
            refine Sf.mono (ih x1 x2 (x4 + (1 : Int32)) S I_S (by omega) (by omega)) (fun U r p_h16 => ?_)
            obtain ⟨I_U, G_U, p_h16⟩ := p_h16
            have h17 := ti_eq (G_U 10 9 rfl)
            exact ⟨I_U, Fr.tr F_S G_U rfl, trivial⟩
          · have h18 := neq_iv rfl li_0 c_h13
            refine Sf.g (ck_iv (by omega) (by omega)) ?_
            refine Sf.g (ck_iv (by omega) (by omega)) ?_
            refine Sf.g (ck_iv (by omega) (by omega)) ?_
            have h19 : ((2 : Int32)).toInt = 2 := li_2
            have h20 : ((1 : Int32)).toInt = 1 := li_1
            refine Sf.b (s_fX9_addRecord fu hfu (2 : Int32) (S.1 14 ((x4).toNatClampNeg)) (1 : Int32) (S.1 16 ((x4).toNatClampNeg)) (S.1 17 ((x4).toNatClampNeg)) S I_S) (fun S_74 r_74_ p_r_74_ => ?_)
            obtain ⟨I_S_74, G_S_74, p_r_74_⟩ := p_r_74_
            have F_S_74 := Fr.tr F_S G_S_74 rfl
            have h21 := ti_eq (G_S_74 10 9 rfl)
            have h22 : (S_74.1 13 ((x4).toNatClampNeg)).toInt = (S.1 13 ((x4).toNatClampNeg)).toInt := ti_eq (G_S_74 13 ((x4).toNatClampNeg) rfl)
            have h23 : (S_74.1 14 ((x4).toNatClampNeg)).toInt = (S.1 14 ((x4).toNatClampNeg)).toInt := ti_eq (G_S_74 14 ((x4).toNatClampNeg) rfl)
            have h24 : (S_74.1 15 ((x4).toNatClampNeg)).toInt = (S.1 15 ((x4).toNatClampNeg)).toInt := ti_eq (G_S_74 15 ((x4).toNatClampNeg) rfl)
            have h25 : (S_74.1 16 ((x4).toNatClampNeg)).toInt = (S.1 16 ((x4).toNatClampNeg)).toInt := ti_eq (G_S_74 16 ((x4).toNatClampNeg) rfl)
            have h26 : (S_74.1 17 ((x4).toNatClampNeg)).toInt = (S.1 17 ((x4).toNatClampNeg)).toInt := ti_eq (G_S_74 17 ((x4).toNatClampNeg) rfl)
            unfold fX10_tellHosts_77
            try have h27 : ((x4 + (1 : Int32))).toInt = (x4).toInt + (1) := add_iv rfl li_1 (by omega) (by omega)
            refine Sf.mono (ih x1 x2 (x4 + (1 : Int32)) S_74 I_S_74 (by omega) (by omega)) (fun U r p_h28 => ?_)
            obtain ⟨I_U, G_U, p_h28⟩ := p_h28
            have h29 := ti_eq (G_U 10 9 rfl)
            exact ⟨I_U, Fr.tr F_S_74 G_U rfl, trivial⟩
        · have h30 := neq_iv rfl li_1 c_h9
          unfold fX10_tellHosts_77
          have h31 := i32 x2
          try have h32 : ((x4 + (1 : Int32))).toInt = (x4).toInt + (1) := add_iv rfl li_1 (by omega) (by omega)
          refine Sf.mono (ih x1 x2 (x4 + (1 : Int32)) S I_S (by omega) (by omega)) (fun U r p_h33 => ?_)
          obtain ⟨I_U, G_U, p_h33⟩ := p_h33
          have h34 := ti_eq (G_U 10 9 rfl)
          exact ⟨I_U, Fr.tr F_S G_U rfl, trivial⟩
      · have h35 := neq_iv rfl rfl c_h7
        unfold fX10_tellHosts_77
        have h36 := i32 x2
        try have h37 : ((x4 + (1 : Int32))).toInt = (x4).toInt + (1) := add_iv rfl li_1 (by omega) (by omega)
        refine Sf.mono (ih x1 x2 (x4 + (1 : Int32)) S I_S (by omega) (by omega)) (fun U r p_h38 => ?_)
        obtain ⟨I_U, G_U, p_h38⟩ := p_h38
        have h39 := ti_eq (G_U 10 9 rfl)
        exact ⟨I_U, Fr.tr F_S G_U rfl, trivial⟩
theorem s_fX10_tellHosts (fu : Nat) (hfu : 1000000000000000000 ≤ fu) (x1 : Int32) (x2 : Int32) (S : St) (I_S : Inv S) : Sf (fX10_tellHosts fu x1 x2 S) (fun U r => Inv U ∧ Fr [(19, 2), (19, 3), (20, 0), (21, 0), (22, 0)] S U ∧ (True)) := by
  unfold fX10_tellHosts
  have F_S : Fr [(19, 2), (19, 3), (20, 0), (21, 0), (22, 0)] S S := Fr.refl _ _
  have h1 := i32 x1
  have h2 := i32 x2
  have h3 : ((0 : Int32)).toInt = 0 := li_0
  refine Sf.mono (s_fX10_tellHosts_3 fu hfu fu x1 x2 (0 : Int32) S I_S (by omega) (by omega)) (fun U r p_h4 => ?_)
  obtain ⟨I_U, G_U, p_h4⟩ := p_h4
  have h5 := ti_eq (G_U 10 9 rfl)
  exact ⟨I_U, Fr.tr F_S G_U rfl, trivial⟩
theorem s_fX10_tell (fu : Nat) (hfu : 1000000000000000000 ≤ fu) (x1 : Int32) (x2 : Int32) (x3 : Int32) (x4 : Int32) (S : St) (I_S : Inv S) : Sf (fX10_tell fu x1 x2 x3 x4 S) (fun U r => Inv U ∧ Fr [(19, 2), (19, 3), (20, 0), (21, 0), (22, 0)] S U ∧ ((0 ≤ r.toInt) ∧ (r.toInt ≤ 1))) := by
  unfold fX10_tell
  have F_S : Fr [(19, 2), (19, 3), (20, 0), (21, 0), (22, 0)] S S := Fr.refl _ _
  have h1 := i32 x4
  have h2 := i32 x2
  have h3 := i32 x3
  refine Sf.b (s_fX9_begin fu hfu x4 x2 x3 S I_S) (fun S_6 r_6_ p_r_6_ => ?_)
  obtain ⟨I_S_6, G_S_6, p_r_6_⟩ := p_r_6_
  have F_S_6 := Fr.tr F_S G_S_6 rfl
  have h4 := ti_eq (G_S_6 10 3 rfl)
  have h5 := i32 x1
  refine Sf.bp (s_fX10_highestCut fu hfu x1 x2 S_6 I_S_6) (fun r_12 p_r_12 => ?_)
  have h6 := i32 r_12
  refine Sf.i (fun c_h7 => ?_) (fun c_h7 => ?_)
  · have h8 := eq_iv rfl li_m1 c_h7
    refine Sf.i (fun c_h9 => ?_) (fun c_h9 => ?_)
    · have h10 := eq_iv rfl li_5 c_h9
      unfold fX10_tell_73
      unfold fX10_tell_74
      refine Sf.it (by decide) ?_
      have h11 : ((0 : Int32)).toInt = 0 := li_0
      have h12 : ((150 : Int32)).toInt = 150 := li_150
      refine Sf.b (s_fX10_tellAll fu hfu x1 x2 x3 (0 : Int32) (150 : Int32) S_6 I_S_6) (fun S_105 r_105 p_r_105 => ?_)
      obtain ⟨I_S_105, G_S_105, p_r_105⟩ := p_r_105
      have F_S_105 := Fr.tr F_S_6 G_S_105 rfl
      have h13 := ti_eq (G_S_105 10 3 rfl)
      unfold fX10_tell_108
      have h14 := i32 r_105
      refine Sf.i (fun c_h15 => ?_) (fun c_h15 => ?_)
      · have h16 := le_iv rfl li_0 c_h15
        refine Sf.bp (s_fX10_apexOf fu hfu x1 S_105 I_S_105) (fun r_128 p_r_128 => ?_)
        have h17 := b_10_3 I_S_105
        refine Sf.bp (s_fX10_has fu hfu x1 S_105 I_S_105) (fun r_133 p_r_133 => ?_)
        have h18 := i32 r_133
        refine Sf.i (fun c_h19 => ?_) (fun c_h19 => ?_)
        · have h20 := eq_iv rfl li_0 c_h19
          unfold fX10_tell_149
          have h21 := i32 r_128
          have h22 : ((1 : Int32)).toInt = 1 := li_1
          refine Sf.b (s_fX9_addSoa fu hfu r_128 (1 : Int32) S_105 I_S_105) (fun S_149 r_149_ p_r_149_ => ?_)
          obtain ⟨I_S_149, G_S_149, p_r_149_⟩ := p_r_149_
          have F_S_149 := Fr.tr F_S_105 G_S_149 rfl
          have h23 := ti_eq (G_S_149 10 3 rfl)
          refine Sf.bp (s_fX10_isThere fu hfu x1 x2 S_149 I_S_149) (fun r_157 p_r_157 => ?_)
          have h24 := i32 r_157
          refine Sf.i (fun c_h25 => ?_) (fun c_h25 => ?_)
          · have h26 := eq_iv rfl li_0 c_h25
            unfold fX10_tell_172
            have h27 : ((1027 : Int32)).toInt = 1027 := li_1027
            refine Sf.b (s_fX9_finish fu hfu (1027 : Int32) S_149 I_S_149) (fun S_172 r_172 p_r_172 => ?_)
            obtain ⟨I_S_172, G_S_172, p_r_172⟩ := p_r_172
            have F_S_172 := Fr.tr F_S_149 G_S_172 rfl
            have h28 := ti_eq (G_S_172 10 3 rfl)
            have h29 := i32 r_172
            refine Sf.g (isB_iv (by omega) (by omega)) ?_
            exact Sf.so ⟨I_S_172, F_S_172, by omega⟩
          · have h30 := neq_iv rfl li_0 c_h25
            unfold fX10_tell_172
            have h31 : ((1024 : Int32)).toInt = 1024 := li_1024
            refine Sf.b (s_fX9_finish fu hfu (1024 : Int32) S_149 I_S_149) (fun S_172 r_172 p_r_172 => ?_)
            obtain ⟨I_S_172, G_S_172, p_r_172⟩ := p_r_172
            have F_S_172 := Fr.tr F_S_149 G_S_172 rfl
            have h32 := ti_eq (G_S_172 10 3 rfl)
            have h33 := i32 r_172
            refine Sf.g (isB_iv (by omega) (by omega)) ?_
            exact Sf.so ⟨I_S_172, F_S_172, by omega⟩
        · have h34 := neq_iv rfl li_0 c_h19
          refine Sf.g (ck_iv (by omega) (by omega)) ?_
          unfold fX10_tell_149
          have h35 := i32 r_128
          refine Sf.b (s_fX9_addSoa fu hfu r_128 (S_105.1 12 ((x1).toNatClampNeg)) S_105 I_S_105) (fun S_149 r_149_ p_r_149_ => ?_)
          obtain ⟨I_S_149, G_S_149, p_r_149_⟩ := p_r_149_
          have F_S_149 := Fr.tr F_S_105 G_S_149 rfl
          have h36 := ti_eq (G_S_149 10 3 rfl)
          have h37 : (S_149.1 12 ((x1).toNatClampNeg)).toInt = (S_105.1 12 ((x1).toNatClampNeg)).toInt := ti_eq (G_S_149 12 ((x1).toNatClampNeg) rfl)
          refine Sf.bp (s_fX10_isThere fu hfu x1 x2 S_149 I_S_149) (fun r_157 p_r_157 => ?_)
          have h38 := i32 r_157
          refine Sf.i (fun c_h39 => ?_) (fun c_h39 => ?_)
          · have h40 := eq_iv rfl li_0 c_h39
            unfold fX10_tell_172
            have h41 : ((1027 : Int32)).toInt = 1027 := li_1027
            refine Sf.b (s_fX9_finish fu hfu (1027 : Int32) S_149 I_S_149) (fun S_172 r_172 p_r_172 => ?_)
            obtain ⟨I_S_172, G_S_172, p_r_172⟩ := p_r_172
            have F_S_172 := Fr.tr F_S_149 G_S_172 rfl
            have h42 := ti_eq (G_S_172 10 3 rfl)
            have h43 : (S_172.1 12 ((x1).toNatClampNeg)).toInt = (S_149.1 12 ((x1).toNatClampNeg)).toInt := ti_eq (G_S_172 12 ((x1).toNatClampNeg) rfl)
            have h44 := i32 r_172
            refine Sf.g (isB_iv (by omega) (by omega)) ?_
            exact Sf.so ⟨I_S_172, F_S_172, by omega⟩
          · have h45 := neq_iv rfl li_0 c_h39
            unfold fX10_tell_172
            have h46 : ((1024 : Int32)).toInt = 1024 := li_1024
            refine Sf.b (s_fX9_finish fu hfu (1024 : Int32) S_149 I_S_149) (fun S_172 r_172 p_r_172 => ?_)
            obtain ⟨I_S_172, G_S_172, p_r_172⟩ := p_r_172
            have F_S_172 := Fr.tr F_S_149 G_S_172 rfl
            have h47 := ti_eq (G_S_172 10 3 rfl)
            have h48 : (S_172.1 12 ((x1).toNatClampNeg)).toInt = (S_149.1 12 ((x1).toNatClampNeg)).toInt := ti_eq (G_S_172 12 ((x1).toNatClampNeg) rfl)
            have h49 := i32 r_172
            refine Sf.g (isB_iv (by omega) (by omega)) ?_
            exact Sf.so ⟨I_S_172, F_S_172, by omega⟩
      · have h50 := nle_iv rfl li_0 c_h15
        have h51 : ((1024 : Int32)).toInt = 1024 := li_1024
        refine Sf.b (s_fX9_finish fu hfu (1024 : Int32) S_105 I_S_105) (fun S_120 r_120 p_r_120 => ?_)
        obtain ⟨I_S_120, G_S_120, p_r_120⟩ := p_r_120
        have F_S_120 := Fr.tr F_S_105 G_S_120 rfl
        have h52 := ti_eq (G_S_120 10 3 rfl)
        have h53 := i32 r_120
        refine Sf.g (isB_iv (by omega) (by omega)) ?_
        exact Sf.so ⟨I_S_120, F_S_120, by omega⟩
    · have h54 := neq_iv rfl li_5 c_h9
      have h55 : ((5 : Int32)).toInt = 5 := li_5
      refine Sf.bp (s_fX10_owns fu hfu x1 x2 (5 : Int32) S_6 I_S_6) (fun r_63 p_r_63 => ?_)
      have h56 := i32 r_63
      refine Sf.i (fun c_h57 => ?_) (fun c_h57 => ?_)
      · have h58 := eq_iv rfl li_0 c_h57
        unfold fX10_tell_73
        unfold fX10_tell_74
        refine Sf.it (by decide) ?_
        have h59 : ((0 : Int32)).toInt = 0 := li_0
        have h60 : ((150 : Int32)).toInt = 150 := li_150
        refine Sf.b (s_fX10_tellAll fu hfu x1 x2 x3 (0 : Int32) (150 : Int32) S_6 I_S_6) (fun S_105 r_105 p_r_105 => ?_)
        obtain ⟨I_S_105, G_S_105, p_r_105⟩ := p_r_105
        have F_S_105 := Fr.tr F_S_6 G_S_105 rfl
        have h61 := ti_eq (G_S_105 10 3 rfl)
        unfold fX10_tell_108
        have h62 := i32 r_105
        refine Sf.i (fun c_h63 => ?_) (fun c_h63 => ?_)
        · have h64 := le_iv rfl li_0 c_h63
          refine Sf.bp (s_fX10_apexOf fu hfu x1 S_105 I_S_105) (fun r_128 p_r_128 => ?_)
          have h65 := b_10_3 I_S_105
          refine Sf.bp (s_fX10_has fu hfu x1 S_105 I_S_105) (fun r_133 p_r_133 => ?_)
          have h66 := i32 r_133
          refine Sf.i (fun c_h67 => ?_) (fun c_h67 => ?_)
          · have h68 := eq_iv rfl li_0 c_h67
            unfold fX10_tell_149
            have h69 := i32 r_128
            have h70 : ((1 : Int32)).toInt = 1 := li_1
            refine Sf.b (s_fX9_addSoa fu hfu r_128 (1 : Int32) S_105 I_S_105) (fun S_149 r_149_ p_r_149_ => ?_)
            obtain ⟨I_S_149, G_S_149, p_r_149_⟩ := p_r_149_
            have F_S_149 := Fr.tr F_S_105 G_S_149 rfl
            have h71 := ti_eq (G_S_149 10 3 rfl)
            refine Sf.bp (s_fX10_isThere fu hfu x1 x2 S_149 I_S_149) (fun r_157 p_r_157 => ?_)
            have h72 := i32 r_157
            refine Sf.i (fun c_h73 => ?_) (fun c_h73 => ?_)
            · have h74 := eq_iv rfl li_0 c_h73
              unfold fX10_tell_172
              have h75 : ((1027 : Int32)).toInt = 1027 := li_1027
              refine Sf.b (s_fX9_finish fu hfu (1027 : Int32) S_149 I_S_149) (fun S_172 r_172 p_r_172 => ?_)
              obtain ⟨I_S_172, G_S_172, p_r_172⟩ := p_r_172
              have F_S_172 := Fr.tr F_S_149 G_S_172 rfl
              have h76 := ti_eq (G_S_172 10 3 rfl)
              have h77 := i32 r_172
              refine Sf.g (isB_iv (by omega) (by omega)) ?_
              exact Sf.so ⟨I_S_172, F_S_172, by omega⟩
            · have h78 := neq_iv rfl li_0 c_h73
              unfold fX10_tell_172
              have h79 : ((1024 : Int32)).toInt = 1024 := li_1024
              refine Sf.b (s_fX9_finish fu hfu (1024 : Int32) S_149 I_S_149) (fun S_172 r_172 p_r_172 => ?_)
              obtain ⟨I_S_172, G_S_172, p_r_172⟩ := p_r_172
              have F_S_172 := Fr.tr F_S_149 G_S_172 rfl
              have h80 := ti_eq (G_S_172 10 3 rfl)
              have h81 := i32 r_172
              refine Sf.g (isB_iv (by omega) (by omega)) ?_
              exact Sf.so ⟨I_S_172, F_S_172, by omega⟩
          · have h82 := neq_iv rfl li_0 c_h67
            refine Sf.g (ck_iv (by omega) (by omega)) ?_
            unfold fX10_tell_149
            have h83 := i32 r_128
            refine Sf.b (s_fX9_addSoa fu hfu r_128 (S_105.1 12 ((x1).toNatClampNeg)) S_105 I_S_105) (fun S_149 r_149_ p_r_149_ => ?_)
            obtain ⟨I_S_149, G_S_149, p_r_149_⟩ := p_r_149_
            have F_S_149 := Fr.tr F_S_105 G_S_149 rfl
            have h84 := ti_eq (G_S_149 10 3 rfl)
            have h85 : (S_149.1 12 ((x1).toNatClampNeg)).toInt = (S_105.1 12 ((x1).toNatClampNeg)).toInt := ti_eq (G_S_149 12 ((x1).toNatClampNeg) rfl)
            refine Sf.bp (s_fX10_isThere fu hfu x1 x2 S_149 I_S_149) (fun r_157 p_r_157 => ?_)
            have h86 := i32 r_157
            refine Sf.i (fun c_h87 => ?_) (fun c_h87 => ?_)
            · have h88 := eq_iv rfl li_0 c_h87
              unfold fX10_tell_172
              have h89 : ((1027 : Int32)).toInt = 1027 := li_1027
              refine Sf.b (s_fX9_finish fu hfu (1027 : Int32) S_149 I_S_149) (fun S_172 r_172 p_r_172 => ?_)
              obtain ⟨I_S_172, G_S_172, p_r_172⟩ := p_r_172
              have F_S_172 := Fr.tr F_S_149 G_S_172 rfl
              have h90 := ti_eq (G_S_172 10 3 rfl)
              have h91 : (S_172.1 12 ((x1).toNatClampNeg)).toInt = (S_149.1 12 ((x1).toNatClampNeg)).toInt := ti_eq (G_S_172 12 ((x1).toNatClampNeg) rfl)
              have h92 := i32 r_172
              refine Sf.g (isB_iv (by omega) (by omega)) ?_
              exact Sf.so ⟨I_S_172, F_S_172, by omega⟩
            · have h93 := neq_iv rfl li_0 c_h87
              unfold fX10_tell_172
              have h94 : ((1024 : Int32)).toInt = 1024 := li_1024
              refine Sf.b (s_fX9_finish fu hfu (1024 : Int32) S_149 I_S_149) (fun S_172 r_172 p_r_172 => ?_)
              obtain ⟨I_S_172, G_S_172, p_r_172⟩ := p_r_172
              have F_S_172 := Fr.tr F_S_149 G_S_172 rfl
              have h95 := ti_eq (G_S_172 10 3 rfl)
              have h96 : (S_172.1 12 ((x1).toNatClampNeg)).toInt = (S_149.1 12 ((x1).toNatClampNeg)).toInt := ti_eq (G_S_172 12 ((x1).toNatClampNeg) rfl)
              have h97 := i32 r_172
              refine Sf.g (isB_iv (by omega) (by omega)) ?_
              exact Sf.so ⟨I_S_172, F_S_172, by omega⟩
        · have h98 := nle_iv rfl li_0 c_h63
          have h99 : ((1024 : Int32)).toInt = 1024 := li_1024
          refine Sf.b (s_fX9_finish fu hfu (1024 : Int32) S_105 I_S_105) (fun S_120 r_120 p_r_120 => ?_)
          obtain ⟨I_S_120, G_S_120, p_r_120⟩ := p_r_120
          have F_S_120 := Fr.tr F_S_105 G_S_120 rfl
          have h100 := ti_eq (G_S_120 10 3 rfl)
          have h101 := i32 r_120
          refine Sf.g (isB_iv (by omega) (by omega)) ?_
          exact Sf.so ⟨I_S_120, F_S_120, by omega⟩
      · have h102 := neq_iv rfl li_0 c_h57
        unfold fX10_tell_74
        refine Sf.ie (by decide) ?_
        have h103 : ((0 : Int32)).toInt = 0 := li_0
        have h104 : ((1 : Int32)).toInt = 1 := li_1
        refine Sf.b (s_fX10_tellAll fu hfu x1 x2 (5 : Int32) (0 : Int32) (1 : Int32) S_6 I_S_6) (fun S_89 r_89 p_r_89 => ?_)
        obtain ⟨I_S_89, G_S_89, p_r_89⟩ := p_r_89
        have F_S_89 := Fr.tr F_S_6 G_S_89 rfl
        have h105 := ti_eq (G_S_89 10 3 rfl)
        unfold fX10_tell_108
        have h106 := i32 r_89
        refine Sf.i (fun c_h107 => ?_) (fun c_h107 => ?_)
        · have h108 := le_iv rfl li_0 c_h107
          refine Sf.bp (s_fX10_apexOf fu hfu x1 S_89 I_S_89) (fun r_128 p_r_128 => ?_)
          have h109 := b_10_3 I_S_89
          refine Sf.bp (s_fX10_has fu hfu x1 S_89 I_S_89) (fun r_133 p_r_133 => ?_)
          have h110 := i32 r_133
          refine Sf.i (fun c_h111 => ?_) (fun c_h111 => ?_)
          · have h112 := eq_iv rfl li_0 c_h111
            unfold fX10_tell_149
            have h113 := i32 r_128
            refine Sf.b (s_fX9_addSoa fu hfu r_128 (1 : Int32) S_89 I_S_89) (fun S_149 r_149_ p_r_149_ => ?_)
            obtain ⟨I_S_149, G_S_149, p_r_149_⟩ := p_r_149_
            have F_S_149 := Fr.tr F_S_89 G_S_149 rfl
            have h114 := ti_eq (G_S_149 10 3 rfl)
            refine Sf.bp (s_fX10_isThere fu hfu x1 x2 S_149 I_S_149) (fun r_157 p_r_157 => ?_)
            have h115 := i32 r_157
            refine Sf.i (fun c_h116 => ?_) (fun c_h116 => ?_)
            · have h117 := eq_iv rfl li_0 c_h116
              unfold fX10_tell_172
              have h118 : ((1027 : Int32)).toInt = 1027 := li_1027
              refine Sf.b (s_fX9_finish fu hfu (1027 : Int32) S_149 I_S_149) (fun S_172 r_172 p_r_172 => ?_)
              obtain ⟨I_S_172, G_S_172, p_r_172⟩ := p_r_172
              have F_S_172 := Fr.tr F_S_149 G_S_172 rfl
              have h119 := ti_eq (G_S_172 10 3 rfl)
              have h120 := i32 r_172
              refine Sf.g (isB_iv (by omega) (by omega)) ?_
              exact Sf.so ⟨I_S_172, F_S_172, by omega⟩
            · have h121 := neq_iv rfl li_0 c_h116
              unfold fX10_tell_172
              have h122 : ((1024 : Int32)).toInt = 1024 := li_1024
              refine Sf.b (s_fX9_finish fu hfu (1024 : Int32) S_149 I_S_149) (fun S_172 r_172 p_r_172 => ?_)
              obtain ⟨I_S_172, G_S_172, p_r_172⟩ := p_r_172
              have F_S_172 := Fr.tr F_S_149 G_S_172 rfl
              have h123 := ti_eq (G_S_172 10 3 rfl)
              have h124 := i32 r_172
              refine Sf.g (isB_iv (by omega) (by omega)) ?_
              exact Sf.so ⟨I_S_172, F_S_172, by omega⟩
          · have h125 := neq_iv rfl li_0 c_h111
            refine Sf.g (ck_iv (by omega) (by omega)) ?_
            unfold fX10_tell_149
            have h126 := i32 r_128
            refine Sf.b (s_fX9_addSoa fu hfu r_128 (S_89.1 12 ((x1).toNatClampNeg)) S_89 I_S_89) (fun S_149 r_149_ p_r_149_ => ?_)
            obtain ⟨I_S_149, G_S_149, p_r_149_⟩ := p_r_149_
            have F_S_149 := Fr.tr F_S_89 G_S_149 rfl
            have h127 := ti_eq (G_S_149 10 3 rfl)
            have h128 : (S_149.1 12 ((x1).toNatClampNeg)).toInt = (S_89.1 12 ((x1).toNatClampNeg)).toInt := ti_eq (G_S_149 12 ((x1).toNatClampNeg) rfl)
            refine Sf.bp (s_fX10_isThere fu hfu x1 x2 S_149 I_S_149) (fun r_157 p_r_157 => ?_)
            have h129 := i32 r_157
            refine Sf.i (fun c_h130 => ?_) (fun c_h130 => ?_)
            · have h131 := eq_iv rfl li_0 c_h130
              unfold fX10_tell_172
              have h132 : ((1027 : Int32)).toInt = 1027 := li_1027
              refine Sf.b (s_fX9_finish fu hfu (1027 : Int32) S_149 I_S_149) (fun S_172 r_172 p_r_172 => ?_)
              obtain ⟨I_S_172, G_S_172, p_r_172⟩ := p_r_172
              have F_S_172 := Fr.tr F_S_149 G_S_172 rfl
              have h133 := ti_eq (G_S_172 10 3 rfl)
              have h134 : (S_172.1 12 ((x1).toNatClampNeg)).toInt = (S_149.1 12 ((x1).toNatClampNeg)).toInt := ti_eq (G_S_172 12 ((x1).toNatClampNeg) rfl)
              have h135 := i32 r_172
              refine Sf.g (isB_iv (by omega) (by omega)) ?_
              exact Sf.so ⟨I_S_172, F_S_172, by omega⟩
            · have h136 := neq_iv rfl li_0 c_h130
              unfold fX10_tell_172
              have h137 : ((1024 : Int32)).toInt = 1024 := li_1024
              refine Sf.b (s_fX9_finish fu hfu (1024 : Int32) S_149 I_S_149) (fun S_172 r_172 p_r_172 => ?_)
              obtain ⟨I_S_172, G_S_172, p_r_172⟩ := p_r_172
              have F_S_172 := Fr.tr F_S_149 G_S_172 rfl
              have h138 := ti_eq (G_S_172 10 3 rfl)
              have h139 : (S_172.1 12 ((x1).toNatClampNeg)).toInt = (S_149.1 12 ((x1).toNatClampNeg)).toInt := ti_eq (G_S_172 12 ((x1).toNatClampNeg) rfl)
              have h140 := i32 r_172
              refine Sf.g (isB_iv (by omega) (by omega)) ?_
              exact Sf.so ⟨I_S_172, F_S_172, by omega⟩
        · have h141 := nle_iv rfl li_0 c_h107
          have h142 : ((1024 : Int32)).toInt = 1024 := li_1024
          refine Sf.b (s_fX9_finish fu hfu (1024 : Int32) S_89 I_S_89) (fun S_120 r_120 p_r_120 => ?_)
          obtain ⟨I_S_120, G_S_120, p_r_120⟩ := p_r_120
          have F_S_120 := Fr.tr F_S_89 G_S_120 rfl
          have h143 := ti_eq (G_S_120 10 3 rfl)
          have h144 := i32 r_120
          refine Sf.g (isB_iv (by omega) (by omega)) ?_
          exact Sf.so ⟨I_S_120, F_S_120, by omega⟩
  · have h145 := neq_iv rfl li_m1 c_h7
    have h146 : ((2 : Int32)).toInt = 2 := li_2
    have h147 : ((1 : Int32)).toInt = 1 := li_1
    have h148 : ((150 : Int32)).toInt = 150 := li_150
    refine Sf.b (s_fX10_tellAll fu hfu x1 r_12 (2 : Int32) (1 : Int32) (150 : Int32) S_6 I_S_6) (fun S_34 r_34 p_r_34 => ?_)
    obtain ⟨I_S_34, G_S_34, p_r_34⟩ := p_r_34
    have F_S_34 := Fr.tr F_S_6 G_S_34 rfl
    have h149 := ti_eq (G_S_34 10 3 rfl)
    refine Sf.b (s_fX10_tellHosts fu hfu x1 r_12 S_34 I_S_34) (fun S_44 r_44_ p_r_44_ => ?_)
    obtain ⟨I_S_44, G_S_44, p_r_44_⟩ := p_r_44_
    have F_S_44 := Fr.tr F_S_34 G_S_44 rfl
    have h150 := ti_eq (G_S_44 10 3 rfl)
    have h151 : ((0 : Int32)).toInt = 0 := li_0
    refine Sf.b (s_fX9_finish fu hfu (0 : Int32) S_44 I_S_44) (fun S_50 r_50 p_r_50 => ?_)
    obtain ⟨I_S_50, G_S_50, p_r_50⟩ := p_r_50
    have F_S_50 := Fr.tr F_S_44 G_S_50 rfl
    have h152 := ti_eq (G_S_50 10 3 rfl)
    have h153 := i32 r_50
    refine Sf.g (isB_iv (by omega) (by omega)) ?_
    exact Sf.so ⟨I_S_50, F_S_50, by omega⟩
theorem s_fX9_message (fu : Nat) (hfu : 1000000000000000000 ≤ fu) (S : St) (I_S : Inv S) : Sp (fX9_message fu S) S (fun r => True) := by
  unfold fX9_message
  exact Sp.so trivial
theorem s_fX0_copy (fu : Nat) (hfu : 1000000000000000000 ≤ fu) (S : St) (I_S : Inv S) : Sf (fX0_copy fu S) (fun U r => Inv U ∧ Fr [(1, 2), (1, 3), (2, 0)] S U ∧ True) := by
  unfold fX0_copy
  have b1 := b_19_1 I_S
  have b2 := b_19_2 I_S
  have hc := cl_iv b1.1
  have hn : ¬ S.1 19 1 < 0 := fun c => by
    have := lt_iv rfl li_0 c
    omega
  refine Sf.g (by simp only [cpOk, decide_eq_true_eq]; rw [show (0 : Int32).toNatClampNeg = 0 from rfl]; exact ⟨by decide, by decide, hn, by omega, by omega, fun i _ => by_iv (a_20 I_S _).1 (a_20 I_S _).2⟩) ?_
  unfold sC
  have I2 : Inv (wC 20 2 (0 : Int32) (0 : Int32) (S.1 19 1) S) := by
    intro a b
    by_cases e : a = 2
    · subst e; exact ⟨(i32 _).1, (i32 _).2⟩
    · have : (wC 20 2 (0 : Int32) (0 : Int32) (S.1 19 1) S).1 a = S.1 a := by simp [wC, va_up, e]
      rw [this]; exact I_S a b
  have F2 : Fr [(1, 2), (1, 3), (2, 0)] S (wC 20 2 (0 : Int32) (0 : Int32) (S.1 19 1) S) := by
    intro a b hm
    by_cases e : a = 2
    · subst e; exact Bool.noConfusion hm
    · have : (wC 20 2 (0 : Int32) (0 : Int32) (S.1 19 1) S).1 a = S.1 a := by simp [wC, va_up, e]
      rw [this]
  have e1 : (wC 20 2 (0 : Int32) (0 : Int32) (S.1 19 1) S).1 19 = S.1 19 := by simp [wC, va_up]
  refine Sf.w I2 F2 rfl (by rw [e1]; exact b1.1) (by rw [e1]; exact b1.2) (fun T IT FT vT fT lT => ?_)
  have e2 : T.1 19 2 = S.1 19 2 := by rw [fT 19 2 (fun e => absurd e (by decide)), e1]
  refine Sf.g (isB_iv (by rw [e2]; exact b2.1) (by rw [e2]; exact b2.2)) ?_
  refine Sf.w IT FT rfl (by rw [e2]; exact b2.1) (by rw [e2]; exact b2.2) (fun U IU FU vU fU lU => ?_)
  exact Sf.so ⟨IU, FU, trivial⟩
theorem s_fX11_say (fu : Nat) (hfu : 1000000000000000000 ≤ fu) (x1 : Int32) (x2 : Int32) (x3 : Int32) (S : St) (I_S : Inv S) : Sf (fX11_say fu x1 x2 x3 S) (fun U r => Inv U ∧ Fr [(1, 2), (1, 3), (2, 0), (19, 2), (19, 3), (20, 0), (21, 0), (22, 0)] S U ∧ (((r.1 = 0 ∨ r.1 = 3)))) := by
  unfold fX11_say
  have F_S : Fr [(1, 2), (1, 3), (2, 0), (19, 2), (19, 3), (20, 0), (21, 0), (22, 0)] S S := Fr.refl _ _
  have h1 := i32 x1
  have h2 := b_23_4 I_S
  refine Sf.xp (s_fX11_needServer fu hfu x1 S I_S) (fun r_2_ p_r_2_ => ?_) (fun k r p_e => ?_)
  rotate_left
  · have p_e : (((k + 1) = 0 ∧ 0 ≤ (x1).toInt ∧ (x1).toInt < (S.1 23 4).toInt ∨ (k + 1) = 3)) := p_e
    exact ⟨I_S, F_S, (show (((k + 1) = 0 ∨ (k + 1) = 3)) by omega)⟩
  have p_r_2_ : (((0 : Nat) = 0 ∧ 0 ≤ (x1).toInt ∧ (x1).toInt < (S.1 23 4).toInt ∨ (0 : Nat) = 3)) := p_r_2_
  have h3 := i32 x2
  have h4 := b_3_3 I_S
  refine Sf.xp (s_fX11_needName fu hfu x2 S I_S) (fun r_7_ p_r_7_ => ?_) (fun k r p_e => ?_)
  rotate_left
  · have p_e : (((k + 1) = 0 ∧ 0 ≤ (x2).toInt ∧ (x2).toInt < (S.1 3 3).toInt ∨ (k + 1) = 3)) := p_e
    exact ⟨I_S, F_S, (show (((k + 1) = 0 ∨ (k + 1) = 3)) by omega)⟩
  have p_r_7_ : (((0 : Nat) = 0 ∧ 0 ≤ (x2).toInt ∧ (x2).toInt < (S.1 3 3).toInt ∨ (0 : Nat) = 3)) := p_r_7_
  refine Sf.b (s_fX0_clear_1 fu hfu S I_S) (fun S_14 r_14_ p_r_14_ => ?_)
  obtain ⟨I_S_14, G_S_14, p_r_14_⟩ := p_r_14_
  have F_S_14 := Fr.tr F_S G_S_14 rfl
  have h5 := ti_eq (G_S_14 3 3 rfl)
  have h6 := ti_eq (G_S_14 10 3 rfl)
  have h7 := ti_eq (G_S_14 23 4 rfl)
  have h8 := b_10_3 I_S_14
  refine Sf.bp (s_fX7_zoneFor fu hfu x1 x2 S_14 I_S_14) (fun r_23 p_r_23 => ?_)
  have h9 := i32 r_23
  refine Sf.i (fun c_h10 => ?_) (fun c_h10 => ?_)
  · have h11 := eq_iv rfl li_m1 c_h10
    unfold fX11_say_67
    have h12 := b_1_1 I_S_14
    refine Sf.bp (s_fX0_size_1 fu hfu S_14 I_S_14) (fun r_71 p_r_71 => ?_)
    exact Sf.so ⟨I_S_14, F_S_14, (show (((0 : Nat) = 0 ∨ (0 : Nat) = 3)) by omega)⟩
  · have h13 := neq_iv rfl li_m1 c_h10
    have h14 := i32 x3
    have h15 : ((0 : Int32)).toInt = 0 := li_0
    refine Sf.b (s_fX10_tell fu hfu r_23 x2 x3 (0 : Int32) S_14 I_S_14) (fun S_47 r_47 p_r_47 => ?_)
    obtain ⟨I_S_47, G_S_47, p_r_47⟩ := p_r_47
    have F_S_47 := Fr.tr F_S_14 G_S_47 rfl
    have h16 := ti_eq (G_S_47 1 1 rfl)
    have h17 := ti_eq (G_S_47 3 3 rfl)
    have h18 := ti_eq (G_S_47 10 3 rfl)
    have h19 := ti_eq (G_S_47 23 4 rfl)
    have h20 := i32 r_47
    refine Sf.i (fun c_h21 => ?_) (fun c_h21 => ?_)
    · have h22 := eq_iv rfl li_0 c_h21
      unfold fX11_say_67
      have h23 := b_1_1 I_S_47
      refine Sf.bp (s_fX0_size_1 fu hfu S_47 I_S_47) (fun r_71 p_r_71 => ?_)
      exact Sf.so ⟨I_S_47, F_S_47, (show (((0 : Nat) = 0 ∨ (0 : Nat) = 3)) by omega)⟩
    · have h24 := neq_iv rfl li_0 c_h21
      refine Sf.bp (s_fX9_message fu hfu S_47 I_S_47) (fun r_61_ p_r_61_ => ?_)
      refine Sf.b (s_fX0_copy fu hfu S_47 I_S_47) (fun S_64 r_64_ p_r_64_ => ?_)
      obtain ⟨I_S_64, G_S_64, p_r_64_⟩ := p_r_64_
      have F_S_64 := Fr.tr F_S_47 G_S_64 rfl
      have h25 := ti_eq (G_S_64 3 3 rfl)
      have h26 := ti_eq (G_S_64 10 3 rfl)
      have h27 := ti_eq (G_S_64 23 4 rfl)
      unfold fX11_say_67
      have h28 := b_1_1 I_S_64
      refine Sf.bp (s_fX0_size_1 fu hfu S_64 I_S_64) (fun r_71 p_r_71 => ?_)
      exact Sf.so ⟨I_S_64, F_S_64, (show (((0 : Nat) = 0 ∨ (0 : Nat) = 3)) by omega)⟩
theorem s_fX5_clear_30 (fu : Nat) (hfu : 1000000000000000000 ≤ fu) (S : St) (I_S : Inv S) : Sf (fX5_clear fu 30 S) (fun U r => Inv U ∧ Fr [(30, 6)] S U ∧ (True)) := by
  unfold fX5_clear
  try simp only [Nat.reduceAdd]
  have F_S : Fr [(30, 6)] S S := Fr.refl _ _
  refine Sf.w I_S F_S rfl (show ((0) : Int) ≤ ((0 : Int32)).toInt by rw [li_0]; omega) (show ((0 : Int32)).toInt ≤ (90 : Int) by rw [li_0]; omega) (fun S_2 I_S_2 F_S_2 v_S_2 f_S_2 l_S_2 => ?_)
  exact Sf.so ⟨I_S_2, F_S_2, trivial⟩
theorem s_fX0_two_1 (fu : Nat) (hfu : 1000000000000000000 ≤ fu) (x1 : Int32) (S : St) (I_S : Inv S) : Sp (fX0_two fu 1 x1 S) S (fun r => True) := by
  unfold fX0_two
  try simp only [Nat.reduceAdd]
  have h1 := i32 x1
  refine Sp.b (s_fX0_at_1 fu hfu x1 S I_S) (fun r_2 p_r_2 => ?_)
  try have h2 : ((x1 + (1 : Int32))).toInt = (x1).toInt + (1) := add_iv rfl li_1 (by omega) (by omega)
  refine Sp.b (s_fX0_at_1 fu hfu (x1 + (1 : Int32)) S I_S) (fun r_12 p_r_12 => ?_)
  exact Sp.so trivial
theorem s_fX8_clear_27 (fu : Nat) (hfu : 1000000000000000000 ≤ fu) (S : St) (I_S : Inv S) : Sf (fX8_clear fu 27 S) (fun U r => Inv U ∧ Fr [(27, 3)] S U ∧ (True)) := by
  unfold fX8_clear
  try simp only [Nat.reduceAdd]
  have F_S : Fr [(27, 3)] S S := Fr.refl _ _
  refine Sf.w I_S F_S rfl (show ((0) : Int) ≤ ((0 : Int32)).toInt by rw [li_0]; omega) (show ((0 : Int32)).toInt ≤ (6 : Int) by rw [li_0]; omega) (fun S_2 I_S_2 F_S_2 v_S_2 f_S_2 l_S_2 => ?_)
  exact Sf.so ⟨I_S_2, F_S_2, trivial⟩
theorem s_fX8_size_27 (fu : Nat) (hfu : 1000000000000000000 ≤ fu) (S : St) (I_S : Inv S) : Sp (fX8_size fu 27 S) S (fun r => (r.toInt = (S.1 27 2).toInt)) := by
  unfold fX8_size
  try simp only [Nat.reduceAdd]
  have h1 := b_27_2 I_S
  have h2 := b_27_2 I_S
  exact Sp.so (by omega)
theorem s_fX8_labelAt_27 (fu : Nat) (hfu : 1000000000000000000 ≤ fu) (x1 : Int32) (S : St) (I_S : Inv S) : Sp (fX8_labelAt fu 27 x1 S) S (fun r => True) := by
  unfold fX8_labelAt
  try simp only [Nat.reduceAdd]
  have h1 := i32 x1
  refine Sp.i (fun c_h2 => ?_) (fun c_h2 => ?_)
  · have h3 := lt_iv rfl li_0 c_h2
    exact Sp.so trivial
  · have h4 := nlt_iv rfl li_0 c_h2
    have h5 := b_27_2 I_S
    refine Sp.i (fun c_h6 => ?_) (fun c_h6 => ?_)
    · have h7 := le_iv rfl rfl c_h6
      exact Sp.so trivial
    · have h8 := nle_iv rfl rfl c_h6
      refine Sp.g (ck_iv (by omega) (by omega)) ?_
      exact Sp.so trivial
theorem s_fX8_lengthAt_27 (fu : Nat) (hfu : 1000000000000000000 ≤ fu) (x1 : Int32) (S : St) (I_S : Inv S) : Sp (fX8_lengthAt fu 27 x1 S) S (fun r => (0 ≤ r.toInt) ∧ (r.toInt ≤ 10)) := by
  unfold fX8_lengthAt
  try simp only [Nat.reduceAdd]
  have h1 := i32 x1
  refine Sp.i (fun c_h2 => ?_) (fun c_h2 => ?_)
  · have h3 := lt_iv rfl li_0 c_h2
    have h4 : ((0 : Int32)).toInt = 0 := li_0
    exact Sp.so (by omega)
  · have h5 := nlt_iv rfl li_0 c_h2
    have h6 := b_27_2 I_S
    refine Sp.i (fun c_h7 => ?_) (fun c_h7 => ?_)
    · have h8 := le_iv rfl rfl c_h7
      have h9 : ((0 : Int32)).toInt = 0 := li_0
      exact Sp.so (by omega)
    · have h10 := nle_iv rfl rfl c_h7
      refine Sp.g (ck_iv (by omega) (by omega)) ?_
      have h11 := a_29 I_S ((x1).toNatClampNeg)
      exact Sp.so (by omega)
theorem s_fX3_made_9_27 (fu : Nat) (hfu : 1000000000000000000 ≤ fu) : ∀ (n : Nat) (x2 : Int32) (x3 : Int32) (S : St), Inv S → (0 ≤ (x2).toInt) → ((x2).toInt ≤ 299) → (-1 ≤ (x3).toInt) → ((x3).toInt ≤ 5) → ((x3).toInt + 1).toNat < n → Sf (fX3_made_9 fu 27 n x2 x3 S) (fun U r => Inv U ∧ Fr [(3, 4), (4, 0), (6, 0)] S U ∧ ((-1 ≤ r.toInt) ∧ (r.toInt ≤ 299))) := by
  intro n
  induction n with
  | zero => intro x2 x3 S I_S g0 g1 g2 g3 hm; exact absurd hm (Nat.not_lt_zero _)
  | succ n ih =>
    intro x2 x3 S I_S g0 g1 g2 g3 hm
    rw [fX3_made_9_s]
    try simp only [Nat.reduceAdd]
    have F_S : Fr [(3, 4), (4, 0), (6, 0)] S S := Fr.refl _ _
    have h1 := i32 x3
    refine Sf.i (fun c_h2 => ?_) (fun c_h2 => ?_)
    · have h3 := lt_iv rfl li_0 c_h2
      have h4 := i32 x2
      exact Sf.so ⟨I_S, F_S, by omega⟩
    · have h5 := nlt_iv rfl li_0 c_h2
      refine Sf.bp (s_fX8_labelAt_27 fu hfu x3 S I_S) (fun r_17 p_r_17 => ?_)
      have h6 := i32 x2
      refine Sf.bp (s_fX3_child fu hfu x2 r_17 S I_S) (fun r_20 p_r_20 => ?_)
      have h7 := i32 r_20
      refine Sf.i (fun c_h8 => ?_) (fun c_h8 => ?_)
      · have h9 := eq_iv rfl li_m1 c_h8
        refine Sf.bp (s_fX8_labelAt_27 fu hfu x3 S I_S) (fun r_35 p_r_35 => ?_)
        refine Sf.bp (s_fX8_lengthAt_27 fu hfu x3 S I_S) (fun r_40 p_r_40 => ?_)
        have h10 := i32 r_40
        refine Sf.b (s_fX3_add fu hfu x2 r_35 r_40 S I_S (by omega) (by omega) (by omega) (by omega)) (fun S_43 r_43 p_r_43 => ?_)
        obtain ⟨I_S_43, G_S_43, p_r_43⟩ := p_r_43
        have F_S_43 := Fr.tr F_S G_S_43 rfl
        unfold fX3_made_48
        try simp only [Nat.reduceAdd]
        have h11 := i32 r_43
        refine Sf.i (fun c_h12 => ?_) (fun c_h12 => ?_)
        · have h13 := eq_iv rfl li_m1 c_h12
          have h14 : ((-1 : Int32)).toInt = -1 := li_m1
          exact Sf.so ⟨I_S_43, F_S_43, by omega⟩
        · have h15 := neq_iv rfl li_m1 c_h12
          obtain ⟨d16, e_d16⟩ : ∃ d : Int32, d = (x3 + (-1 : Int32)) := ⟨_, rfl⟩
          have h17 : (d16).toInt = (x3).toInt + (-1) := by rw [e_d16]; exact add_iv rfl li_m1 (by omega) (by omega)
          rw [← e_d16]
          clear e_d16
          refine Sf.mono (ih r_43 d16 S_43 I_S_43 (by omega) (by omega) (by omega) (by omega) (by omega)) (fun U r p_h18 => ?_)
          obtain ⟨I_U, G_U, p_h18⟩ := p_h18
          exact ⟨I_U, Fr.tr F_S_43 G_U rfl, by omega⟩
      · have h19 := neq_iv rfl li_m1 c_h8
        unfold fX3_made_48
        try simp only [Nat.reduceAdd]
        refine Sf.i (fun c_h20 => ?_) (fun c_h20 => ?_)
        · have h21 := eq_iv rfl li_m1 c_h20
          have h22 : ((-1 : Int32)).toInt = -1 := li_m1
          exact Sf.so ⟨I_S, F_S, by omega⟩
        · have h23 := neq_iv rfl li_m1 c_h20
          obtain ⟨d24, e_d24⟩ : ∃ d : Int32, d = (x3 + (-1 : Int32)) := ⟨_, rfl⟩
          have h25 : (d24).toInt = (x3).toInt + (-1) := by rw [e_d24]; exact add_iv rfl li_m1 (by omega) (by omega)
          rw [← e_d24]
          clear e_d24
          refine Sf.mono (ih r_20 d24 S I_S (by omega) (by omega) (by omega) (by omega) (by omega)) (fun U r p_h26 => ?_)
          obtain ⟨I_U, G_U, p_h26⟩ := p_h26
          exact ⟨I_U, Fr.tr F_S G_U rfl, by omega⟩
theorem s_fX3_made_27 (fu : Nat) (hfu : 1000000000000000000 ≤ fu) (S : St) (I_S : Inv S) : Sf (fX3_made fu 27 S) (fun U r => Inv U ∧ Fr [(3, 4), (4, 0), (6, 0)] S U ∧ ((-1 ≤ r.toInt) ∧ (r.toInt ≤ 299))) := by
  unfold fX3_made
  try simp only [Nat.reduceAdd]
  have F_S : Fr [(3, 4), (4, 0), (6, 0)] S S := Fr.refl _ _
  have h1 := b_27_2 I_S
  refine Sf.bp (s_fX8_size_27 fu hfu S I_S) (fun r_3 p_r_3 => ?_)
  have h2 : ((0 : Int32)).toInt = 0 := li_0
  have h3 := i32 r_3
  try have h4 : ((r_3 - (1 : Int32))).toInt = (r_3).toInt - (1) := sub_iv rfl li_1 (by omega) (by omega)
  refine Sf.mono (s_fX3_made_9_27 fu hfu fu (0 : Int32) (r_3 - (1 : Int32)) S I_S (by omega) (by omega) (by omega) (by omega) (by omega)) (fun U r p_h5 => ?_)
  obtain ⟨I_U, G_U, p_h5⟩ := p_h5
  have h6 := ti_eq (G_U 27 2 rfl)
  exact ⟨I_U, Fr.tr F_S G_U rfl, by omega⟩
theorem s_fX8_open_27 (fu : Nat) (hfu : 1000000000000000000 ≤ fu) (S : St) (I_S : Inv S) : Sf (fX8_open fu 27 S) (fun U r => Inv U ∧ Fr [(27, 3), (29, 0)] S U ∧ ((0 ≤ r.toInt) ∧ (r.toInt ≤ 1))) := by
  unfold fX8_open
  try simp only [Nat.reduceAdd]
  have F_S : Fr [(27, 3), (29, 0)] S S := Fr.refl _ _
  have h1 := b_27_2 I_S
  refine Sf.i (fun c_h2 => ?_) (fun c_h2 => ?_)
  · have h3 := lt_iv rfl li_6 c_h2
    refine Sf.g (ck_iv (by omega) (by omega)) ?_
    refine Sf.j I_S F_S (fun S_20 I_S_20 F_S_20 l_S_20 => ?_)
    have h4 : (S_20.1 27 2).toInt = (S.1 27 2).toInt := by rw [l_S_20]
    have h5 := b_27_2 I_S_20
    refine Sf.g (ck_iv (by omega) (by omega)) ?_
    refine Sf.w I_S_20 F_S_20 rfl (show ((0) : Int) ≤ ((0 : Int32)).toInt by rw [li_0]; omega) (show ((0 : Int32)).toInt ≤ (10 : Int) by rw [li_0]; omega) (fun S_30 I_S_30 F_S_30 v_S_30 f_S_30 l_S_30 => ?_)
    have h6 := ti_eq (f_S_30 27 2 (fun e => absurd e (by decide)))
    have h7 : (S_30.1 29 (((S_20.1 27 2)).toNatClampNeg)).toInt = (0) := eq_iv rfl li_0 v_S_30
    have h8 : (S_30.1 29 (((S_30.1 27 2)).toNatClampNeg)).toInt = (0) := by rw [f_S_30 27 2 (fun e => absurd e (by decide))]; exact eq_iv rfl li_0 v_S_30
    have h9 := b_27_2 I_S_30
    try have h10 : (((S_30.1 27 2) + (1 : Int32))).toInt = ((S_30.1 27 2)).toInt + (1) := add_iv rfl li_1 (by omega) (by omega)
    refine Sf.w I_S_30 F_S_30 rfl (show ((0) : Int) ≤ (((S_30.1 27 2) + (1 : Int32))).toInt by omega) (show (((S_30.1 27 2) + (1 : Int32))).toInt ≤ (6 : Int) by omega) (fun S_38 I_S_38 F_S_38 v_S_38 f_S_38 l_S_38 => ?_)
    have h11 := eq_iv rfl rfl v_S_38
    have h12 : (S_38.1 29 (((S_20.1 27 2)).toNatClampNeg)).toInt = (S_30.1 29 (((S_20.1 27 2)).toNatClampNeg)).toInt := ti_eq (f_S_38 29 (((S_20.1 27 2)).toNatClampNeg) (fun e => absurd e (by decide)))
    have h13 : (S_38.1 29 (((S_30.1 27 2)).toNatClampNeg)).toInt = (S_30.1 29 (((S_30.1 27 2)).toNatClampNeg)).toInt := ti_eq (f_S_38 29 (((S_30.1 27 2)).toNatClampNeg) (fun e => absurd e (by decide)))
    have h14 : ((1 : Int32)).toInt = 1 := li_1
    exact Sf.so ⟨I_S_38, F_S_38, by omega⟩
  · have h15 := nlt_iv rfl li_6 c_h2
    have h16 : ((0 : Int32)).toInt = 0 := li_0
    exact Sf.so ⟨I_S, F_S, by omega⟩
