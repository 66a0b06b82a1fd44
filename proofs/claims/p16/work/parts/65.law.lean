theorem s_fL_name (fu : Nat) (hfu : 1000000000000000000 ≤ fu) (S : St) (I_S : Inv S) : Sf (fL_name fu S) (fun U r => Inv U ∧ Fr [(1, 2), (1, 3), (3, 4), (4, 0), (6, 0), (7, 3), (9, 0)] S U ∧ (True)) := by
  unfold fL_name
  have F_S : Fr [(1, 2), (1, 3), (3, 4), (4, 0), (6, 0), (7, 3), (9, 0)] S S := Fr.refl _ _
  refine Sf.c (s_fX11_name fu hfu S I_S) (fun S_3 r_3 p_r => ?_) (fun S_3 k p_x p_r => ?_)
  · obtain ⟨I_S_3, G_S_3, p_r⟩ := p_r
    have F_S_3 := Fr.tr F_S G_S_3 rfl
    have p_r : (((0 : Nat) = 0 ∨ (0 : Nat) = 1 ∨ (0 : Nat) = 2)) := p_r
    refine Sf.g (by decide) ?_
    refine Sf.j I_S_3 F_S_3 (fun S_7 I_S_7 F_S_7 l_S_7 => ?_)
    exact Sf.so ⟨I_S_7, F_S_7, trivial⟩
  · obtain ⟨I_S_3, G_S_3, p_r⟩ := p_r
    have F_S_3 := Fr.tr F_S G_S_3 rfl
    have p_r : (((k + 1) = 0 ∨ (k + 1) = 1 ∨ (k + 1) = 2)) := p_r
    generalize hk : k + 1 = k_3 at p_r ⊢
    refine Sf.i (fun c_h1 => ?_) (fun c_h1 => ?_)
    · exact Sf.so ⟨I_S_3, F_S_3, trivial⟩
    · refine Sf.i (fun c_h2 => ?_) (fun c_h2 => ?_)
      · exact Sf.so ⟨I_S_3, F_S_3, trivial⟩
      · exfalso; omega
theorem s_fL_look (fu : Nat) (hfu : 1000000000000000000 ≤ fu) (x1 : Int32) (x2 : Int32) (S : St) (I_S : Inv S) : Sf (fL_look fu x1 x2 S) (fun U r => Inv U ∧ Fr [] S U ∧ (True)) := by
  unfold fL_look
  have F_S : Fr [] S S := Fr.refl _ _
  have h1 := i32 x1
  have h2 := i32 x2
  refine Sf.cp (s_fX11_look fu hfu x1 x2 S I_S) (fun r_5 p_r => ?_) (fun k p_x p_r => ?_)
  · have p_r : (((0 : Nat) = 0 ∨ (0 : Nat) = 3 ∨ (0 : Nat) = 4)) := p_r
    refine Sf.g (by decide) ?_
    refine Sf.j I_S F_S (fun S_9 I_S_9 F_S_9 l_S_9 => ?_)
    exact Sf.so ⟨I_S_9, F_S_9, trivial⟩
  · have p_r : (((k + 1) = 0 ∨ (k + 1) = 3 ∨ (k + 1) = 4)) := p_r
    generalize hk : k + 1 = k_5 at p_r ⊢
    refine Sf.i (fun c_h3 => ?_) (fun c_h3 => ?_)
    · exact Sf.so ⟨I_S, F_S, trivial⟩
    · refine Sf.i (fun c_h4 => ?_) (fun c_h4 => ?_)
      · exact Sf.so ⟨I_S, F_S, trivial⟩
      · exfalso; omega
theorem s_fL_text (fu : Nat) (hfu : 1000000000000000000 ≤ fu) (x1 : Int32) (x2 : Int32) (S : St) (I_S : Inv S) : Sf (fL_text fu x1 x2 S) (fun U r => Inv U ∧ Fr [] S U ∧ (True)) := by
  unfold fL_text
  have F_S : Fr [] S S := Fr.refl _ _
  have h1 := i32 x1
  have h2 := i32 x2
  refine Sf.cp (s_fX11_text fu hfu x1 x2 S I_S) (fun r_5 p_r => ?_) (fun k p_x p_r => ?_)
  · have p_r : (((0 : Nat) = 0 ∨ (0 : Nat) = 3)) := p_r
    refine Sf.g (by decide) ?_
    refine Sf.j I_S F_S (fun S_9 I_S_9 F_S_9 l_S_9 => ?_)
    exact Sf.so ⟨I_S_9, F_S_9, trivial⟩
  · have p_r : (((k + 1) = 0 ∨ (k + 1) = 3)) := p_r
    generalize hk : k + 1 = k_5 at p_r ⊢
    refine Sf.i (fun c_h3 => ?_) (fun c_h3 => ?_)
    · exact Sf.so ⟨I_S, F_S, trivial⟩
    · exfalso; omega
theorem s_fL_zone (fu : Nat) (hfu : 1000000000000000000 ≤ fu) (x1 : Int32) (x2 : Int32) (S : St) (I_S : Inv S) : Sf (fL_zone fu x1 x2 S) (fun U r => Inv U ∧ Fr [(10, 4), (11, 0), (12, 0)] S U ∧ (True)) := by
  unfold fL_zone
  have F_S : Fr [(10, 4), (11, 0), (12, 0)] S S := Fr.refl _ _
  have h1 := i32 x1
  have h2 := i32 x2
  refine Sf.c (s_fX11_zone fu hfu x1 x2 S I_S) (fun S_5 r_5 p_r => ?_) (fun S_5 k p_x p_r => ?_)
  · obtain ⟨I_S_5, G_S_5, p_r⟩ := p_r
    have F_S_5 := Fr.tr F_S G_S_5 rfl
    have p_r : (((0 : Nat) = 0 ∨ (0 : Nat) = 3 ∨ (0 : Nat) = 1 ∨ (0 : Nat) = 2)) := p_r
    refine Sf.g (by decide) ?_
    refine Sf.j I_S_5 F_S_5 (fun S_9 I_S_9 F_S_9 l_S_9 => ?_)
    exact Sf.so ⟨I_S_9, F_S_9, trivial⟩
  · obtain ⟨I_S_5, G_S_5, p_r⟩ := p_r
    have F_S_5 := Fr.tr F_S G_S_5 rfl
    have p_r : (((k + 1) = 0 ∨ (k + 1) = 3 ∨ (k + 1) = 1 ∨ (k + 1) = 2)) := p_r
    generalize hk : k + 1 = k_5 at p_r ⊢
    refine Sf.i (fun c_h3 => ?_) (fun c_h3 => ?_)
    · exact Sf.so ⟨I_S_5, F_S_5, trivial⟩
    · refine Sf.i (fun c_h4 => ?_) (fun c_h4 => ?_)
      · exact Sf.so ⟨I_S_5, F_S_5, trivial⟩
      · refine Sf.i (fun c_h5 => ?_) (fun c_h5 => ?_)
        · exact Sf.so ⟨I_S_5, F_S_5, trivial⟩
        · exfalso; omega
theorem s_fL_record (fu : Nat) (hfu : 1000000000000000000 ≤ fu) (x1 : Int32) (x2 : Int32) (x3 : Int32) (x4 : Int32) (x5 : Int32) (S : St) (I_S : Inv S) : Sf (fL_record fu x1 x2 x3 x4 x5 S) (fun U r => Inv U ∧ Fr [(10, 10), (13, 0), (14, 0), (15, 0), (16, 0), (17, 0)] S U ∧ (True)) := by
  unfold fL_record
  have F_S : Fr [(10, 10), (13, 0), (14, 0), (15, 0), (16, 0), (17, 0)] S S := Fr.refl _ _
  have h1 := i32 x1
  have h2 := i32 x2
  have h3 := i32 x3
  have h4 := i32 x4
  have h5 := i32 x5
  refine Sf.c (s_fX11_record fu hfu x1 x2 x3 x4 x5 S I_S) (fun S_11 r_11 p_r => ?_) (fun S_11 k p_x p_r => ?_)
  · obtain ⟨I_S_11, G_S_11, p_r⟩ := p_r
    have F_S_11 := Fr.tr F_S G_S_11 rfl
    have p_r : (((0 : Nat) = 0 ∨ (0 : Nat) = 3 ∨ (0 : Nat) = 1 ∨ (0 : Nat) = 2)) := p_r
    refine Sf.g (by decide) ?_
    refine Sf.j I_S_11 F_S_11 (fun S_15 I_S_15 F_S_15 l_S_15 => ?_)
    exact Sf.so ⟨I_S_15, F_S_15, trivial⟩
  · obtain ⟨I_S_11, G_S_11, p_r⟩ := p_r
    have F_S_11 := Fr.tr F_S G_S_11 rfl
    have p_r : (((k + 1) = 0 ∨ (k + 1) = 3 ∨ (k + 1) = 1 ∨ (k + 1) = 2)) := p_r
    generalize hk : k + 1 = k_11 at p_r ⊢
    refine Sf.i (fun c_h6 => ?_) (fun c_h6 => ?_)
    · exact Sf.so ⟨I_S_11, F_S_11, trivial⟩
    · refine Sf.i (fun c_h7 => ?_) (fun c_h7 => ?_)
      · exact Sf.so ⟨I_S_11, F_S_11, trivial⟩
      · refine Sf.i (fun c_h8 => ?_) (fun c_h8 => ?_)
        · exact Sf.so ⟨I_S_11, F_S_11, trivial⟩
        · exfalso; omega
theorem s_fL_drop (fu : Nat) (hfu : 1000000000000000000 ≤ fu) (x1 : Int32) (x2 : Int32) (x3 : Int32) (S : St) (I_S : Inv S) : Sf (fL_drop fu x1 x2 x3 S) (fun U r => Inv U ∧ Fr [(10, 10), (13, 0), (14, 0), (15, 0), (16, 0), (17, 0)] S U ∧ (True)) := by
  unfold fL_drop
  have F_S : Fr [(10, 10), (13, 0), (14, 0), (15, 0), (16, 0), (17, 0)] S S := Fr.refl _ _
  have h1 := i32 x1
  have h2 := i32 x2
  have h3 := i32 x3
  refine Sf.c (s_fX11_drop fu hfu x1 x2 x3 S I_S) (fun S_7 r_7 p_r => ?_) (fun S_7 k p_x p_r => ?_)
  · obtain ⟨I_S_7, G_S_7, p_r⟩ := p_r
    have F_S_7 := Fr.tr F_S G_S_7 rfl
    have p_r : (((0 : Nat) = 0 ∨ (0 : Nat) = 3)) := p_r
    refine Sf.g (by decide) ?_
    refine Sf.j I_S_7 F_S_7 (fun S_11 I_S_11 F_S_11 l_S_11 => ?_)
    exact Sf.so ⟨I_S_11, F_S_11, trivial⟩
  · obtain ⟨I_S_7, G_S_7, p_r⟩ := p_r
    have F_S_7 := Fr.tr F_S G_S_7 rfl
    have p_r : (((k + 1) = 0 ∨ (k + 1) = 3)) := p_r
    generalize hk : k + 1 = k_7 at p_r ⊢
    refine Sf.i (fun c_h4 => ?_) (fun c_h4 => ?_)
    · exact Sf.so ⟨I_S_7, F_S_7, trivial⟩
    · exfalso; omega
theorem s_fL_server (fu : Nat) (hfu : 1000000000000000000 ≤ fu) (x1 : Int32) (S : St) (I_S : Inv S) : Sf (fL_server fu x1 S) (fun U r => Inv U ∧ Fr [(23, 5), (24, 0), (25, 0)] S U ∧ (True)) := by
  unfold fL_server
  have F_S : Fr [(23, 5), (24, 0), (25, 0)] S S := Fr.refl _ _
  have h1 := i32 x1
  refine Sf.c (s_fX11_server fu hfu x1 S I_S) (fun S_4 r_4 p_r => ?_) (fun S_4 k p_x p_r => ?_)
  · obtain ⟨I_S_4, G_S_4, p_r⟩ := p_r
    have F_S_4 := Fr.tr F_S G_S_4 rfl
    have p_r : (((0 : Nat) = 0 ∨ (0 : Nat) = 1 ∨ (0 : Nat) = 2)) := p_r
    refine Sf.g (by decide) ?_
    refine Sf.j I_S_4 F_S_4 (fun S_8 I_S_8 F_S_8 l_S_8 => ?_)
    exact Sf.so ⟨I_S_8, F_S_8, trivial⟩
  · obtain ⟨I_S_4, G_S_4, p_r⟩ := p_r
    have F_S_4 := Fr.tr F_S G_S_4 rfl
    have p_r : (((k + 1) = 0 ∨ (k + 1) = 1 ∨ (k + 1) = 2)) := p_r
    generalize hk : k + 1 = k_4 at p_r ⊢
    refine Sf.i (fun c_h2 => ?_) (fun c_h2 => ?_)
    · exact Sf.so ⟨I_S_4, F_S_4, trivial⟩
    · refine Sf.i (fun c_h3 => ?_) (fun c_h3 => ?_)
      · exact Sf.so ⟨I_S_4, F_S_4, trivial⟩
      · exfalso; omega
theorem s_fL_serve (fu : Nat) (hfu : 1000000000000000000 ≤ fu) (x1 : Int32) (x2 : Int32) (x3 : Int32) (S : St) (I_S : Inv S) : Sf (fL_serve fu x1 x2 x3 S) (fun U r => Inv U ∧ Fr [(25, 0)] S U ∧ (True)) := by
  unfold fL_serve
  have F_S : Fr [(25, 0)] S S := Fr.refl _ _
  have h1 := i32 x1
  have h2 := i32 x2
  have h3 := i32 x3
  refine Sf.c (s_fX11_serve fu hfu x1 x2 x3 S I_S) (fun S_7 r_7 p_r => ?_) (fun S_7 k p_x p_r => ?_)
  · obtain ⟨I_S_7, G_S_7, p_r⟩ := p_r
    have F_S_7 := Fr.tr F_S G_S_7 rfl
    have p_r : (((0 : Nat) = 0 ∨ (0 : Nat) = 3)) := p_r
    have h4 := i32 r_7
    refine Sf.i (fun c_h5 => ?_) (fun c_h5 => ?_)
    · have h6 := eq_iv rfl li_0 c_h5
      unfold fL_serve_18
      refine Sf.g (by decide) ?_
      refine Sf.j I_S_7 F_S_7 (fun S_18 I_S_18 F_S_18 l_S_18 => ?_)
      exact Sf.so ⟨I_S_18, F_S_18, trivial⟩
    · have h7 := neq_iv rfl li_0 c_h5
      unfold fL_serve_18
      refine Sf.g (by decide) ?_
      refine Sf.j I_S_7 F_S_7 (fun S_18 I_S_18 F_S_18 l_S_18 => ?_)
      exact Sf.so ⟨I_S_18, F_S_18, trivial⟩
  · obtain ⟨I_S_7, G_S_7, p_r⟩ := p_r
    have F_S_7 := Fr.tr F_S G_S_7 rfl
    have p_r : (((k + 1) = 0 ∨ (k + 1) = 3)) := p_r
    generalize hk : k + 1 = k_7 at p_r ⊢
    refine Sf.i (fun c_h8 => ?_) (fun c_h8 => ?_)
    · exact Sf.so ⟨I_S_7, F_S_7, trivial⟩
    · exfalso; omega
theorem s_fL_say (fu : Nat) (hfu : 1000000000000000000 ≤ fu) (x1 : Int32) (x2 : Int32) (x3 : Int32) (S : St) (I_S : Inv S) : Sf (fL_say fu x1 x2 x3 S) (fun U r => Inv U ∧ Fr [(1, 2), (1, 3), (2, 0), (19, 2), (19, 3), (20, 0), (21, 0), (22, 0)] S U ∧ (True)) := by
  unfold fL_say
  have F_S : Fr [(1, 2), (1, 3), (2, 0), (19, 2), (19, 3), (20, 0), (21, 0), (22, 0)] S S := Fr.refl _ _
  have h1 := i32 x1
  have h2 := i32 x2
  have h3 := i32 x3
  refine Sf.c (s_fX11_say fu hfu x1 x2 x3 S I_S) (fun S_7 r_7 p_r => ?_) (fun S_7 k p_x p_r => ?_)
  · obtain ⟨I_S_7, G_S_7, p_r⟩ := p_r
    have F_S_7 := Fr.tr F_S G_S_7 rfl
    have p_r : (((0 : Nat) = 0 ∨ (0 : Nat) = 3)) := p_r
    refine Sf.g (by decide) ?_
    refine Sf.j I_S_7 F_S_7 (fun S_11 I_S_11 F_S_11 l_S_11 => ?_)
    exact Sf.so ⟨I_S_11, F_S_11, trivial⟩
  · obtain ⟨I_S_7, G_S_7, p_r⟩ := p_r
    have F_S_7 := Fr.tr F_S G_S_7 rfl
    have p_r : (((k + 1) = 0 ∨ (k + 1) = 3)) := p_r
    generalize hk : k + 1 = k_7 at p_r ⊢
    refine Sf.i (fun c_h4 => ?_) (fun c_h4 => ?_)
    · exact Sf.so ⟨I_S_7, F_S_7, trivial⟩
    · exfalso; omega
theorem s_fL_parsed (fu : Nat) (hfu : 1000000000000000000 ≤ fu) (x1 : Int32) (x2 : Int32) (S : St) (I_S : Inv S) : Sf (fL_parsed fu x1 x2 S) (fun U r => Inv U ∧ Fr [] S U ∧ (True)) := by
  unfold fL_parsed
  have F_S : Fr [] S S := Fr.refl _ _
  have h1 := i32 x1
  have h2 := i32 x2
  refine Sf.cp (s_fX11_parsed fu hfu x1 x2 S I_S) (fun r_5 p_r => ?_) (fun k p_x p_r => ?_)
  · have p_r : (((0 : Nat) = 0 ∨ (0 : Nat) = 4)) := p_r
    refine Sf.g (by decide) ?_
    refine Sf.j I_S F_S (fun S_9 I_S_9 F_S_9 l_S_9 => ?_)
    exact Sf.so ⟨I_S_9, F_S_9, trivial⟩
  · have p_r : (((k + 1) = 0 ∨ (k + 1) = 4)) := p_r
    generalize hk : k + 1 = k_5 at p_r ⊢
    refine Sf.i (fun c_h3 => ?_) (fun c_h3 => ?_)
    · exact Sf.so ⟨I_S, F_S, trivial⟩
    · exfalso; omega
theorem s_fL_tick (fu : Nat) (hfu : 1000000000000000000 ≤ fu) (x1 : Int32) (S : St) (I_S : Inv S) : Sf (fL_tick fu x1 S) (fun U r => Inv U ∧ Fr [(42, 9)] S U ∧ (True)) := by
  unfold fL_tick
  have F_S : Fr [(42, 9)] S S := Fr.refl _ _
  have h1 := i32 x1
  refine Sf.c (s_fX11_tick fu hfu x1 S I_S) (fun S_4 r_4 p_r => ?_) (fun S_4 k p_x p_r => ?_)
  · obtain ⟨I_S_4, G_S_4, p_r⟩ := p_r
    have F_S_4 := Fr.tr F_S G_S_4 rfl
    have p_r : (((0 : Nat) = 0 ∨ (0 : Nat) = 1)) := p_r
    refine Sf.g (by decide) ?_
    refine Sf.j I_S_4 F_S_4 (fun S_8 I_S_8 F_S_8 l_S_8 => ?_)
    exact Sf.so ⟨I_S_8, F_S_8, trivial⟩
  · obtain ⟨I_S_4, G_S_4, p_r⟩ := p_r
    have F_S_4 := Fr.tr F_S G_S_4 rfl
    have p_r : (((k + 1) = 0 ∨ (k + 1) = 1)) := p_r
    generalize hk : k + 1 = k_4 at p_r ⊢
    refine Sf.i (fun c_h2 => ?_) (fun c_h2 => ?_)
    · exact Sf.so ⟨I_S_4, F_S_4, trivial⟩
    · exfalso; omega
theorem s_fL_ask (fu : Nat) (hfu : 1000000000000000000 ≤ fu) (x1 : Int32) (x2 : Int32) (S : St) (I_S : Inv S) : Sf (fL_ask fu x1 x2 S) (fun U r => Inv U ∧ Fr [(49, 6), (49, 7), (49, 8), (49, 9), (49, 10), (49, 12), (50, 9), (50, 10), (51, 0), (52, 0), (53, 0), (54, 0), (55, 0), (56, 0), (57, 0), (58, 0), (60, 0)] S U ∧ (True)) := by
  unfold fL_ask
  have F_S : Fr [(49, 6), (49, 7), (49, 8), (49, 9), (49, 10), (49, 12), (50, 9), (50, 10), (51, 0), (52, 0), (53, 0), (54, 0), (55, 0), (56, 0), (57, 0), (58, 0), (60, 0)] S S := Fr.refl _ _
  have h1 := i32 x1
  have h2 := i32 x2
  refine Sf.c (s_fX11_ask fu hfu x1 x2 S I_S) (fun S_5 r_5 p_r => ?_) (fun S_5 k p_x p_r => ?_)
  · obtain ⟨I_S_5, G_S_5, p_r⟩ := p_r
    have F_S_5 := Fr.tr F_S G_S_5 rfl
    have p_r : (((0 : Nat) = 0 ∨ (0 : Nat) = 3 ∨ (0 : Nat) = 5 ∨ (0 : Nat) = 1)) := p_r
    refine Sf.g (by decide) ?_
    refine Sf.j I_S_5 F_S_5 (fun S_9 I_S_9 F_S_9 l_S_9 => ?_)
    exact Sf.so ⟨I_S_9, F_S_9, trivial⟩
  · obtain ⟨I_S_5, G_S_5, p_r⟩ := p_r
    have F_S_5 := Fr.tr F_S G_S_5 rfl
    have p_r : (((k + 1) = 0 ∨ (k + 1) = 3 ∨ (k + 1) = 5 ∨ (k + 1) = 1)) := p_r
    generalize hk : k + 1 = k_5 at p_r ⊢
    refine Sf.i (fun c_h3 => ?_) (fun c_h3 => ?_)
    · exact Sf.so ⟨I_S_5, F_S_5, trivial⟩
    · refine Sf.i (fun c_h4 => ?_) (fun c_h4 => ?_)
      · exact Sf.so ⟨I_S_5, F_S_5, trivial⟩
      · refine Sf.i (fun c_h5 => ?_) (fun c_h5 => ?_)
        · exact Sf.so ⟨I_S_5, F_S_5, trivial⟩
        · exfalso; omega
theorem s_fL_step (fu : Nat) (hfu : 1000000000000000000 ≤ fu) (S : St) (I_S : Inv S) : Sf (fL_step fu S) (fun U r => Inv U ∧ Fr [(3, 4), (4, 0), (6, 0), (19, 2), (19, 3), (20, 0), (21, 0), (22, 0), (26, 4), (26, 5), (26, 6), (26, 7), (26, 8), (26, 9), (26, 10), (27, 3), (29, 0), (30, 6), (31, 0), (32, 0), (33, 0), (34, 0), (35, 0), (42, 7), (42, 8), (43, 0), (44, 0), (46, 0), (47, 0), (48, 0), (49, 6), (49, 7), (49, 8), (49, 9), (49, 10), (49, 12), (50, 9), (50, 10), (51, 0), (52, 0), (53, 0), (54, 0), (55, 0), (56, 0), (57, 0), (58, 0), (60, 0), (61, 0), (62, 0)] S U ∧ (True)) := by
  unfold fL_step
  have F_S : Fr [(3, 4), (4, 0), (6, 0), (19, 2), (19, 3), (20, 0), (21, 0), (22, 0), (26, 4), (26, 5), (26, 6), (26, 7), (26, 8), (26, 9), (26, 10), (27, 3), (29, 0), (30, 6), (31, 0), (32, 0), (33, 0), (34, 0), (35, 0), (42, 7), (42, 8), (43, 0), (44, 0), (46, 0), (47, 0), (48, 0), (49, 6), (49, 7), (49, 8), (49, 9), (49, 10), (49, 12), (50, 9), (50, 10), (51, 0), (52, 0), (53, 0), (54, 0), (55, 0), (56, 0), (57, 0), (58, 0), (60, 0), (61, 0), (62, 0)] S S := Fr.refl _ _
  refine Sf.c (s_fX11_step fu hfu S I_S) (fun S_3 r_3 p_r => ?_) (fun S_3 k p_x p_r => ?_)
  · obtain ⟨I_S_3, G_S_3, p_r⟩ := p_r
    have F_S_3 := Fr.tr F_S G_S_3 rfl
    have p_r : (((0 : Nat) = 0 ∨ (0 : Nat) = 5)) := p_r
    refine Sf.g (by decide) ?_
    refine Sf.j I_S_3 F_S_3 (fun S_7 I_S_7 F_S_7 l_S_7 => ?_)
    exact Sf.so ⟨I_S_7, F_S_7, trivial⟩
  · obtain ⟨I_S_3, G_S_3, p_r⟩ := p_r
    have F_S_3 := Fr.tr F_S G_S_3 rfl
    have p_r : (((k + 1) = 0 ∨ (k + 1) = 5)) := p_r
    generalize hk : k + 1 = k_3 at p_r ⊢
    refine Sf.i (fun c_h1 => ?_) (fun c_h1 => ?_)
    · exact Sf.so ⟨I_S_3, F_S_3, trivial⟩
    · exfalso; omega
theorem s_fL_lose (fu : Nat) (hfu : 1000000000000000000 ≤ fu) (S : St) (I_S : Inv S) : Sf (fL_lose fu S) (fun U r => Inv U ∧ Fr [(49, 6), (49, 7), (49, 8), (49, 9), (49, 10), (49, 12), (50, 9), (50, 10), (51, 0), (52, 0), (53, 0), (54, 0), (55, 0), (56, 0), (57, 0), (58, 0), (60, 0)] S U ∧ (True)) := by
  unfold fL_lose
  have F_S : Fr [(49, 6), (49, 7), (49, 8), (49, 9), (49, 10), (49, 12), (50, 9), (50, 10), (51, 0), (52, 0), (53, 0), (54, 0), (55, 0), (56, 0), (57, 0), (58, 0), (60, 0)] S S := Fr.refl _ _
  refine Sf.c (s_fX11_lose fu hfu S I_S) (fun S_3 r_3 p_r => ?_) (fun S_3 k p_x p_r => ?_)
  · obtain ⟨I_S_3, G_S_3, p_r⟩ := p_r
    have F_S_3 := Fr.tr F_S G_S_3 rfl
    have p_r : (((0 : Nat) = 0 ∨ (0 : Nat) = 5)) := p_r
    refine Sf.g (by decide) ?_
    refine Sf.j I_S_3 F_S_3 (fun S_7 I_S_7 F_S_7 l_S_7 => ?_)
    exact Sf.so ⟨I_S_7, F_S_7, trivial⟩
  · obtain ⟨I_S_3, G_S_3, p_r⟩ := p_r
    have F_S_3 := Fr.tr F_S G_S_3 rfl
    have p_r : (((k + 1) = 0 ∨ (k + 1) = 5)) := p_r
    generalize hk : k + 1 = k_3 at p_r ⊢
    refine Sf.i (fun c_h1 => ?_) (fun c_h1 => ?_)
    · exact Sf.so ⟨I_S_3, F_S_3, trivial⟩
    · exfalso; omega
theorem s_fL_forge (fu : Nat) (hfu : 1000000000000000000 ≤ fu) (S : St) (I_S : Inv S) : Sf (fL_forge fu S) (fun U r => Inv U ∧ Fr [(1, 2), (1, 3), (3, 4), (4, 0), (6, 0), (26, 4), (26, 5), (26, 6), (26, 7), (26, 8), (26, 9), (26, 10), (27, 3), (29, 0), (30, 6), (31, 0), (32, 0), (33, 0), (34, 0), (35, 0), (42, 7), (42, 8), (43, 0), (44, 0), (46, 0), (47, 0), (48, 0), (49, 6), (49, 7), (49, 8), (49, 9), (49, 10), (49, 12), (50, 9), (50, 10), (51, 0), (52, 0), (53, 0), (54, 0), (55, 0), (56, 0), (57, 0), (58, 0), (60, 0), (61, 0), (62, 0)] S U ∧ (True)) := by
  unfold fL_forge
  have F_S : Fr [(1, 2), (1, 3), (3, 4), (4, 0), (6, 0), (26, 4), (26, 5), (26, 6), (26, 7), (26, 8), (26, 9), (26, 10), (27, 3), (29, 0), (30, 6), (31, 0), (32, 0), (33, 0), (34, 0), (35, 0), (42, 7), (42, 8), (43, 0), (44, 0), (46, 0), (47, 0), (48, 0), (49, 6), (49, 7), (49, 8), (49, 9), (49, 10), (49, 12), (50, 9), (50, 10), (51, 0), (52, 0), (53, 0), (54, 0), (55, 0), (56, 0), (57, 0), (58, 0), (60, 0), (61, 0), (62, 0)] S S := Fr.refl _ _
  refine Sf.c (s_fX11_forge fu hfu S I_S) (fun S_3 r_3 p_r => ?_) (fun S_3 k p_x p_r => ?_)
  · obtain ⟨I_S_3, G_S_3, p_r⟩ := p_r
    have F_S_3 := Fr.tr F_S G_S_3 rfl
    have p_r : (((0 : Nat) = 0 ∨ (0 : Nat) = 5)) := p_r
    refine Sf.g (by decide) ?_
    refine Sf.j I_S_3 F_S_3 (fun S_7 I_S_7 F_S_7 l_S_7 => ?_)
    exact Sf.so ⟨I_S_7, F_S_7, trivial⟩
  · obtain ⟨I_S_3, G_S_3, p_r⟩ := p_r
    have F_S_3 := Fr.tr F_S G_S_3 rfl
    have p_r : (((k + 1) = 0 ∨ (k + 1) = 5)) := p_r
    generalize hk : k + 1 = k_3 at p_r ⊢
    refine Sf.i (fun c_h1 => ?_) (fun c_h1 => ?_)
    · exact Sf.so ⟨I_S_3, F_S_3, trivial⟩
    · exfalso; omega
theorem s_fL_query (fu : Nat) (hfu : 1000000000000000000 ≤ fu) (x1 : Int32) (S : St) (I_S : Inv S) : Sf (fL_query fu x1 S) (fun U r => Inv U ∧ Fr [] S U ∧ (True)) := by
  unfold fL_query
  have F_S : Fr [] S S := Fr.refl _ _
  have h1 := i32 x1
  refine Sf.cp (s_fX11_query fu hfu x1 S I_S) (fun r_4 p_r => ?_) (fun k p_x p_r => ?_)
  · have p_r : (((0 : Nat) = 0 ∨ (0 : Nat) = 5 ∨ (0 : Nat) = 4)) := p_r
    refine Sf.g (by decide) ?_
    refine Sf.j I_S F_S (fun S_8 I_S_8 F_S_8 l_S_8 => ?_)
    exact Sf.so ⟨I_S_8, F_S_8, trivial⟩
  · have p_r : (((k + 1) = 0 ∨ (k + 1) = 5 ∨ (k + 1) = 4)) := p_r
    generalize hk : k + 1 = k_4 at p_r ⊢
    refine Sf.i (fun c_h2 => ?_) (fun c_h2 => ?_)
    · exact Sf.so ⟨I_S, F_S, trivial⟩
    · refine Sf.i (fun c_h3 => ?_) (fun c_h3 => ?_)
      · exact Sf.so ⟨I_S, F_S, trivial⟩
      · exfalso; omega
theorem s_fL_result (fu : Nat) (hfu : 1000000000000000000 ≤ fu) (x1 : Int32) (S : St) (I_S : Inv S) : Sf (fL_result fu x1 S) (fun U r => Inv U ∧ Fr [] S U ∧ (True)) := by
  unfold fL_result
  have F_S : Fr [] S S := Fr.refl _ _
  have h1 := i32 x1
  refine Sf.cp (s_fX11_result fu hfu x1 S I_S) (fun r_4 p_r => ?_) (fun k p_x p_r => ?_)
  · have p_r : (((0 : Nat) = 0 ∨ (0 : Nat) = 4)) := p_r
    refine Sf.g (by decide) ?_
    refine Sf.j I_S F_S (fun S_8 I_S_8 F_S_8 l_S_8 => ?_)
    exact Sf.so ⟨I_S_8, F_S_8, trivial⟩
  · have p_r : (((k + 1) = 0 ∨ (k + 1) = 4)) := p_r
    generalize hk : k + 1 = k_4 at p_r ⊢
    refine Sf.i (fun c_h2 => ?_) (fun c_h2 => ?_)
    · exact Sf.so ⟨I_S, F_S, trivial⟩
    · exfalso; omega
theorem s_fL_cached (fu : Nat) (hfu : 1000000000000000000 ≤ fu) (x1 : Int32) (x2 : Int32) (S : St) (I_S : Inv S) : Sf (fL_cached fu x1 x2 S) (fun U r => Inv U ∧ Fr [] S U ∧ (True)) := by
  unfold fL_cached
  have F_S : Fr [] S S := Fr.refl _ _
  have h1 := i32 x1
  have h2 := i32 x2
  refine Sf.cp (s_fX11_cached fu hfu x1 x2 S I_S) (fun r_5 p_r => ?_) (fun k p_x p_r => ?_)
  · have p_r : (((0 : Nat) = 0 ∨ (0 : Nat) = 3)) := p_r
    refine Sf.g (by decide) ?_
    refine Sf.j I_S F_S (fun S_9 I_S_9 F_S_9 l_S_9 => ?_)
    exact Sf.so ⟨I_S_9, F_S_9, trivial⟩
  · have p_r : (((k + 1) = 0 ∨ (k + 1) = 3)) := p_r
    generalize hk : k + 1 = k_5 at p_r ⊢
    refine Sf.i (fun c_h3 => ?_) (fun c_h3 => ?_)
    · exact Sf.so ⟨I_S, F_S, trivial⟩
    · exfalso; omega
