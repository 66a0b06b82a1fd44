def EE (S : St) : Prop := S.1 23 4 = S.1 63 23 ∧ ∀ b : Nat, (b : Int) < (S.1 63 23).toInt → S.1 24 b = S.1 79 b
theorem EE_fr {S U : St} (h : EE S) (e1 : U.1 23 4 = S.1 23 4) (e2 : U.1 63 23 = S.1 63 23) (e3 : ∀ b, U.1 24 b = S.1 24 b) (e4 : ∀ b, U.1 79 b = S.1 79 b) : EE U := by
  refine ⟨by rw [e1, e2]; exact h.1, fun b hb => ?_⟩
  rw [e2] at hb
  rw [e3, e4]; exact h.2 b hb
set_option maxHeartbeats 4000000 in
theorem s_fc_0 (fu : Nat) (hfu : 1000000000000000000 ≤ fu) (a1 : Int32) (a2 : Int32) (a3 : Int32) (a4 : Int32) (a5 : Int32) (S : St) (I_S : Inv S) (RD_S : RD S) (RK_S : RK S) (TQ_S : TQ S) (RO_S : RO S) (EE_S : EE S) : Sf (fc_0 fu a1 a2 a3 a4 a5 S) (fun U r => Inv U ∧ Fr [(1, 2), (1, 3), (2, 0), (63, 1), (63, 11), (70, 0), (71, 0)] S U ∧ ((r.toInt = 1)) ∧ RD U ∧ RK U ∧ TQ U ∧ RO U ∧ EE U) := by
  unfold fc_0
  have F_S : Fr [(1, 2), (1, 3), (2, 0), (63, 1), (63, 11), (70, 0), (71, 0)] S S := Fr.refl _ _
  refine Sf.b (s_fX11_feed fu hfu a1 a2 a3 a4 a5 S I_S) (fun S_187 r_187 p_r_187 => ?_)
  obtain ⟨I_S_187, G_S_187, p_r_187⟩ := p_r_187
  have F_S_187 := Fr.tr F_S G_S_187 rfl
  have EE_S_187 := EE_fr (U := S_187) EE_S (G_S_187 23 4 rfl) (G_S_187 63 23 rfl) (fun b => G_S_187 24 b rfl) (fun b => G_S_187 79 b rfl)
  have RD_S_187 := RD_fr (U := S_187) RD_S (G_S_187 63 20 rfl) (fun b => G_S_187 76 b rfl) (fun b => G_S_187 77 b rfl)
  have RK_S_187 := RK_fr (U := S_187) RK_S (G_S_187 63 50 rfl) (fun b => G_S_187 92 b rfl) (fun b => G_S_187 93 b rfl) (fun b => G_S_187 94 b rfl)
  have RO_S_187 := RO_fr (U := S_187) RO_S (G_S_187 63 67 rfl) (G_S_187 63 62 rfl) (fun b => G_S_187 100 b rfl)
  have TQ_S_187 := TQ_fr (U := S_187) TQ_S (G_S_187 63 62 rfl) (G_S_187 63 65 rfl) (fun b => G_S_187 102 b rfl)
  refine Sf.b (s_fX12_feed fu hfu a1 a2 a3 a4 a5 S_187 I_S_187) (fun S_222 r_222 p_r_222 => ?_)
  obtain ⟨I_S_222, G_S_222, p_r_222⟩ := p_r_222
  have F_S_222 := Fr.tr F_S_187 G_S_222 rfl
  have EE_S_222 := EE_fr (U := S_222) EE_S_187 (G_S_222 23 4 rfl) (G_S_222 63 23 rfl) (fun b => G_S_222 24 b rfl) (fun b => G_S_222 79 b rfl)
  have RD_S_222 := RD_fr (U := S_222) RD_S_187 (G_S_222 63 20 rfl) (fun b => G_S_222 76 b rfl) (fun b => G_S_222 77 b rfl)
  have RK_S_222 := RK_fr (U := S_222) RK_S_187 (G_S_222 63 50 rfl) (fun b => G_S_222 92 b rfl) (fun b => G_S_222 93 b rfl) (fun b => G_S_222 94 b rfl)
  have RO_S_222 := RO_fr (U := S_222) RO_S_187 (G_S_222 63 67 rfl) (G_S_222 63 62 rfl) (fun b => G_S_222 100 b rfl)
  have TQ_S_222 := TQ_fr (U := S_222) TQ_S_187 (G_S_222 63 62 rfl) (G_S_222 63 65 rfl) (fun b => G_S_222 102 b rfl)
  have h1 : ((1 : Int32)).toInt = 1 := li_1
  exact Sf.so ⟨I_S_222, F_S_222, by omega, RD_S_222, RK_S_222, TQ_S_222, RO_S_222, EE_S_222⟩
set_option maxHeartbeats 4000000 in
theorem s_fc_1 (fu : Nat) (hfu : 1000000000000000000 ≤ fu) (a1 : Int32) (a2 : Int32) (a3 : Int32) (a4 : Int32) (a5 : Int32) (S : St) (I_S : Inv S) (RD_S : RD S) (RK_S : RK S) (TQ_S : TQ S) (RO_S : RO S) (EE_S : EE S) : Sf (fc_1 fu a1 a2 a3 a4 a5 S) (fun U r => Inv U ∧ Fr [(1, 2), (63, 1), (63, 11)] S U ∧ ((r.toInt = 1)) ∧ RD U ∧ RK U ∧ TQ U ∧ RO U ∧ EE U) := by
  unfold fc_1
  have F_S : Fr [(1, 2), (63, 1), (63, 11)] S S := Fr.refl _ _
  refine Sf.b (s_fX11_end fu hfu a1 S I_S) (fun S_236 r_236 p_r_236 => ?_)
  obtain ⟨I_S_236, G_S_236, p_r_236⟩ := p_r_236
  have F_S_236 := Fr.tr F_S G_S_236 rfl
  have EE_S_236 := EE_fr (U := S_236) EE_S (G_S_236 23 4 rfl) (G_S_236 63 23 rfl) (fun b => G_S_236 24 b rfl) (fun b => G_S_236 79 b rfl)
  have RD_S_236 := RD_fr (U := S_236) RD_S (G_S_236 63 20 rfl) (fun b => G_S_236 76 b rfl) (fun b => G_S_236 77 b rfl)
  have RK_S_236 := RK_fr (U := S_236) RK_S (G_S_236 63 50 rfl) (fun b => G_S_236 92 b rfl) (fun b => G_S_236 93 b rfl) (fun b => G_S_236 94 b rfl)
  have RO_S_236 := RO_fr (U := S_236) RO_S (G_S_236 63 67 rfl) (G_S_236 63 62 rfl) (fun b => G_S_236 100 b rfl)
  have TQ_S_236 := TQ_fr (U := S_236) TQ_S (G_S_236 63 62 rfl) (G_S_236 63 65 rfl) (fun b => G_S_236 102 b rfl)
  refine Sf.b (s_fX12_end fu hfu a1 S_236 I_S_236) (fun S_247 r_247 p_r_247 => ?_)
  obtain ⟨I_S_247, G_S_247, p_r_247⟩ := p_r_247
  have F_S_247 := Fr.tr F_S_236 G_S_247 rfl
  have EE_S_247 := EE_fr (U := S_247) EE_S_236 (G_S_247 23 4 rfl) (G_S_247 63 23 rfl) (fun b => G_S_247 24 b rfl) (fun b => G_S_247 79 b rfl)
  have RD_S_247 := RD_fr (U := S_247) RD_S_236 (G_S_247 63 20 rfl) (fun b => G_S_247 76 b rfl) (fun b => G_S_247 77 b rfl)
  have RK_S_247 := RK_fr (U := S_247) RK_S_236 (G_S_247 63 50 rfl) (fun b => G_S_247 92 b rfl) (fun b => G_S_247 93 b rfl) (fun b => G_S_247 94 b rfl)
  have RO_S_247 := RO_fr (U := S_247) RO_S_236 (G_S_247 63 67 rfl) (G_S_247 63 62 rfl) (fun b => G_S_247 100 b rfl)
  have TQ_S_247 := TQ_fr (U := S_247) TQ_S_236 (G_S_247 63 62 rfl) (G_S_247 63 65 rfl) (fun b => G_S_247 102 b rfl)
  have h1 : ((1 : Int32)).toInt = 1 := li_1
  exact Sf.so ⟨I_S_247, F_S_247, by omega, RD_S_247, RK_S_247, TQ_S_247, RO_S_247, EE_S_247⟩
set_option maxHeartbeats 4000000 in
theorem s_fc_2 (fu : Nat) (hfu : 1000000000000000000 ≤ fu) (a1 : Int32) (a2 : Int32) (a3 : Int32) (a4 : Int32) (a5 : Int32) (S : St) (I_S : Inv S) (RD_S : RD S) (RK_S : RK S) (TQ_S : TQ S) (RO_S : RO S) (EE_S : EE S) : Sf (fc_2 fu a1 a2 a3 a4 a5 S) (fun U r => Inv U ∧ Fr [(2, 0), (63, 1), (70, 0)] S U ∧ ((r.toInt = 1)) ∧ RD U ∧ RK U ∧ TQ U ∧ RO U ∧ EE U) := by
  unfold fc_2
  have F_S : Fr [(2, 0), (63, 1), (70, 0)] S S := Fr.refl _ _
  refine Sf.b (s_fX11_turn fu hfu a1 a2 S I_S) (fun S_267 r_267 p_r_267 => ?_)
  obtain ⟨I_S_267, G_S_267, p_r_267⟩ := p_r_267
  have F_S_267 := Fr.tr F_S G_S_267 rfl
  have EE_S_267 := EE_fr (U := S_267) EE_S (G_S_267 23 4 rfl) (G_S_267 63 23 rfl) (fun b => G_S_267 24 b rfl) (fun b => G_S_267 79 b rfl)
  have RD_S_267 := RD_fr (U := S_267) RD_S (G_S_267 63 20 rfl) (fun b => G_S_267 76 b rfl) (fun b => G_S_267 77 b rfl)
  have RK_S_267 := RK_fr (U := S_267) RK_S (G_S_267 63 50 rfl) (fun b => G_S_267 92 b rfl) (fun b => G_S_267 93 b rfl) (fun b => G_S_267 94 b rfl)
  have RO_S_267 := RO_fr (U := S_267) RO_S (G_S_267 63 67 rfl) (G_S_267 63 62 rfl) (fun b => G_S_267 100 b rfl)
  have TQ_S_267 := TQ_fr (U := S_267) TQ_S (G_S_267 63 62 rfl) (G_S_267 63 65 rfl) (fun b => G_S_267 102 b rfl)
  refine Sf.b (s_fX12_turn fu hfu a1 a2 S_267 I_S_267) (fun S_284 r_284 p_r_284 => ?_)
  obtain ⟨I_S_284, G_S_284, p_r_284⟩ := p_r_284
  have F_S_284 := Fr.tr F_S_267 G_S_284 rfl
  have EE_S_284 := EE_fr (U := S_284) EE_S_267 (G_S_284 23 4 rfl) (G_S_284 63 23 rfl) (fun b => G_S_284 24 b rfl) (fun b => G_S_284 79 b rfl)
  have RD_S_284 := RD_fr (U := S_284) RD_S_267 (G_S_284 63 20 rfl) (fun b => G_S_284 76 b rfl) (fun b => G_S_284 77 b rfl)
  have RK_S_284 := RK_fr (U := S_284) RK_S_267 (G_S_284 63 50 rfl) (fun b => G_S_284 92 b rfl) (fun b => G_S_284 93 b rfl) (fun b => G_S_284 94 b rfl)
  have RO_S_284 := RO_fr (U := S_284) RO_S_267 (G_S_284 63 67 rfl) (G_S_284 63 62 rfl) (fun b => G_S_284 100 b rfl)
  have TQ_S_284 := TQ_fr (U := S_284) TQ_S_267 (G_S_284 63 62 rfl) (G_S_284 63 65 rfl) (fun b => G_S_284 102 b rfl)
  have h1 : ((1 : Int32)).toInt = 1 := li_1
  exact Sf.so ⟨I_S_284, F_S_284, by omega, RD_S_284, RK_S_284, TQ_S_284, RO_S_284, EE_S_284⟩
set_option maxHeartbeats 4000000 in
theorem s_fc_3 (fu : Nat) (hfu : 1000000000000000000 ≤ fu) (a1 : Int32) (a2 : Int32) (a3 : Int32) (a4 : Int32) (a5 : Int32) (S : St) (I_S : Inv S) (RD_S : RD S) (RK_S : RK S) (TQ_S : TQ S) (RO_S : RO S) (EE_S : EE S) : Sf (fc_3 fu a1 a2 a3 a4 a5 S) (fun U r => Inv U ∧ Fr [(1, 2), (1, 3), (3, 4), (4, 0), (6, 0), (7, 3), (9, 0), (63, 1), (63, 6), (63, 9), (63, 11), (64, 0), (65, 0), (66, 0), (67, 0), (68, 0), (69, 0)] S U ∧ ((r.toInt = 1)) ∧ RD U ∧ RK U ∧ TQ U ∧ RO U ∧ EE U) := by
  unfold fc_3
  have F_S : Fr [(1, 2), (1, 3), (3, 4), (4, 0), (6, 0), (7, 3), (9, 0), (63, 1), (63, 6), (63, 9), (63, 11), (64, 0), (65, 0), (66, 0), (67, 0), (68, 0), (69, 0)] S S := Fr.refl _ _
  refine Sf.b (s_fL_name fu hfu S I_S) (fun S_293 r_293 p_r_293 => ?_)
  obtain ⟨I_S_293, G_S_293, p_r_293⟩ := p_r_293
  have F_S_293 := Fr.tr F_S G_S_293 rfl
  have EE_S_293 := EE_fr (U := S_293) EE_S (G_S_293 23 4 rfl) (G_S_293 63 23 rfl) (fun b => G_S_293 24 b rfl) (fun b => G_S_293 79 b rfl)
  have RD_S_293 := RD_fr (U := S_293) RD_S (G_S_293 63 20 rfl) (fun b => G_S_293 76 b rfl) (fun b => G_S_293 77 b rfl)
  have RK_S_293 := RK_fr (U := S_293) RK_S (G_S_293 63 50 rfl) (fun b => G_S_293 92 b rfl) (fun b => G_S_293 93 b rfl) (fun b => G_S_293 94 b rfl)
  have RO_S_293 := RO_fr (U := S_293) RO_S (G_S_293 63 67 rfl) (G_S_293 63 62 rfl) (fun b => G_S_293 100 b rfl)
  have TQ_S_293 := TQ_fr (U := S_293) TQ_S (G_S_293 63 62 rfl) (G_S_293 63 65 rfl) (fun b => G_S_293 102 b rfl)
  refine Sf.b (s_fX12_name fu hfu S_293 I_S_293) (fun S_299 r_299 p_r_299 => ?_)
  obtain ⟨I_S_299, G_S_299, p_r_299⟩ := p_r_299
  have F_S_299 := Fr.tr F_S_293 G_S_299 rfl
  have EE_S_299 := EE_fr (U := S_299) EE_S_293 (G_S_299 23 4 rfl) (G_S_299 63 23 rfl) (fun b => G_S_299 24 b rfl) (fun b => G_S_299 79 b rfl)
  have RD_S_299 := RD_fr (U := S_299) RD_S_293 (G_S_299 63 20 rfl) (fun b => G_S_299 76 b rfl) (fun b => G_S_299 77 b rfl)
  have RK_S_299 := RK_fr (U := S_299) RK_S_293 (G_S_299 63 50 rfl) (fun b => G_S_299 92 b rfl) (fun b => G_S_299 93 b rfl) (fun b => G_S_299 94 b rfl)
  have RO_S_299 := RO_fr (U := S_299) RO_S_293 (G_S_299 63 67 rfl) (G_S_299 63 62 rfl) (fun b => G_S_299 100 b rfl)
  have TQ_S_299 := TQ_fr (U := S_299) TQ_S_293 (G_S_299 63 62 rfl) (G_S_299 63 65 rfl) (fun b => G_S_299 102 b rfl)
  have h1 : ((1 : Int32)).toInt = 1 := li_1
  exact Sf.so ⟨I_S_299, F_S_299, by omega, RD_S_299, RK_S_299, TQ_S_299, RO_S_299, EE_S_299⟩
set_option maxHeartbeats 4000000 in
theorem s_fc_4 (fu : Nat) (hfu : 1000000000000000000 ≤ fu) (a1 : Int32) (a2 : Int32) (a3 : Int32) (a4 : Int32) (a5 : Int32) (S : St) (I_S : Inv S) (RD_S : RD S) (RK_S : RK S) (TQ_S : TQ S) (RO_S : RO S) (EE_S : EE S) : Sf (fc_4 fu a1 a2 a3 a4 a5 S) (fun U r => Inv U ∧ Fr [(63, 1)] S U ∧ ((r.toInt = 1)) ∧ RD U ∧ RK U ∧ TQ U ∧ RO U ∧ EE U) := by
  unfold fc_4
  have F_S : Fr [(63, 1)] S S := Fr.refl _ _
  refine Sf.b (s_fL_look fu hfu a1 a2 S I_S) (fun S_321 r_321 p_r_321 => ?_)
  obtain ⟨I_S_321, G_S_321, p_r_321⟩ := p_r_321
  have F_S_321 := Fr.tr F_S G_S_321 rfl
  have EE_S_321 := EE_fr (U := S_321) EE_S (G_S_321 23 4 rfl) (G_S_321 63 23 rfl) (fun b => G_S_321 24 b rfl) (fun b => G_S_321 79 b rfl)
  have RD_S_321 := RD_fr (U := S_321) RD_S (G_S_321 63 20 rfl) (fun b => G_S_321 76 b rfl) (fun b => G_S_321 77 b rfl)
  have RK_S_321 := RK_fr (U := S_321) RK_S (G_S_321 63 50 rfl) (fun b => G_S_321 92 b rfl) (fun b => G_S_321 93 b rfl) (fun b => G_S_321 94 b rfl)
  have RO_S_321 := RO_fr (U := S_321) RO_S (G_S_321 63 67 rfl) (G_S_321 63 62 rfl) (fun b => G_S_321 100 b rfl)
  have TQ_S_321 := TQ_fr (U := S_321) TQ_S (G_S_321 63 62 rfl) (G_S_321 63 65 rfl) (fun b => G_S_321 102 b rfl)
  refine Sf.b (s_fX12_look fu hfu a1 a2 S_321 I_S_321) (fun S_339 r_339 p_r_339 => ?_)
  obtain ⟨I_S_339, G_S_339, p_r_339⟩ := p_r_339
  have F_S_339 := Fr.tr F_S_321 G_S_339 rfl
  have EE_S_339 := EE_fr (U := S_339) EE_S_321 (G_S_339 23 4 rfl) (G_S_339 63 23 rfl) (fun b => G_S_339 24 b rfl) (fun b => G_S_339 79 b rfl)
  have RD_S_339 := RD_fr (U := S_339) RD_S_321 (G_S_339 63 20 rfl) (fun b => G_S_339 76 b rfl) (fun b => G_S_339 77 b rfl)
  have RK_S_339 := RK_fr (U := S_339) RK_S_321 (G_S_339 63 50 rfl) (fun b => G_S_339 92 b rfl) (fun b => G_S_339 93 b rfl) (fun b => G_S_339 94 b rfl)
  have RO_S_339 := RO_fr (U := S_339) RO_S_321 (G_S_339 63 67 rfl) (G_S_339 63 62 rfl) (fun b => G_S_339 100 b rfl)
  have TQ_S_339 := TQ_fr (U := S_339) TQ_S_321 (G_S_339 63 62 rfl) (G_S_339 63 65 rfl) (fun b => G_S_339 102 b rfl)
  have h1 : ((1 : Int32)).toInt = 1 := li_1
  exact Sf.so ⟨I_S_339, F_S_339, by omega, RD_S_339, RK_S_339, TQ_S_339, RO_S_339, EE_S_339⟩
set_option maxHeartbeats 4000000 in
theorem s_fc_5 (fu : Nat) (hfu : 1000000000000000000 ≤ fu) (a1 : Int32) (a2 : Int32) (a3 : Int32) (a4 : Int32) (a5 : Int32) (S : St) (I_S : Inv S) (RD_S : RD S) (RK_S : RK S) (TQ_S : TQ S) (RO_S : RO S) (EE_S : EE S) : Sf (fc_5 fu a1 a2 a3 a4 a5 S) (fun U r => Inv U ∧ Fr [(63, 1)] S U ∧ ((r.toInt = 1)) ∧ RD U ∧ RK U ∧ TQ U ∧ RO U ∧ EE U) := by
  unfold fc_5
  have F_S : Fr [(63, 1)] S S := Fr.refl _ _
  refine Sf.b (s_fL_text fu hfu a1 a2 S I_S) (fun S_361 r_361 p_r_361 => ?_)
  obtain ⟨I_S_361, G_S_361, p_r_361⟩ := p_r_361
  have F_S_361 := Fr.tr F_S G_S_361 rfl
  have EE_S_361 := EE_fr (U := S_361) EE_S (G_S_361 23 4 rfl) (G_S_361 63 23 rfl) (fun b => G_S_361 24 b rfl) (fun b => G_S_361 79 b rfl)
  have RD_S_361 := RD_fr (U := S_361) RD_S (G_S_361 63 20 rfl) (fun b => G_S_361 76 b rfl) (fun b => G_S_361 77 b rfl)
  have RK_S_361 := RK_fr (U := S_361) RK_S (G_S_361 63 50 rfl) (fun b => G_S_361 92 b rfl) (fun b => G_S_361 93 b rfl) (fun b => G_S_361 94 b rfl)
  have RO_S_361 := RO_fr (U := S_361) RO_S (G_S_361 63 67 rfl) (G_S_361 63 62 rfl) (fun b => G_S_361 100 b rfl)
  have TQ_S_361 := TQ_fr (U := S_361) TQ_S (G_S_361 63 62 rfl) (G_S_361 63 65 rfl) (fun b => G_S_361 102 b rfl)
  refine Sf.b (s_fX12_text fu hfu a1 a2 S_361 I_S_361) (fun S_379 r_379 p_r_379 => ?_)
  obtain ⟨I_S_379, G_S_379, p_r_379⟩ := p_r_379
  have F_S_379 := Fr.tr F_S_361 G_S_379 rfl
  have EE_S_379 := EE_fr (U := S_379) EE_S_361 (G_S_379 23 4 rfl) (G_S_379 63 23 rfl) (fun b => G_S_379 24 b rfl) (fun b => G_S_379 79 b rfl)
  have RD_S_379 := RD_fr (U := S_379) RD_S_361 (G_S_379 63 20 rfl) (fun b => G_S_379 76 b rfl) (fun b => G_S_379 77 b rfl)
  have RK_S_379 := RK_fr (U := S_379) RK_S_361 (G_S_379 63 50 rfl) (fun b => G_S_379 92 b rfl) (fun b => G_S_379 93 b rfl) (fun b => G_S_379 94 b rfl)
  have RO_S_379 := RO_fr (U := S_379) RO_S_361 (G_S_379 63 67 rfl) (G_S_379 63 62 rfl) (fun b => G_S_379 100 b rfl)
  have TQ_S_379 := TQ_fr (U := S_379) TQ_S_361 (G_S_379 63 62 rfl) (G_S_379 63 65 rfl) (fun b => G_S_379 102 b rfl)
  have h1 : ((1 : Int32)).toInt = 1 := li_1
  exact Sf.so ⟨I_S_379, F_S_379, by omega, RD_S_379, RK_S_379, TQ_S_379, RO_S_379, EE_S_379⟩
set_option maxHeartbeats 4000000 in
theorem s_fc_6 (fu : Nat) (hfu : 1000000000000000000 ≤ fu) (a1 : Int32) (a2 : Int32) (a3 : Int32) (a4 : Int32) (a5 : Int32) (S : St) (I_S : Inv S) (RD_S : RD S) (RK_S : RK S) (TQ_S : TQ S) (RO_S : RO S) (EE_S : EE S) : Sf (fc_6 fu a1 a2 a3 a4 a5 S) (fun U r => Inv U ∧ Fr [(10, 4), (11, 0), (12, 0), (63, 1), (63, 15), (72, 0), (73, 0)] S U ∧ ((r.toInt = 1)) ∧ RD U ∧ RK U ∧ TQ U ∧ RO U ∧ EE U) := by
  unfold fc_6
  have F_S : Fr [(10, 4), (11, 0), (12, 0), (63, 1), (63, 15), (72, 0), (73, 0)] S S := Fr.refl _ _
  refine Sf.b (s_fL_zone fu hfu a1 a2 S I_S) (fun S_401 r_401 p_r_401 => ?_)
  obtain ⟨I_S_401, G_S_401, p_r_401⟩ := p_r_401
  have F_S_401 := Fr.tr F_S G_S_401 rfl
  have EE_S_401 := EE_fr (U := S_401) EE_S (G_S_401 23 4 rfl) (G_S_401 63 23 rfl) (fun b => G_S_401 24 b rfl) (fun b => G_S_401 79 b rfl)
  have RD_S_401 := RD_fr (U := S_401) RD_S (G_S_401 63 20 rfl) (fun b => G_S_401 76 b rfl) (fun b => G_S_401 77 b rfl)
  have RK_S_401 := RK_fr (U := S_401) RK_S (G_S_401 63 50 rfl) (fun b => G_S_401 92 b rfl) (fun b => G_S_401 93 b rfl) (fun b => G_S_401 94 b rfl)
  have RO_S_401 := RO_fr (U := S_401) RO_S (G_S_401 63 67 rfl) (G_S_401 63 62 rfl) (fun b => G_S_401 100 b rfl)
  have TQ_S_401 := TQ_fr (U := S_401) TQ_S (G_S_401 63 62 rfl) (G_S_401 63 65 rfl) (fun b => G_S_401 102 b rfl)
  refine Sf.b (s_fX12_zone fu hfu a1 a2 S_401 I_S_401) (fun S_419 r_419 p_r_419 => ?_)
  obtain ⟨I_S_419, G_S_419, p_r_419⟩ := p_r_419
  have F_S_419 := Fr.tr F_S_401 G_S_419 rfl
  have EE_S_419 := EE_fr (U := S_419) EE_S_401 (G_S_419 23 4 rfl) (G_S_419 63 23 rfl) (fun b => G_S_419 24 b rfl) (fun b => G_S_419 79 b rfl)
  have RD_S_419 := RD_fr (U := S_419) RD_S_401 (G_S_419 63 20 rfl) (fun b => G_S_419 76 b rfl) (fun b => G_S_419 77 b rfl)
  have RK_S_419 := RK_fr (U := S_419) RK_S_401 (G_S_419 63 50 rfl) (fun b => G_S_419 92 b rfl) (fun b => G_S_419 93 b rfl) (fun b => G_S_419 94 b rfl)
  have RO_S_419 := RO_fr (U := S_419) RO_S_401 (G_S_419 63 67 rfl) (G_S_419 63 62 rfl) (fun b => G_S_419 100 b rfl)
  have TQ_S_419 := TQ_fr (U := S_419) TQ_S_401 (G_S_419 63 62 rfl) (G_S_419 63 65 rfl) (fun b => G_S_419 102 b rfl)
  have h1 : ((1 : Int32)).toInt = 1 := li_1
  exact Sf.so ⟨I_S_419, F_S_419, by omega, RD_S_419, RK_S_419, TQ_S_419, RO_S_419, EE_S_419⟩
set_option maxHeartbeats 4000000 in
theorem s_fc_7 (fu : Nat) (hfu : 1000000000000000000 ≤ fu) (a1 : Int32) (a2 : Int32) (a3 : Int32) (a4 : Int32) (a5 : Int32) (S : St) (I_S : Inv S) (RD_S : RD S) (RK_S : RK S) (TQ_S : TQ S) (RO_S : RO S) (EE_S : EE S) : Sf (fc_7 fu a1 a2 a3 a4 a5 S) (fun U r => Inv U ∧ Fr [(10, 10), (13, 0), (14, 0), (15, 0), (16, 0), (17, 0), (63, 1), (63, 21), (74, 0), (75, 0), (76, 0), (77, 0), (78, 0)] S U ∧ ((r.toInt = 1)) ∧ RD U ∧ RK U ∧ TQ U ∧ RO U ∧ EE U) := by
  unfold fc_7
  have F_S : Fr [(10, 10), (13, 0), (14, 0), (15, 0), (16, 0), (17, 0), (63, 1), (63, 21), (74, 0), (75, 0), (76, 0), (77, 0), (78, 0)] S S := Fr.refl _ _
  refine Sf.b (s_fL_record fu hfu a1 a2 a3 a4 a5 S I_S) (fun S_459 r_459 p_r_459 => ?_)
  obtain ⟨I_S_459, G_S_459, p_r_459⟩ := p_r_459
  have F_S_459 := Fr.tr F_S G_S_459 rfl
  have EE_S_459 := EE_fr (U := S_459) EE_S (G_S_459 23 4 rfl) (G_S_459 63 23 rfl) (fun b => G_S_459 24 b rfl) (fun b => G_S_459 79 b rfl)
  have RD_S_459 := RD_fr (U := S_459) RD_S (G_S_459 63 20 rfl) (fun b => G_S_459 76 b rfl) (fun b => G_S_459 77 b rfl)
  have RK_S_459 := RK_fr (U := S_459) RK_S (G_S_459 63 50 rfl) (fun b => G_S_459 92 b rfl) (fun b => G_S_459 93 b rfl) (fun b => G_S_459 94 b rfl)
  have RO_S_459 := RO_fr (U := S_459) RO_S (G_S_459 63 67 rfl) (G_S_459 63 62 rfl) (fun b => G_S_459 100 b rfl)
  have TQ_S_459 := TQ_fr (U := S_459) TQ_S (G_S_459 63 62 rfl) (G_S_459 63 65 rfl) (fun b => G_S_459 102 b rfl)
  refine Sf.b (s_fX12_record fu hfu a1 a2 a3 a4 a5 S_459 I_S_459 RD_S_459) (fun S_495 r_495 p_r_495 => ?_)
  obtain ⟨I_S_495, G_S_495, p_r_495, RD_S_495⟩ := p_r_495
  have F_S_495 := Fr.tr F_S_459 G_S_495 rfl
  have EE_S_495 := EE_fr (U := S_495) EE_S_459 (G_S_495 23 4 rfl) (G_S_495 63 23 rfl) (fun b => G_S_495 24 b rfl) (fun b => G_S_495 79 b rfl)
  have RK_S_495 := RK_fr (U := S_495) RK_S_459 (G_S_495 63 50 rfl) (fun b => G_S_495 92 b rfl) (fun b => G_S_495 93 b rfl) (fun b => G_S_495 94 b rfl)
  have RO_S_495 := RO_fr (U := S_495) RO_S_459 (G_S_495 63 67 rfl) (G_S_495 63 62 rfl) (fun b => G_S_495 100 b rfl)
  have TQ_S_495 := TQ_fr (U := S_495) TQ_S_459 (G_S_495 63 62 rfl) (G_S_495 63 65 rfl) (fun b => G_S_495 102 b rfl)
  have h1 : ((1 : Int32)).toInt = 1 := li_1
  exact Sf.so ⟨I_S_495, F_S_495, by omega, RD_S_495, RK_S_495, TQ_S_495, RO_S_495, EE_S_495⟩
set_option maxHeartbeats 4000000 in
theorem s_fc_8 (fu : Nat) (hfu : 1000000000000000000 ≤ fu) (a1 : Int32) (a2 : Int32) (a3 : Int32) (a4 : Int32) (a5 : Int32) (S : St) (I_S : Inv S) (RD_S : RD S) (RK_S : RK S) (TQ_S : TQ S) (RO_S : RO S) (EE_S : EE S) : Sf (fc_8 fu a1 a2 a3 a4 a5 S) (fun U r => Inv U ∧ Fr [(10, 10), (13, 0), (14, 0), (15, 0), (16, 0), (17, 0), (63, 1), (63, 21), (74, 0), (75, 0), (76, 0), (77, 0), (78, 0)] S U ∧ ((r.toInt = 1)) ∧ RD U ∧ RK U ∧ TQ U ∧ RO U ∧ EE U) := by
  unfold fc_8
  have F_S : Fr [(10, 10), (13, 0), (14, 0), (15, 0), (16, 0), (17, 0), (63, 1), (63, 21), (74, 0), (75, 0), (76, 0), (77, 0), (78, 0)] S S := Fr.refl _ _
  refine Sf.b (s_fL_drop fu hfu a1 a2 a3 S I_S) (fun S_523 r_523 p_r_523 => ?_)
  obtain ⟨I_S_523, G_S_523, p_r_523⟩ := p_r_523
  have F_S_523 := Fr.tr F_S G_S_523 rfl
  have EE_S_523 := EE_fr (U := S_523) EE_S (G_S_523 23 4 rfl) (G_S_523 63 23 rfl) (fun b => G_S_523 24 b rfl) (fun b => G_S_523 79 b rfl)
  have RD_S_523 := RD_fr (U := S_523) RD_S (G_S_523 63 20 rfl) (fun b => G_S_523 76 b rfl) (fun b => G_S_523 77 b rfl)
  have RK_S_523 := RK_fr (U := S_523) RK_S (G_S_523 63 50 rfl) (fun b => G_S_523 92 b rfl) (fun b => G_S_523 93 b rfl) (fun b => G_S_523 94 b rfl)
  have RO_S_523 := RO_fr (U := S_523) RO_S (G_S_523 63 67 rfl) (G_S_523 63 62 rfl) (fun b => G_S_523 100 b rfl)
  have TQ_S_523 := TQ_fr (U := S_523) TQ_S (G_S_523 63 62 rfl) (G_S_523 63 65 rfl) (fun b => G_S_523 102 b rfl)
  refine Sf.b (s_fX12_drop fu hfu a1 a2 a3 S_523 I_S_523 RD_S_523) (fun S_547 r_547 p_r_547 => ?_)
  obtain ⟨I_S_547, G_S_547, p_r_547, RD_S_547⟩ := p_r_547
  have F_S_547 := Fr.tr F_S_523 G_S_547 rfl
  have EE_S_547 := EE_fr (U := S_547) EE_S_523 (G_S_547 23 4 rfl) (G_S_547 63 23 rfl) (fun b => G_S_547 24 b rfl) (fun b => G_S_547 79 b rfl)
  have RK_S_547 := RK_fr (U := S_547) RK_S_523 (G_S_547 63 50 rfl) (fun b => G_S_547 92 b rfl) (fun b => G_S_547 93 b rfl) (fun b => G_S_547 94 b rfl)
  have RO_S_547 := RO_fr (U := S_547) RO_S_523 (G_S_547 63 67 rfl) (G_S_547 63 62 rfl) (fun b => G_S_547 100 b rfl)
  have TQ_S_547 := TQ_fr (U := S_547) TQ_S_523 (G_S_547 63 62 rfl) (G_S_547 63 65 rfl) (fun b => G_S_547 102 b rfl)
  have h1 : ((1 : Int32)).toInt = 1 := li_1
  exact Sf.so ⟨I_S_547, F_S_547, by omega, RD_S_547, RK_S_547, TQ_S_547, RO_S_547, EE_S_547⟩
set_option maxHeartbeats 4000000 in
theorem s_fc_10 (fu : Nat) (hfu : 1000000000000000000 ≤ fu) (a1 : Int32) (a2 : Int32) (a3 : Int32) (a4 : Int32) (a5 : Int32) (S : St) (I_S : Inv S) (RD_S : RD S) (RK_S : RK S) (TQ_S : TQ S) (RO_S : RO S) (EE_S : EE S) : Sf (fc_10 fu a1 a2 a3 a4 a5 S) (fun U r => Inv U ∧ Fr [(25, 0), (63, 1), (80, 0)] S U ∧ ((r.toInt = 1)) ∧ RD U ∧ RK U ∧ TQ U ∧ RO U ∧ EE U) := by
  unfold fc_10
  have F_S : Fr [(25, 0), (63, 1), (80, 0)] S S := Fr.refl _ _
  refine Sf.i (fun c_h1 => ?_) (fun c_h1 => ?_)
  · have h2 := eq_iv rfl li_0 c_h1
    unfold fc_10_638
    have h3 : ((0 : Int32)).toInt = 0 := li_0
    refine Sf.b (s_fL_serve fu hfu a1 a2 (0 : Int32) S I_S) (fun S_639 r_639 p_r_639 => ?_)
    obtain ⟨I_S_639, G_S_639, p_r_639⟩ := p_r_639
    have F_S_639 := Fr.tr F_S G_S_639 rfl
    have EE_S_639 := EE_fr (U := S_639) EE_S (G_S_639 23 4 rfl) (G_S_639 63 23 rfl) (fun b => G_S_639 24 b rfl) (fun b => G_S_639 79 b rfl)
    have RD_S_639 := RD_fr (U := S_639) RD_S (G_S_639 63 20 rfl) (fun b => G_S_639 76 b rfl) (fun b => G_S_639 77 b rfl)
    have RK_S_639 := RK_fr (U := S_639) RK_S (G_S_639 63 50 rfl) (fun b => G_S_639 92 b rfl) (fun b => G_S_639 93 b rfl) (fun b => G_S_639 94 b rfl)
    have RO_S_639 := RO_fr (U := S_639) RO_S (G_S_639 63 67 rfl) (G_S_639 63 62 rfl) (fun b => G_S_639 100 b rfl)
    have TQ_S_639 := TQ_fr (U := S_639) TQ_S (G_S_639 63 62 rfl) (G_S_639 63 65 rfl) (fun b => G_S_639 102 b rfl)
    refine Sf.i (fun c_h4 => ?_) (fun c_h4 => ?_)
    · have h5 := eq_iv rfl li_0 c_h4
      unfold fc_10_671
      refine Sf.b (s_fX12_serve fu hfu a1 a2 (0 : Int32) S_639 I_S_639) (fun S_671 r_671 p_r_671 => ?_)
      obtain ⟨I_S_671, G_S_671, p_r_671⟩ := p_r_671
      have F_S_671 := Fr.tr F_S_639 G_S_671 rfl
      have EE_S_671 := EE_fr (U := S_671) EE_S_639 (G_S_671 23 4 rfl) (G_S_671 63 23 rfl) (fun b => G_S_671 24 b rfl) (fun b => G_S_671 79 b rfl)
      have RD_S_671 := RD_fr (U := S_671) RD_S_639 (G_S_671 63 20 rfl) (fun b => G_S_671 76 b rfl) (fun b => G_S_671 77 b rfl)
      have RK_S_671 := RK_fr (U := S_671) RK_S_639 (G_S_671 63 50 rfl) (fun b => G_S_671 92 b rfl) (fun b => G_S_671 93 b rfl) (fun b => G_S_671 94 b rfl)
      have RO_S_671 := RO_fr (U := S_671) RO_S_639 (G_S_671 63 67 rfl) (G_S_671 63 62 rfl) (fun b => G_S_671 100 b rfl)
      have TQ_S_671 := TQ_fr (U := S_671) TQ_S_639 (G_S_671 63 62 rfl) (G_S_671 63 65 rfl) (fun b => G_S_671 102 b rfl)
      have h6 : ((1 : Int32)).toInt = 1 := li_1
      exact Sf.so ⟨I_S_671, F_S_671, by omega, RD_S_671, RK_S_671, TQ_S_671, RO_S_671, EE_S_671⟩
    · have h7 := neq_iv rfl li_0 c_h4
      unfold fc_10_671
      have h8 : ((1 : Int32)).toInt = 1 := li_1
      refine Sf.b (s_fX12_serve fu hfu a1 a2 (1 : Int32) S_639 I_S_639) (fun S_671 r_671 p_r_671 => ?_)
      obtain ⟨I_S_671, G_S_671, p_r_671⟩ := p_r_671
      have F_S_671 := Fr.tr F_S_639 G_S_671 rfl
      have EE_S_671 := EE_fr (U := S_671) EE_S_639 (G_S_671 23 4 rfl) (G_S_671 63 23 rfl) (fun b => G_S_671 24 b rfl) (fun b => G_S_671 79 b rfl)
      have RD_S_671 := RD_fr (U := S_671) RD_S_639 (G_S_671 63 20 rfl) (fun b => G_S_671 76 b rfl) (fun b => G_S_671 77 b rfl)
      have RK_S_671 := RK_fr (U := S_671) RK_S_639 (G_S_671 63 50 rfl) (fun b => G_S_671 92 b rfl) (fun b => G_S_671 93 b rfl) (fun b => G_S_671 94 b rfl)
      have RO_S_671 := RO_fr (U := S_671) RO_S_639 (G_S_671 63 67 rfl) (G_S_671 63 62 rfl) (fun b => G_S_671 100 b rfl)
      have TQ_S_671 := TQ_fr (U := S_671) TQ_S_639 (G_S_671 63 62 rfl) (G_S_671 63 65 rfl) (fun b => G_S_671 102 b rfl)
      have h9 : ((1 : Int32)).toInt = 1 := li_1
      exact Sf.so ⟨I_S_671, F_S_671, by omega, RD_S_671, RK_S_671, TQ_S_671, RO_S_671, EE_S_671⟩
  · have h10 := neq_iv rfl li_0 c_h1
    unfold fc_10_638
    have h11 : ((1 : Int32)).toInt = 1 := li_1
    refine Sf.b (s_fL_serve fu hfu a1 a2 (1 : Int32) S I_S) (fun S_639 r_639 p_r_639 => ?_)
    obtain ⟨I_S_639, G_S_639, p_r_639⟩ := p_r_639
    have F_S_639 := Fr.tr F_S G_S_639 rfl
    have EE_S_639 := EE_fr (U := S_639) EE_S (G_S_639 23 4 rfl) (G_S_639 63 23 rfl) (fun b => G_S_639 24 b rfl) (fun b => G_S_639 79 b rfl)
    have RD_S_639 := RD_fr (U := S_639) RD_S (G_S_639 63 20 rfl) (fun b => G_S_639 76 b rfl) (fun b => G_S_639 77 b rfl)
    have RK_S_639 := RK_fr (U := S_639) RK_S (G_S_639 63 50 rfl) (fun b => G_S_639 92 b rfl) (fun b => G_S_639 93 b rfl) (fun b => G_S_639 94 b rfl)
    have RO_S_639 := RO_fr (U := S_639) RO_S (G_S_639 63 67 rfl) (G_S_639 63 62 rfl) (fun b => G_S_639 100 b rfl)
    have TQ_S_639 := TQ_fr (U := S_639) TQ_S (G_S_639 63 62 rfl) (G_S_639 63 65 rfl) (fun b => G_S_639 102 b rfl)
    refine Sf.i (fun c_h12 => ?_) (fun c_h12 => ?_)
    · have h13 := eq_iv rfl li_0 c_h12
      unfold fc_10_671
      have h14 : ((0 : Int32)).toInt = 0 := li_0
      refine Sf.b (s_fX12_serve fu hfu a1 a2 (0 : Int32) S_639 I_S_639) (fun S_671 r_671 p_r_671 => ?_)
      obtain ⟨I_S_671, G_S_671, p_r_671⟩ := p_r_671
      have F_S_671 := Fr.tr F_S_639 G_S_671 rfl
      have EE_S_671 := EE_fr (U := S_671) EE_S_639 (G_S_671 23 4 rfl) (G_S_671 63 23 rfl) (fun b => G_S_671 24 b rfl) (fun b => G_S_671 79 b rfl)
      have RD_S_671 := RD_fr (U := S_671) RD_S_639 (G_S_671 63 20 rfl) (fun b => G_S_671 76 b rfl) (fun b => G_S_671 77 b rfl)
      have RK_S_671 := RK_fr (U := S_671) RK_S_639 (G_S_671 63 50 rfl) (fun b => G_S_671 92 b rfl) (fun b => G_S_671 93 b rfl) (fun b => G_S_671 94 b rfl)
      have RO_S_671 := RO_fr (U := S_671) RO_S_639 (G_S_671 63 67 rfl) (G_S_671 63 62 rfl) (fun b => G_S_671 100 b rfl)
      have TQ_S_671 := TQ_fr (U := S_671) TQ_S_639 (G_S_671 63 62 rfl) (G_S_671 63 65 rfl) (fun b => G_S_671 102 b rfl)
      have h15 : ((1 : Int32)).toInt = 1 := li_1
      exact Sf.so ⟨I_S_671, F_S_671, by omega, RD_S_671, RK_S_671, TQ_S_671, RO_S_671, EE_S_671⟩
    · have h16 := neq_iv rfl li_0 c_h12
      unfold fc_10_671
      refine Sf.b (s_fX12_serve fu hfu a1 a2 (1 : Int32) S_639 I_S_639) (fun S_671 r_671 p_r_671 => ?_)
      obtain ⟨I_S_671, G_S_671, p_r_671⟩ := p_r_671
      have F_S_671 := Fr.tr F_S_639 G_S_671 rfl
      have EE_S_671 := EE_fr (U := S_671) EE_S_639 (G_S_671 23 4 rfl) (G_S_671 63 23 rfl) (fun b => G_S_671 24 b rfl) (fun b => G_S_671 79 b rfl)
      have RD_S_671 := RD_fr (U := S_671) RD_S_639 (G_S_671 63 20 rfl) (fun b => G_S_671 76 b rfl) (fun b => G_S_671 77 b rfl)
      have RK_S_671 := RK_fr (U := S_671) RK_S_639 (G_S_671 63 50 rfl) (fun b => G_S_671 92 b rfl) (fun b => G_S_671 93 b rfl) (fun b => G_S_671 94 b rfl)
      have RO_S_671 := RO_fr (U := S_671) RO_S_639 (G_S_671 63 67 rfl) (G_S_671 63 62 rfl) (fun b => G_S_671 100 b rfl)
      have TQ_S_671 := TQ_fr (U := S_671) TQ_S_639 (G_S_671 63 62 rfl) (G_S_671 63 65 rfl) (fun b => G_S_671 102 b rfl)
      have h17 : ((1 : Int32)).toInt = 1 := li_1
      exact Sf.so ⟨I_S_671, F_S_671, by omega, RD_S_671, RK_S_671, TQ_S_671, RO_S_671, EE_S_671⟩
set_option maxHeartbeats 4000000 in
theorem s_fc_11 (fu : Nat) (hfu : 1000000000000000000 ≤ fu) (a1 : Int32) (a2 : Int32) (a3 : Int32) (a4 : Int32) (a5 : Int32) (S : St) (I_S : Inv S) (RD_S : RD S) (RK_S : RK S) (TQ_S : TQ S) (RO_S : RO S) (EE_S : EE S) : Sf (fc_11 fu a1 a2 a3 a4 a5 S) (fun U r => Inv U ∧ Fr [(1, 2), (1, 3), (2, 0), (19, 2), (19, 3), (20, 0), (21, 0), (22, 0), (63, 1), (63, 11), (63, 28), (70, 0), (82, 0), (83, 0), (84, 0)] S U ∧ ((r.toInt = 1)) ∧ RD U ∧ RK U ∧ TQ U ∧ RO U ∧ EE U) := by
  unfold fc_11
  have F_S : Fr [(1, 2), (1, 3), (2, 0), (19, 2), (19, 3), (20, 0), (21, 0), (22, 0), (63, 1), (63, 11), (63, 28), (70, 0), (82, 0), (83, 0), (84, 0)] S S := Fr.refl _ _
  refine Sf.b (s_fL_say fu hfu a1 a2 a3 S I_S) (fun S_699 r_699 p_r_699 => ?_)
  obtain ⟨I_S_699, G_S_699, p_r_699⟩ := p_r_699
  have F_S_699 := Fr.tr F_S G_S_699 rfl
  have EE_S_699 := EE_fr (U := S_699) EE_S (G_S_699 23 4 rfl) (G_S_699 63 23 rfl) (fun b => G_S_699 24 b rfl) (fun b => G_S_699 79 b rfl)
  have RD_S_699 := RD_fr (U := S_699) RD_S (G_S_699 63 20 rfl) (fun b => G_S_699 76 b rfl) (fun b => G_S_699 77 b rfl)
  have RK_S_699 := RK_fr (U := S_699) RK_S (G_S_699 63 50 rfl) (fun b => G_S_699 92 b rfl) (fun b => G_S_699 93 b rfl) (fun b => G_S_699 94 b rfl)
  have RO_S_699 := RO_fr (U := S_699) RO_S (G_S_699 63 67 rfl) (G_S_699 63 62 rfl) (fun b => G_S_699 100 b rfl)
  have TQ_S_699 := TQ_fr (U := S_699) TQ_S (G_S_699 63 62 rfl) (G_S_699 63 65 rfl) (fun b => G_S_699 102 b rfl)
  refine Sf.b (s_fX12_say fu hfu a1 a2 a3 S_699 I_S_699 RD_S_699) (fun S_723 r_723 p_r_723 => ?_)
  obtain ⟨I_S_723, G_S_723, p_r_723⟩ := p_r_723
  have F_S_723 := Fr.tr F_S_699 G_S_723 rfl
  have EE_S_723 := EE_fr (U := S_723) EE_S_699 (G_S_723 23 4 rfl) (G_S_723 63 23 rfl) (fun b => G_S_723 24 b rfl) (fun b => G_S_723 79 b rfl)
  have RD_S_723 := RD_fr (U := S_723) RD_S_699 (G_S_723 63 20 rfl) (fun b => G_S_723 76 b rfl) (fun b => G_S_723 77 b rfl)
  have RK_S_723 := RK_fr (U := S_723) RK_S_699 (G_S_723 63 50 rfl) (fun b => G_S_723 92 b rfl) (fun b => G_S_723 93 b rfl) (fun b => G_S_723 94 b rfl)
  have RO_S_723 := RO_fr (U := S_723) RO_S_699 (G_S_723 63 67 rfl) (G_S_723 63 62 rfl) (fun b => G_S_723 100 b rfl)
  have TQ_S_723 := TQ_fr (U := S_723) TQ_S_699 (G_S_723 63 62 rfl) (G_S_723 63 65 rfl) (fun b => G_S_723 102 b rfl)
  have h1 : ((1 : Int32)).toInt = 1 := li_1
  exact Sf.so ⟨I_S_723, F_S_723, by omega, RD_S_723, RK_S_723, TQ_S_723, RO_S_723, EE_S_723⟩
set_option maxHeartbeats 4000000 in
theorem s_fc_12 (fu : Nat) (hfu : 1000000000000000000 ≤ fu) (a1 : Int32) (a2 : Int32) (a3 : Int32) (a4 : Int32) (a5 : Int32) (S : St) (I_S : Inv S) (RD_S : RD S) (RK_S : RK S) (TQ_S : TQ S) (RO_S : RO S) (EE_S : EE S) : Sf (fc_12 fu a1 a2 a3 a4 a5 S) (fun U r => Inv U ∧ Fr [(1, 2), (1, 3), (3, 4), (4, 0), (6, 0), (26, 4), (26, 5), (26, 6), (26, 7), (26, 8), (26, 9), (26, 10), (27, 3), (29, 0), (30, 6), (31, 0), (32, 0), (33, 0), (34, 0), (35, 0), (36, 6), (37, 0), (38, 0), (39, 0), (40, 0), (41, 0), (63, 1), (63, 6), (63, 9), (63, 11), (63, 31), (63, 32), (63, 33), (63, 34), (63, 35), (63, 36), (63, 37), (63, 43), (63, 45), (64, 0), (65, 0), (66, 0), (67, 0), (68, 0), (69, 0), (85, 0), (86, 0), (87, 0), (88, 0), (89, 0), (90, 0)] S U ∧ ((r.toInt = 1)) ∧ RD U ∧ RK U ∧ TQ U ∧ RO U ∧ EE U) := by
  unfold fc_12
  have F_S : Fr [(1, 2), (1, 3), (3, 4), (4, 0), (6, 0), (26, 4), (26, 5), (26, 6), (26, 7), (26, 8), (26, 9), (26, 10), (27, 3), (29, 0), (30, 6), (31, 0), (32, 0), (33, 0), (34, 0), (35, 0), (36, 6), (37, 0), (38, 0), (39, 0), (40, 0), (41, 0), (63, 1), (63, 6), (63, 9), (63, 11), (63, 31), (63, 32), (63, 33), (63, 34), (63, 35), (63, 36), (63, 37), (63, 43), (63, 45), (64, 0), (65, 0), (66, 0), (67, 0), (68, 0), (69, 0), (85, 0), (86, 0), (87, 0), (88, 0), (89, 0), (90, 0)] S S := Fr.refl _ _
  refine Sf.b (s_fX11_parse fu hfu S I_S) (fun S_732 r_732 p_r_732 => ?_)
  obtain ⟨I_S_732, G_S_732, p_r_732⟩ := p_r_732
  have F_S_732 := Fr.tr F_S G_S_732 rfl
  have EE_S_732 := EE_fr (U := S_732) EE_S (G_S_732 23 4 rfl) (G_S_732 63 23 rfl) (fun b => G_S_732 24 b rfl) (fun b => G_S_732 79 b rfl)
  have RD_S_732 := RD_fr (U := S_732) RD_S (G_S_732 63 20 rfl) (fun b => G_S_732 76 b rfl) (fun b => G_S_732 77 b rfl)
  have RK_S_732 := RK_fr (U := S_732) RK_S (G_S_732 63 50 rfl) (fun b => G_S_732 92 b rfl) (fun b => G_S_732 93 b rfl) (fun b => G_S_732 94 b rfl)
  have RO_S_732 := RO_fr (U := S_732) RO_S (G_S_732 63 67 rfl) (G_S_732 63 62 rfl) (fun b => G_S_732 100 b rfl)
  have TQ_S_732 := TQ_fr (U := S_732) TQ_S (G_S_732 63 62 rfl) (G_S_732 63 65 rfl) (fun b => G_S_732 102 b rfl)
  refine Sf.b (s_fX12_parse fu hfu S_732 I_S_732) (fun S_737 r_737 p_r_737 => ?_)
  obtain ⟨I_S_737, G_S_737, p_r_737⟩ := p_r_737
  have F_S_737 := Fr.tr F_S_732 G_S_737 rfl
  have EE_S_737 := EE_fr (U := S_737) EE_S_732 (G_S_737 23 4 rfl) (G_S_737 63 23 rfl) (fun b => G_S_737 24 b rfl) (fun b => G_S_737 79 b rfl)
  have RD_S_737 := RD_fr (U := S_737) RD_S_732 (G_S_737 63 20 rfl) (fun b => G_S_737 76 b rfl) (fun b => G_S_737 77 b rfl)
  have RK_S_737 := RK_fr (U := S_737) RK_S_732 (G_S_737 63 50 rfl) (fun b => G_S_737 92 b rfl) (fun b => G_S_737 93 b rfl) (fun b => G_S_737 94 b rfl)
  have RO_S_737 := RO_fr (U := S_737) RO_S_732 (G_S_737 63 67 rfl) (G_S_737 63 62 rfl) (fun b => G_S_737 100 b rfl)
  have TQ_S_737 := TQ_fr (U := S_737) TQ_S_732 (G_S_737 63 62 rfl) (G_S_737 63 65 rfl) (fun b => G_S_737 102 b rfl)
  have h1 : ((1 : Int32)).toInt = 1 := li_1
  exact Sf.so ⟨I_S_737, F_S_737, by omega, RD_S_737, RK_S_737, TQ_S_737, RO_S_737, EE_S_737⟩
set_option maxHeartbeats 4000000 in
theorem s_fc_13 (fu : Nat) (hfu : 1000000000000000000 ≤ fu) (a1 : Int32) (a2 : Int32) (a3 : Int32) (a4 : Int32) (a5 : Int32) (S : St) (I_S : Inv S) (RD_S : RD S) (RK_S : RK S) (TQ_S : TQ S) (RO_S : RO S) (EE_S : EE S) : Sf (fc_13 fu a1 a2 a3 a4 a5 S) (fun U r => Inv U ∧ Fr [(63, 1)] S U ∧ ((r.toInt = 1)) ∧ RD U ∧ RK U ∧ TQ U ∧ RO U ∧ EE U) := by
  unfold fc_13
  have F_S : Fr [(63, 1)] S S := Fr.refl _ _
  refine Sf.b (s_fL_parsed fu hfu a1 a2 S I_S) (fun S_758 r_758 p_r_758 => ?_)
  obtain ⟨I_S_758, G_S_758, p_r_758⟩ := p_r_758
  have F_S_758 := Fr.tr F_S G_S_758 rfl
  have EE_S_758 := EE_fr (U := S_758) EE_S (G_S_758 23 4 rfl) (G_S_758 63 23 rfl) (fun b => G_S_758 24 b rfl) (fun b => G_S_758 79 b rfl)
  have RD_S_758 := RD_fr (U := S_758) RD_S (G_S_758 63 20 rfl) (fun b => G_S_758 76 b rfl) (fun b => G_S_758 77 b rfl)
  have RK_S_758 := RK_fr (U := S_758) RK_S (G_S_758 63 50 rfl) (fun b => G_S_758 92 b rfl) (fun b => G_S_758 93 b rfl) (fun b => G_S_758 94 b rfl)
  have RO_S_758 := RO_fr (U := S_758) RO_S (G_S_758 63 67 rfl) (G_S_758 63 62 rfl) (fun b => G_S_758 100 b rfl)
  have TQ_S_758 := TQ_fr (U := S_758) TQ_S (G_S_758 63 62 rfl) (G_S_758 63 65 rfl) (fun b => G_S_758 102 b rfl)
  refine Sf.b (s_fX12_parsed fu hfu a1 a2 S_758 I_S_758) (fun S_776 r_776 p_r_776 => ?_)
  obtain ⟨I_S_776, G_S_776, p_r_776⟩ := p_r_776
  have F_S_776 := Fr.tr F_S_758 G_S_776 rfl
  have EE_S_776 := EE_fr (U := S_776) EE_S_758 (G_S_776 23 4 rfl) (G_S_776 63 23 rfl) (fun b => G_S_776 24 b rfl) (fun b => G_S_776 79 b rfl)
  have RD_S_776 := RD_fr (U := S_776) RD_S_758 (G_S_776 63 20 rfl) (fun b => G_S_776 76 b rfl) (fun b => G_S_776 77 b rfl)
  have RK_S_776 := RK_fr (U := S_776) RK_S_758 (G_S_776 63 50 rfl) (fun b => G_S_776 92 b rfl) (fun b => G_S_776 93 b rfl) (fun b => G_S_776 94 b rfl)
  have RO_S_776 := RO_fr (U := S_776) RO_S_758 (G_S_776 63 67 rfl) (G_S_776 63 62 rfl) (fun b => G_S_776 100 b rfl)
  have TQ_S_776 := TQ_fr (U := S_776) TQ_S_758 (G_S_776 63 62 rfl) (G_S_776 63 65 rfl) (fun b => G_S_776 102 b rfl)
  have h1 : ((1 : Int32)).toInt = 1 := li_1
  exact Sf.so ⟨I_S_776, F_S_776, by omega, RD_S_776, RK_S_776, TQ_S_776, RO_S_776, EE_S_776⟩
set_option maxHeartbeats 4000000 in
theorem s_fc_14 (fu : Nat) (hfu : 1000000000000000000 ≤ fu) (a1 : Int32) (a2 : Int32) (a3 : Int32) (a4 : Int32) (a5 : Int32) (S : St) (I_S : Inv S) (RD_S : RD S) (RK_S : RK S) (TQ_S : TQ S) (RO_S : RO S) (EE_S : EE S) : Sf (fc_14 fu a1 a2 a3 a4 a5 S) (fun U r => Inv U ∧ Fr [(49, 5), (59, 0), (63, 1), (63, 26), (81, 0)] S U ∧ ((r.toInt = 1)) ∧ RD U ∧ RK U ∧ TQ U ∧ RO U ∧ EE U) := by
  unfold fc_14
  have F_S : Fr [(49, 5), (59, 0), (63, 1), (63, 26), (81, 0)] S S := Fr.refl _ _
  refine Sf.b (s_fX11_hint fu hfu a1 S I_S) (fun S_791 r_791 p_r_791 => ?_)
  obtain ⟨I_S_791, G_S_791, p_r_791⟩ := p_r_791
  have F_S_791 := Fr.tr F_S G_S_791 rfl
  have EE_S_791 := EE_fr (U := S_791) EE_S (G_S_791 23 4 rfl) (G_S_791 63 23 rfl) (fun b => G_S_791 24 b rfl) (fun b => G_S_791 79 b rfl)
  have RD_S_791 := RD_fr (U := S_791) RD_S (G_S_791 63 20 rfl) (fun b => G_S_791 76 b rfl) (fun b => G_S_791 77 b rfl)
  have RK_S_791 := RK_fr (U := S_791) RK_S (G_S_791 63 50 rfl) (fun b => G_S_791 92 b rfl) (fun b => G_S_791 93 b rfl) (fun b => G_S_791 94 b rfl)
  have RO_S_791 := RO_fr (U := S_791) RO_S (G_S_791 63 67 rfl) (G_S_791 63 62 rfl) (fun b => G_S_791 100 b rfl)
  have TQ_S_791 := TQ_fr (U := S_791) TQ_S (G_S_791 63 62 rfl) (G_S_791 63 65 rfl) (fun b => G_S_791 102 b rfl)
  refine Sf.b (s_fX12_hint fu hfu a1 S_791 I_S_791) (fun S_802 r_802 p_r_802 => ?_)
  obtain ⟨I_S_802, G_S_802, p_r_802⟩ := p_r_802
  have F_S_802 := Fr.tr F_S_791 G_S_802 rfl
  have EE_S_802 := EE_fr (U := S_802) EE_S_791 (G_S_802 23 4 rfl) (G_S_802 63 23 rfl) (fun b => G_S_802 24 b rfl) (fun b => G_S_802 79 b rfl)
  have RD_S_802 := RD_fr (U := S_802) RD_S_791 (G_S_802 63 20 rfl) (fun b => G_S_802 76 b rfl) (fun b => G_S_802 77 b rfl)
  have RK_S_802 := RK_fr (U := S_802) RK_S_791 (G_S_802 63 50 rfl) (fun b => G_S_802 92 b rfl) (fun b => G_S_802 93 b rfl) (fun b => G_S_802 94 b rfl)
  have RO_S_802 := RO_fr (U := S_802) RO_S_791 (G_S_802 63 67 rfl) (G_S_802 63 62 rfl) (fun b => G_S_802 100 b rfl)
  have TQ_S_802 := TQ_fr (U := S_802) TQ_S_791 (G_S_802 63 62 rfl) (G_S_802 63 65 rfl) (fun b => G_S_802 102 b rfl)
  have h1 : ((1 : Int32)).toInt = 1 := li_1
  exact Sf.so ⟨I_S_802, F_S_802, by omega, RD_S_802, RK_S_802, TQ_S_802, RO_S_802, EE_S_802⟩
set_option maxHeartbeats 4000000 in
theorem s_fc_15 (fu : Nat) (hfu : 1000000000000000000 ≤ fu) (a1 : Int32) (a2 : Int32) (a3 : Int32) (a4 : Int32) (a5 : Int32) (S : St) (I_S : Inv S) (RD_S : RD S) (RK_S : RK S) (TQ_S : TQ S) (RO_S : RO S) (EE_S : EE S) : Sf (fc_15 fu a1 a2 a3 a4 a5 S) (fun U r => Inv U ∧ Fr [(42, 9), (63, 1), (63, 52)] S U ∧ ((r.toInt = 1)) ∧ RD U ∧ RK U ∧ TQ U ∧ RO U ∧ EE U) := by
  unfold fc_15
  have F_S : Fr [(42, 9), (63, 1), (63, 52)] S S := Fr.refl _ _
  refine Sf.b (s_fL_tick fu hfu a1 S I_S) (fun S_817 r_817 p_r_817 => ?_)
  obtain ⟨I_S_817, G_S_817, p_r_817⟩ := p_r_817
  have F_S_817 := Fr.tr F_S G_S_817 rfl
  have EE_S_817 := EE_fr (U := S_817) EE_S (G_S_817 23 4 rfl) (G_S_817 63 23 rfl) (fun b => G_S_817 24 b rfl) (fun b => G_S_817 79 b rfl)
  have RD_S_817 := RD_fr (U := S_817) RD_S (G_S_817 63 20 rfl) (fun b => G_S_817 76 b rfl) (fun b => G_S_817 77 b rfl)
  have RK_S_817 := RK_fr (U := S_817) RK_S (G_S_817 63 50 rfl) (fun b => G_S_817 92 b rfl) (fun b => G_S_817 93 b rfl) (fun b => G_S_817 94 b rfl)
  have RO_S_817 := RO_fr (U := S_817) RO_S (G_S_817 63 67 rfl) (G_S_817 63 62 rfl) (fun b => G_S_817 100 b rfl)
  have TQ_S_817 := TQ_fr (U := S_817) TQ_S (G_S_817 63 62 rfl) (G_S_817 63 65 rfl) (fun b => G_S_817 102 b rfl)
  refine Sf.b (s_fX12_tick fu hfu a1 S_817 I_S_817) (fun S_829 r_829 p_r_829 => ?_)
  obtain ⟨I_S_829, G_S_829, p_r_829⟩ := p_r_829
  have F_S_829 := Fr.tr F_S_817 G_S_829 rfl
  have EE_S_829 := EE_fr (U := S_829) EE_S_817 (G_S_829 23 4 rfl) (G_S_829 63 23 rfl) (fun b => G_S_829 24 b rfl) (fun b => G_S_829 79 b rfl)
  have RD_S_829 := RD_fr (U := S_829) RD_S_817 (G_S_829 63 20 rfl) (fun b => G_S_829 76 b rfl) (fun b => G_S_829 77 b rfl)
  have RK_S_829 := RK_fr (U := S_829) RK_S_817 (G_S_829 63 50 rfl) (fun b => G_S_829 92 b rfl) (fun b => G_S_829 93 b rfl) (fun b => G_S_829 94 b rfl)
  have RO_S_829 := RO_fr (U := S_829) RO_S_817 (G_S_829 63 67 rfl) (G_S_829 63 62 rfl) (fun b => G_S_829 100 b rfl)
  have TQ_S_829 := TQ_fr (U := S_829) TQ_S_817 (G_S_829 63 62 rfl) (G_S_829 63 65 rfl) (fun b => G_S_829 102 b rfl)
  have h1 : ((1 : Int32)).toInt = 1 := li_1
  exact Sf.so ⟨I_S_829, F_S_829, by omega, RD_S_829, RK_S_829, TQ_S_829, RO_S_829, EE_S_829⟩
set_option maxHeartbeats 4000000 in
theorem s_fc_16 (fu : Nat) (hfu : 1000000000000000000 ≤ fu) (a1 : Int32) (a2 : Int32) (a3 : Int32) (a4 : Int32) (a5 : Int32) (S : St) (I_S : Inv S) (RD_S : RD S) (RK_S : RK S) (TQ_S : TQ S) (RO_S : RO S) (EE_S : EE S) : Sf (fc_16 fu a1 a2 a3 a4 a5 S) (fun U r => Inv U ∧ Fr [(49, 6), (49, 7), (49, 8), (49, 9), (49, 10), (49, 12), (50, 9), (50, 10), (51, 0), (52, 0), (53, 0), (54, 0), (55, 0), (56, 0), (57, 0), (58, 0), (60, 0), (63, 1), (63, 63), (63, 64), (63, 65), (63, 66), (63, 67), (63, 68), (63, 69), (63, 70), (63, 72), (97, 0), (98, 0), (99, 0), (100, 0), (101, 0), (102, 0), (103, 0), (104, 0)] S U ∧ ((r.toInt = 1)) ∧ RD U ∧ RK U ∧ TQ U ∧ RO U ∧ EE U) := by
  unfold fc_16
  have F_S : Fr [(49, 6), (49, 7), (49, 8), (49, 9), (49, 10), (49, 12), (50, 9), (50, 10), (51, 0), (52, 0), (53, 0), (54, 0), (55, 0), (56, 0), (57, 0), (58, 0), (60, 0), (63, 1), (63, 63), (63, 64), (63, 65), (63, 66), (63, 67), (63, 68), (63, 69), (63, 70), (63, 72), (97, 0), (98, 0), (99, 0), (100, 0), (101, 0), (102, 0), (103, 0), (104, 0)] S S := Fr.refl _ _
  refine Sf.b (s_fL_ask fu hfu a1 a2 S I_S) (fun S_851 r_851 p_r_851 => ?_)
  obtain ⟨I_S_851, G_S_851, p_r_851⟩ := p_r_851
  have F_S_851 := Fr.tr F_S G_S_851 rfl
  have EE_S_851 := EE_fr (U := S_851) EE_S (G_S_851 23 4 rfl) (G_S_851 63 23 rfl) (fun b => G_S_851 24 b rfl) (fun b => G_S_851 79 b rfl)
  have RD_S_851 := RD_fr (U := S_851) RD_S (G_S_851 63 20 rfl) (fun b => G_S_851 76 b rfl) (fun b => G_S_851 77 b rfl)
  have RK_S_851 := RK_fr (U := S_851) RK_S (G_S_851 63 50 rfl) (fun b => G_S_851 92 b rfl) (fun b => G_S_851 93 b rfl) (fun b => G_S_851 94 b rfl)
  have RO_S_851 := RO_fr (U := S_851) RO_S (G_S_851 63 67 rfl) (G_S_851 63 62 rfl) (fun b => G_S_851 100 b rfl)
  have TQ_S_851 := TQ_fr (U := S_851) TQ_S (G_S_851 63 62 rfl) (G_S_851 63 65 rfl) (fun b => G_S_851 102 b rfl)
  refine Sf.b (s_fX12_ask fu hfu a1 a2 S_851 I_S_851 RK_S_851 TQ_S_851 RO_S_851) (fun S_869 r_869 p_r_869 => ?_)
  obtain ⟨I_S_869, G_S_869, p_r_869, RK_S_869, TQ_S_869, RO_S_869⟩ := p_r_869
  have F_S_869 := Fr.tr F_S_851 G_S_869 rfl
  have EE_S_869 := EE_fr (U := S_869) EE_S_851 (G_S_869 23 4 rfl) (G_S_869 63 23 rfl) (fun b => G_S_869 24 b rfl) (fun b => G_S_869 79 b rfl)
  have RD_S_869 := RD_fr (U := S_869) RD_S_851 (G_S_869 63 20 rfl) (fun b => G_S_869 76 b rfl) (fun b => G_S_869 77 b rfl)
  have h1 : ((1 : Int32)).toInt = 1 := li_1
  exact Sf.so ⟨I_S_869, F_S_869, by omega, RD_S_869, RK_S_869, TQ_S_869, RO_S_869, EE_S_869⟩
set_option maxHeartbeats 4000000 in
theorem s_fc_17 (fu : Nat) (hfu : 1000000000000000000 ≤ fu) (a1 : Int32) (a2 : Int32) (a3 : Int32) (a4 : Int32) (a5 : Int32) (S : St) (I_S : Inv S) (RD_S : RD S) (RK_S : RK S) (TQ_S : TQ S) (RO_S : RO S) (EE_S : EE S) : Sf (fc_17 fu a1 a2 a3 a4 a5 S) (fun U r => Inv U ∧ Fr [(3, 4), (4, 0), (6, 0), (19, 2), (19, 3), (20, 0), (21, 0), (22, 0), (26, 4), (26, 5), (26, 6), (26, 7), (26, 8), (26, 9), (26, 10), (27, 3), (29, 0), (30, 6), (31, 0), (32, 0), (33, 0), (34, 0), (35, 0), (42, 7), (42, 8), (43, 0), (44, 0), (46, 0), (47, 0), (48, 0), (49, 6), (49, 7), (49, 8), (49, 9), (49, 10), (49, 12), (50, 9), (50, 10), (51, 0), (52, 0), (53, 0), (54, 0), (55, 0), (56, 0), (57, 0), (58, 0), (60, 0), (61, 0), (62, 0), (63, 1), (63, 6), (63, 9), (63, 28), (63, 31), (63, 32), (63, 33), (63, 34), (63, 35), (63, 36), (63, 37), (63, 43), (63, 51), (63, 54), (63, 63), (63, 64), (63, 65), (63, 66), (63, 67), (63, 68), (63, 69), (63, 70), (63, 72), (64, 0), (65, 0), (66, 0), (67, 0), (68, 0), (69, 0), (82, 0), (83, 0), (84, 0), (85, 0), (86, 0), (87, 0), (88, 0), (89, 0), (91, 0), (92, 0), (93, 0), (94, 0), (96, 0), (97, 0), (98, 0), (99, 0), (100, 0), (101, 0), (102, 0), (103, 0), (104, 0), (105, 0)] S U ∧ ((r.toInt = 1)) ∧ RD U ∧ RK U ∧ TQ U ∧ RO U ∧ EE U) := by
  unfold fc_17
  have F_S : Fr [(3, 4), (4, 0), (6, 0), (19, 2), (19, 3), (20, 0), (21, 0), (22, 0), (26, 4), (26, 5), (26, 6), (26, 7), (26, 8), (26, 9), (26, 10), (27, 3), (29, 0), (30, 6), (31, 0), (32, 0), (33, 0), (34, 0), (35, 0), (42, 7), (42, 8), (43, 0), (44, 0), (46, 0), (47, 0), (48, 0), (49, 6), (49, 7), (49, 8), (49, 9), (49, 10), (49, 12), (50, 9), (50, 10), (51, 0), (52, 0), (53, 0), (54, 0), (55, 0), (56, 0), (57, 0), (58, 0), (60, 0), (61, 0), (62, 0), (63, 1), (63, 6), (63, 9), (63, 28), (63, 31), (63, 32), (63, 33), (63, 34), (63, 35), (63, 36), (63, 37), (63, 43), (63, 51), (63, 54), (63, 63), (63, 64), (63, 65), (63, 66), (63, 67), (63, 68), (63, 69), (63, 70), (63, 72), (64, 0), (65, 0), (66, 0), (67, 0), (68, 0), (69, 0), (82, 0), (83, 0), (84, 0), (85, 0), (86, 0), (87, 0), (88, 0), (89, 0), (91, 0), (92, 0), (93, 0), (94, 0), (96, 0), (97, 0), (98, 0), (99, 0), (100, 0), (101, 0), (102, 0), (103, 0), (104, 0), (105, 0)] S S := Fr.refl _ _
  refine Sf.b (s_fL_step fu hfu S I_S) (fun S_879 r_879 p_r_879 => ?_)
  obtain ⟨I_S_879, G_S_879, p_r_879⟩ := p_r_879
  have F_S_879 := Fr.tr F_S G_S_879 rfl
  have EE_S_879 := EE_fr (U := S_879) EE_S (G_S_879 23 4 rfl) (G_S_879 63 23 rfl) (fun b => G_S_879 24 b rfl) (fun b => G_S_879 79 b rfl)
  have RD_S_879 := RD_fr (U := S_879) RD_S (G_S_879 63 20 rfl) (fun b => G_S_879 76 b rfl) (fun b => G_S_879 77 b rfl)
  have RK_S_879 := RK_fr (U := S_879) RK_S (G_S_879 63 50 rfl) (fun b => G_S_879 92 b rfl) (fun b => G_S_879 93 b rfl) (fun b => G_S_879 94 b rfl)
  have RO_S_879 := RO_fr (U := S_879) RO_S (G_S_879 63 67 rfl) (G_S_879 63 62 rfl) (fun b => G_S_879 100 b rfl)
  have TQ_S_879 := TQ_fr (U := S_879) TQ_S (G_S_879 63 62 rfl) (G_S_879 63 65 rfl) (fun b => G_S_879 102 b rfl)
  refine Sf.b (s_fX12_step fu hfu S_879 I_S_879 RD_S_879 RK_S_879 TQ_S_879 RO_S_879) (fun S_885 r_885 p_r_885 => ?_)
  obtain ⟨I_S_885, G_S_885, p_r_885, RK_S_885, TQ_S_885, RO_S_885⟩ := p_r_885
  have F_S_885 := Fr.tr F_S_879 G_S_885 rfl
  have EE_S_885 := EE_fr (U := S_885) EE_S_879 (G_S_885 23 4 rfl) (G_S_885 63 23 rfl) (fun b => G_S_885 24 b rfl) (fun b => G_S_885 79 b rfl)
  have RD_S_885 := RD_fr (U := S_885) RD_S_879 (G_S_885 63 20 rfl) (fun b => G_S_885 76 b rfl) (fun b => G_S_885 77 b rfl)
  have h1 : ((1 : Int32)).toInt = 1 := li_1
  exact Sf.so ⟨I_S_885, F_S_885, by omega, RD_S_885, RK_S_885, TQ_S_885, RO_S_885, EE_S_885⟩
set_option maxHeartbeats 4000000 in
theorem s_fc_18 (fu : Nat) (hfu : 1000000000000000000 ≤ fu) (a1 : Int32) (a2 : Int32) (a3 : Int32) (a4 : Int32) (a5 : Int32) (S : St) (I_S : Inv S) (RD_S : RD S) (RK_S : RK S) (TQ_S : TQ S) (RO_S : RO S) (EE_S : EE S) : Sf (fc_18 fu a1 a2 a3 a4 a5 S) (fun U r => Inv U ∧ Fr [(49, 6), (49, 7), (49, 8), (49, 9), (49, 10), (49, 12), (50, 9), (50, 10), (51, 0), (52, 0), (53, 0), (54, 0), (55, 0), (56, 0), (57, 0), (58, 0), (60, 0), (63, 1), (63, 63), (63, 64), (63, 65), (63, 66), (63, 67), (63, 68), (63, 69), (63, 70), (63, 72), (97, 0), (98, 0), (99, 0), (100, 0), (101, 0), (102, 0), (103, 0), (104, 0)] S U ∧ ((r.toInt = 1)) ∧ RD U ∧ RK U ∧ TQ U ∧ RO U ∧ EE U) := by
  unfold fc_18
  have F_S : Fr [(49, 6), (49, 7), (49, 8), (49, 9), (49, 10), (49, 12), (50, 9), (50, 10), (51, 0), (52, 0), (53, 0), (54, 0), (55, 0), (56, 0), (57, 0), (58, 0), (60, 0), (63, 1), (63, 63), (63, 64), (63, 65), (63, 66), (63, 67), (63, 68), (63, 69), (63, 70), (63, 72), (97, 0), (98, 0), (99, 0), (100, 0), (101, 0), (102, 0), (103, 0), (104, 0)] S S := Fr.refl _ _
  refine Sf.b (s_fL_lose fu hfu S I_S) (fun S_895 r_895 p_r_895 => ?_)
  obtain ⟨I_S_895, G_S_895, p_r_895⟩ := p_r_895
  have F_S_895 := Fr.tr F_S G_S_895 rfl
  have EE_S_895 := EE_fr (U := S_895) EE_S (G_S_895 23 4 rfl) (G_S_895 63 23 rfl) (fun b => G_S_895 24 b rfl) (fun b => G_S_895 79 b rfl)
  have RD_S_895 := RD_fr (U := S_895) RD_S (G_S_895 63 20 rfl) (fun b => G_S_895 76 b rfl) (fun b => G_S_895 77 b rfl)
  have RK_S_895 := RK_fr (U := S_895) RK_S (G_S_895 63 50 rfl) (fun b => G_S_895 92 b rfl) (fun b => G_S_895 93 b rfl) (fun b => G_S_895 94 b rfl)
  have RO_S_895 := RO_fr (U := S_895) RO_S (G_S_895 63 67 rfl) (G_S_895 63 62 rfl) (fun b => G_S_895 100 b rfl)
  have TQ_S_895 := TQ_fr (U := S_895) TQ_S (G_S_895 63 62 rfl) (G_S_895 63 65 rfl) (fun b => G_S_895 102 b rfl)
  refine Sf.b (s_fX12_lose fu hfu S_895 I_S_895 RK_S_895 TQ_S_895 RO_S_895) (fun S_901 r_901 p_r_901 => ?_)
  obtain ⟨I_S_901, G_S_901, p_r_901, RK_S_901, TQ_S_901, RO_S_901⟩ := p_r_901
  have F_S_901 := Fr.tr F_S_895 G_S_901 rfl
  have EE_S_901 := EE_fr (U := S_901) EE_S_895 (G_S_901 23 4 rfl) (G_S_901 63 23 rfl) (fun b => G_S_901 24 b rfl) (fun b => G_S_901 79 b rfl)
  have RD_S_901 := RD_fr (U := S_901) RD_S_895 (G_S_901 63 20 rfl) (fun b => G_S_901 76 b rfl) (fun b => G_S_901 77 b rfl)
  have h1 : ((1 : Int32)).toInt = 1 := li_1
  exact Sf.so ⟨I_S_901, F_S_901, by omega, RD_S_901, RK_S_901, TQ_S_901, RO_S_901, EE_S_901⟩
set_option maxHeartbeats 4000000 in
theorem s_fc_19 (fu : Nat) (hfu : 1000000000000000000 ≤ fu) (a1 : Int32) (a2 : Int32) (a3 : Int32) (a4 : Int32) (a5 : Int32) (S : St) (I_S : Inv S) (RD_S : RD S) (RK_S : RK S) (TQ_S : TQ S) (RO_S : RO S) (EE_S : EE S) : Sf (fc_19 fu a1 a2 a3 a4 a5 S) (fun U r => Inv U ∧ Fr [(1, 2), (1, 3), (3, 4), (4, 0), (6, 0), (26, 4), (26, 5), (26, 6), (26, 7), (26, 8), (26, 9), (26, 10), (27, 3), (29, 0), (30, 6), (31, 0), (32, 0), (33, 0), (34, 0), (35, 0), (42, 7), (42, 8), (43, 0), (44, 0), (46, 0), (47, 0), (48, 0), (49, 6), (49, 7), (49, 8), (49, 9), (49, 10), (49, 12), (50, 9), (50, 10), (51, 0), (52, 0), (53, 0), (54, 0), (55, 0), (56, 0), (57, 0), (58, 0), (60, 0), (61, 0), (62, 0), (63, 1), (63, 6), (63, 9), (63, 11), (63, 31), (63, 32), (63, 33), (63, 34), (63, 35), (63, 36), (63, 37), (63, 43), (63, 51), (63, 54), (63, 63), (63, 64), (63, 65), (63, 66), (63, 67), (63, 68), (63, 69), (63, 70), (63, 72), (64, 0), (65, 0), (66, 0), (67, 0), (68, 0), (69, 0), (85, 0), (86, 0), (87, 0), (88, 0), (89, 0), (91, 0), (92, 0), (93, 0), (94, 0), (96, 0), (97, 0), (98, 0), (99, 0), (100, 0), (101, 0), (102, 0), (103, 0), (104, 0), (105, 0)] S U ∧ ((r.toInt = 1)) ∧ RD U ∧ RK U ∧ TQ U ∧ RO U ∧ EE U) := by
  unfold fc_19
  have F_S : Fr [(1, 2), (1, 3), (3, 4), (4, 0), (6, 0), (26, 4), (26, 5), (26, 6), (26, 7), (26, 8), (26, 9), (26, 10), (27, 3), (29, 0), (30, 6), (31, 0), (32, 0), (33, 0), (34, 0), (35, 0), (42, 7), (42, 8), (43, 0), (44, 0), (46, 0), (47, 0), (48, 0), (49, 6), (49, 7), (49, 8), (49, 9), (49, 10), (49, 12), (50, 9), (50, 10), (51, 0), (52, 0), (53, 0), (54, 0), (55, 0), (56, 0), (57, 0), (58, 0), (60, 0), (61, 0), (62, 0), (63, 1), (63, 6), (63, 9), (63, 11), (63, 31), (63, 32), (63, 33), (63, 34), (63, 35), (63, 36), (63, 37), (63, 43), (63, 51), (63, 54), (63, 63), (63, 64), (63, 65), (63, 66), (63, 67), (63, 68), (63, 69), (63, 70), (63, 72), (64, 0), (65, 0), (66, 0), (67, 0), (68, 0), (69, 0), (85, 0), (86, 0), (87, 0), (88, 0), (89, 0), (91, 0), (92, 0), (93, 0), (94, 0), (96, 0), (97, 0), (98, 0), (99, 0), (100, 0), (101, 0), (102, 0), (103, 0), (104, 0), (105, 0)] S S := Fr.refl _ _
  refine Sf.b (s_fL_forge fu hfu S I_S) (fun S_911 r_911 p_r_911 => ?_)
  obtain ⟨I_S_911, G_S_911, p_r_911⟩ := p_r_911
  have F_S_911 := Fr.tr F_S G_S_911 rfl
  have EE_S_911 := EE_fr (U := S_911) EE_S (G_S_911 23 4 rfl) (G_S_911 63 23 rfl) (fun b => G_S_911 24 b rfl) (fun b => G_S_911 79 b rfl)
  have RD_S_911 := RD_fr (U := S_911) RD_S (G_S_911 63 20 rfl) (fun b => G_S_911 76 b rfl) (fun b => G_S_911 77 b rfl)
  have RK_S_911 := RK_fr (U := S_911) RK_S (G_S_911 63 50 rfl) (fun b => G_S_911 92 b rfl) (fun b => G_S_911 93 b rfl) (fun b => G_S_911 94 b rfl)
  have RO_S_911 := RO_fr (U := S_911) RO_S (G_S_911 63 67 rfl) (G_S_911 63 62 rfl) (fun b => G_S_911 100 b rfl)
  have TQ_S_911 := TQ_fr (U := S_911) TQ_S (G_S_911 63 62 rfl) (G_S_911 63 65 rfl) (fun b => G_S_911 102 b rfl)
  refine Sf.b (s_fX12_forge fu hfu S_911 I_S_911 RK_S_911 TQ_S_911 RO_S_911) (fun S_917 r_917 p_r_917 => ?_)
  obtain ⟨I_S_917, G_S_917, p_r_917, RK_S_917, TQ_S_917, RO_S_917⟩ := p_r_917
  have F_S_917 := Fr.tr F_S_911 G_S_917 rfl
  have EE_S_917 := EE_fr (U := S_917) EE_S_911 (G_S_917 23 4 rfl) (G_S_917 63 23 rfl) (fun b => G_S_917 24 b rfl) (fun b => G_S_917 79 b rfl)
  have RD_S_917 := RD_fr (U := S_917) RD_S_911 (G_S_917 63 20 rfl) (fun b => G_S_917 76 b rfl) (fun b => G_S_917 77 b rfl)
  have h1 : ((1 : Int32)).toInt = 1 := li_1
  exact Sf.so ⟨I_S_917, F_S_917, by omega, RD_S_917, RK_S_917, TQ_S_917, RO_S_917, EE_S_917⟩
set_option maxHeartbeats 4000000 in
theorem s_fc_20 (fu : Nat) (hfu : 1000000000000000000 ≤ fu) (a1 : Int32) (a2 : Int32) (a3 : Int32) (a4 : Int32) (a5 : Int32) (S : St) (I_S : Inv S) (RD_S : RD S) (RK_S : RK S) (TQ_S : TQ S) (RO_S : RO S) (EE_S : EE S) : Sf (fc_20 fu a1 a2 a3 a4 a5 S) (fun U r => Inv U ∧ Fr [(63, 1)] S U ∧ ((r.toInt = 1)) ∧ RD U ∧ RK U ∧ TQ U ∧ RO U ∧ EE U) := by
  unfold fc_20
  have F_S : Fr [(63, 1)] S S := Fr.refl _ _
  refine Sf.b (s_fL_query fu hfu a1 S I_S) (fun S_933 r_933 p_r_933 => ?_)
  obtain ⟨I_S_933, G_S_933, p_r_933⟩ := p_r_933
  have F_S_933 := Fr.tr F_S G_S_933 rfl
  have EE_S_933 := EE_fr (U := S_933) EE_S (G_S_933 23 4 rfl) (G_S_933 63 23 rfl) (fun b => G_S_933 24 b rfl) (fun b => G_S_933 79 b rfl)
  have RD_S_933 := RD_fr (U := S_933) RD_S (G_S_933 63 20 rfl) (fun b => G_S_933 76 b rfl) (fun b => G_S_933 77 b rfl)
  have RK_S_933 := RK_fr (U := S_933) RK_S (G_S_933 63 50 rfl) (fun b => G_S_933 92 b rfl) (fun b => G_S_933 93 b rfl) (fun b => G_S_933 94 b rfl)
  have RO_S_933 := RO_fr (U := S_933) RO_S (G_S_933 63 67 rfl) (G_S_933 63 62 rfl) (fun b => G_S_933 100 b rfl)
  have TQ_S_933 := TQ_fr (U := S_933) TQ_S (G_S_933 63 62 rfl) (G_S_933 63 65 rfl) (fun b => G_S_933 102 b rfl)
  refine Sf.b (s_fX12_query fu hfu a1 S_933 I_S_933 RO_S_933) (fun S_945 r_945 p_r_945 => ?_)
  obtain ⟨I_S_945, G_S_945, p_r_945⟩ := p_r_945
  have F_S_945 := Fr.tr F_S_933 G_S_945 rfl
  have EE_S_945 := EE_fr (U := S_945) EE_S_933 (G_S_945 23 4 rfl) (G_S_945 63 23 rfl) (fun b => G_S_945 24 b rfl) (fun b => G_S_945 79 b rfl)
  have RD_S_945 := RD_fr (U := S_945) RD_S_933 (G_S_945 63 20 rfl) (fun b => G_S_945 76 b rfl) (fun b => G_S_945 77 b rfl)
  have RK_S_945 := RK_fr (U := S_945) RK_S_933 (G_S_945 63 50 rfl) (fun b => G_S_945 92 b rfl) (fun b => G_S_945 93 b rfl) (fun b => G_S_945 94 b rfl)
  have RO_S_945 := RO_fr (U := S_945) RO_S_933 (G_S_945 63 67 rfl) (G_S_945 63 62 rfl) (fun b => G_S_945 100 b rfl)
  have TQ_S_945 := TQ_fr (U := S_945) TQ_S_933 (G_S_945 63 62 rfl) (G_S_945 63 65 rfl) (fun b => G_S_945 102 b rfl)
  have h1 : ((1 : Int32)).toInt = 1 := li_1
  exact Sf.so ⟨I_S_945, F_S_945, by omega, RD_S_945, RK_S_945, TQ_S_945, RO_S_945, EE_S_945⟩
set_option maxHeartbeats 4000000 in
theorem s_fc_21 (fu : Nat) (hfu : 1000000000000000000 ≤ fu) (a1 : Int32) (a2 : Int32) (a3 : Int32) (a4 : Int32) (a5 : Int32) (S : St) (I_S : Inv S) (RD_S : RD S) (RK_S : RK S) (TQ_S : TQ S) (RO_S : RO S) (EE_S : EE S) : Sf (fc_21 fu a1 a2 a3 a4 a5 S) (fun U r => Inv U ∧ Fr [(63, 1)] S U ∧ ((r.toInt = 1)) ∧ RD U ∧ RK U ∧ TQ U ∧ RO U ∧ EE U) := by
  unfold fc_21
  have F_S : Fr [(63, 1)] S S := Fr.refl _ _
  refine Sf.b (s_fL_result fu hfu a1 S I_S) (fun S_961 r_961 p_r_961 => ?_)
  obtain ⟨I_S_961, G_S_961, p_r_961⟩ := p_r_961
  have F_S_961 := Fr.tr F_S G_S_961 rfl
  have EE_S_961 := EE_fr (U := S_961) EE_S (G_S_961 23 4 rfl) (G_S_961 63 23 rfl) (fun b => G_S_961 24 b rfl) (fun b => G_S_961 79 b rfl)
  have RD_S_961 := RD_fr (U := S_961) RD_S (G_S_961 63 20 rfl) (fun b => G_S_961 76 b rfl) (fun b => G_S_961 77 b rfl)
  have RK_S_961 := RK_fr (U := S_961) RK_S (G_S_961 63 50 rfl) (fun b => G_S_961 92 b rfl) (fun b => G_S_961 93 b rfl) (fun b => G_S_961 94 b rfl)
  have RO_S_961 := RO_fr (U := S_961) RO_S (G_S_961 63 67 rfl) (G_S_961 63 62 rfl) (fun b => G_S_961 100 b rfl)
  have TQ_S_961 := TQ_fr (U := S_961) TQ_S (G_S_961 63 62 rfl) (G_S_961 63 65 rfl) (fun b => G_S_961 102 b rfl)
  refine Sf.b (s_fX12_result fu hfu a1 S_961 I_S_961) (fun S_973 r_973 p_r_973 => ?_)
  obtain ⟨I_S_973, G_S_973, p_r_973⟩ := p_r_973
  have F_S_973 := Fr.tr F_S_961 G_S_973 rfl
  have EE_S_973 := EE_fr (U := S_973) EE_S_961 (G_S_973 23 4 rfl) (G_S_973 63 23 rfl) (fun b => G_S_973 24 b rfl) (fun b => G_S_973 79 b rfl)
  have RD_S_973 := RD_fr (U := S_973) RD_S_961 (G_S_973 63 20 rfl) (fun b => G_S_973 76 b rfl) (fun b => G_S_973 77 b rfl)
  have RK_S_973 := RK_fr (U := S_973) RK_S_961 (G_S_973 63 50 rfl) (fun b => G_S_973 92 b rfl) (fun b => G_S_973 93 b rfl) (fun b => G_S_973 94 b rfl)
  have RO_S_973 := RO_fr (U := S_973) RO_S_961 (G_S_973 63 67 rfl) (G_S_973 63 62 rfl) (fun b => G_S_973 100 b rfl)
  have TQ_S_973 := TQ_fr (U := S_973) TQ_S_961 (G_S_973 63 62 rfl) (G_S_973 63 65 rfl) (fun b => G_S_973 102 b rfl)
  have h1 : ((1 : Int32)).toInt = 1 := li_1
  exact Sf.so ⟨I_S_973, F_S_973, by omega, RD_S_973, RK_S_973, TQ_S_973, RO_S_973, EE_S_973⟩
set_option maxHeartbeats 4000000 in
theorem s_fc_22 (fu : Nat) (hfu : 1000000000000000000 ≤ fu) (a1 : Int32) (a2 : Int32) (a3 : Int32) (a4 : Int32) (a5 : Int32) (S : St) (I_S : Inv S) (RD_S : RD S) (RK_S : RK S) (TQ_S : TQ S) (RO_S : RO S) (EE_S : EE S) : Sf (fc_22 fu a1 a2 a3 a4 a5 S) (fun U r => Inv U ∧ Fr [(63, 1)] S U ∧ ((r.toInt = 1)) ∧ RD U ∧ RK U ∧ TQ U ∧ RO U ∧ EE U) := by
  unfold fc_22
  have F_S : Fr [(63, 1)] S S := Fr.refl _ _
  refine Sf.bp (s_fX11_data fu hfu a1 S I_S) (fun r_988 p_r_988 => ?_)
  refine Sf.b (s_fX12_data fu hfu a1 S I_S) (fun S_999 r_999 p_r_999 => ?_)
  obtain ⟨I_S_999, G_S_999, p_r_999⟩ := p_r_999
  have F_S_999 := Fr.tr F_S G_S_999 rfl
  have EE_S_999 := EE_fr (U := S_999) EE_S (G_S_999 23 4 rfl) (G_S_999 63 23 rfl) (fun b => G_S_999 24 b rfl) (fun b => G_S_999 79 b rfl)
  have RD_S_999 := RD_fr (U := S_999) RD_S (G_S_999 63 20 rfl) (fun b => G_S_999 76 b rfl) (fun b => G_S_999 77 b rfl)
  have RK_S_999 := RK_fr (U := S_999) RK_S (G_S_999 63 50 rfl) (fun b => G_S_999 92 b rfl) (fun b => G_S_999 93 b rfl) (fun b => G_S_999 94 b rfl)
  have RO_S_999 := RO_fr (U := S_999) RO_S (G_S_999 63 67 rfl) (G_S_999 63 62 rfl) (fun b => G_S_999 100 b rfl)
  have TQ_S_999 := TQ_fr (U := S_999) TQ_S (G_S_999 63 62 rfl) (G_S_999 63 65 rfl) (fun b => G_S_999 102 b rfl)
  have h1 : ((1 : Int32)).toInt = 1 := li_1
  exact Sf.so ⟨I_S_999, F_S_999, by omega, RD_S_999, RK_S_999, TQ_S_999, RO_S_999, EE_S_999⟩
set_option maxHeartbeats 4000000 in
theorem s_fc_23 (fu : Nat) (hfu : 1000000000000000000 ≤ fu) (a1 : Int32) (a2 : Int32) (a3 : Int32) (a4 : Int32) (a5 : Int32) (S : St) (I_S : Inv S) (RD_S : RD S) (RK_S : RK S) (TQ_S : TQ S) (RO_S : RO S) (EE_S : EE S) : Sf (fc_23 fu a1 a2 a3 a4 a5 S) (fun U r => Inv U ∧ Fr [(63, 1)] S U ∧ ((r.toInt = 1)) ∧ RD U ∧ RK U ∧ TQ U ∧ RO U ∧ EE U) := by
  unfold fc_23
  have F_S : Fr [(63, 1)] S S := Fr.refl _ _
  refine Sf.b (s_fL_cached fu hfu a1 a2 S I_S) (fun S_1020 r_1020 p_r_1020 => ?_)
  obtain ⟨I_S_1020, G_S_1020, p_r_1020⟩ := p_r_1020
  have F_S_1020 := Fr.tr F_S G_S_1020 rfl
  have EE_S_1020 := EE_fr (U := S_1020) EE_S (G_S_1020 23 4 rfl) (G_S_1020 63 23 rfl) (fun b => G_S_1020 24 b rfl) (fun b => G_S_1020 79 b rfl)
  have RD_S_1020 := RD_fr (U := S_1020) RD_S (G_S_1020 63 20 rfl) (fun b => G_S_1020 76 b rfl) (fun b => G_S_1020 77 b rfl)
  have RK_S_1020 := RK_fr (U := S_1020) RK_S (G_S_1020 63 50 rfl) (fun b => G_S_1020 92 b rfl) (fun b => G_S_1020 93 b rfl) (fun b => G_S_1020 94 b rfl)
  have RO_S_1020 := RO_fr (U := S_1020) RO_S (G_S_1020 63 67 rfl) (G_S_1020 63 62 rfl) (fun b => G_S_1020 100 b rfl)
  have TQ_S_1020 := TQ_fr (U := S_1020) TQ_S (G_S_1020 63 62 rfl) (G_S_1020 63 65 rfl) (fun b => G_S_1020 102 b rfl)
  refine Sf.b (s_fX12_cached fu hfu a1 a2 S_1020 I_S_1020) (fun S_1038 r_1038 p_r_1038 => ?_)
  obtain ⟨I_S_1038, G_S_1038, p_r_1038⟩ := p_r_1038
  have F_S_1038 := Fr.tr F_S_1020 G_S_1038 rfl
  have EE_S_1038 := EE_fr (U := S_1038) EE_S_1020 (G_S_1038 23 4 rfl) (G_S_1038 63 23 rfl) (fun b => G_S_1038 24 b rfl) (fun b => G_S_1038 79 b rfl)
  have RD_S_1038 := RD_fr (U := S_1038) RD_S_1020 (G_S_1038 63 20 rfl) (fun b => G_S_1038 76 b rfl) (fun b => G_S_1038 77 b rfl)
  have RK_S_1038 := RK_fr (U := S_1038) RK_S_1020 (G_S_1038 63 50 rfl) (fun b => G_S_1038 92 b rfl) (fun b => G_S_1038 93 b rfl) (fun b => G_S_1038 94 b rfl)
  have RO_S_1038 := RO_fr (U := S_1038) RO_S_1020 (G_S_1038 63 67 rfl) (G_S_1038 63 62 rfl) (fun b => G_S_1038 100 b rfl)
  have TQ_S_1038 := TQ_fr (U := S_1038) TQ_S_1020 (G_S_1038 63 62 rfl) (G_S_1038 63 65 rfl) (fun b => G_S_1038 102 b rfl)
  have h1 : ((1 : Int32)).toInt = 1 := li_1
  exact Sf.so ⟨I_S_1038, F_S_1038, by omega, RD_S_1038, RK_S_1038, TQ_S_1038, RO_S_1038, EE_S_1038⟩
set_option maxHeartbeats 4000000 in
theorem s_fc_24 (fu : Nat) (hfu : 1000000000000000000 ≤ fu) (a1 : Int32) (a2 : Int32) (a3 : Int32) (a4 : Int32) (a5 : Int32) (S : St) (I_S : Inv S) (RD_S : RD S) (RK_S : RK S) (TQ_S : TQ S) (RO_S : RO S) (EE_S : EE S) : Sf (fc_24 fu a1 a2 a3 a4 a5 S) (fun U r => Inv U ∧ Fr [(63, 1)] S U ∧ ((r.toInt = 1)) ∧ RD U ∧ RK U ∧ TQ U ∧ RO U ∧ EE U) := by
  unfold fc_24
  have F_S : Fr [(63, 1)] S S := Fr.refl _ _
  refine Sf.bp (s_fX11_count fu hfu a1 S I_S) (fun r_1053 p_r_1053 => ?_)
  refine Sf.b (s_fX12_count fu hfu a1 S I_S) (fun S_1064 r_1064 p_r_1064 => ?_)
  obtain ⟨I_S_1064, G_S_1064, p_r_1064⟩ := p_r_1064
  have F_S_1064 := Fr.tr F_S G_S_1064 rfl
  have EE_S_1064 := EE_fr (U := S_1064) EE_S (G_S_1064 23 4 rfl) (G_S_1064 63 23 rfl) (fun b => G_S_1064 24 b rfl) (fun b => G_S_1064 79 b rfl)
  have RD_S_1064 := RD_fr (U := S_1064) RD_S (G_S_1064 63 20 rfl) (fun b => G_S_1064 76 b rfl) (fun b => G_S_1064 77 b rfl)
  have RK_S_1064 := RK_fr (U := S_1064) RK_S (G_S_1064 63 50 rfl) (fun b => G_S_1064 92 b rfl) (fun b => G_S_1064 93 b rfl) (fun b => G_S_1064 94 b rfl)
  have RO_S_1064 := RO_fr (U := S_1064) RO_S (G_S_1064 63 67 rfl) (G_S_1064 63 62 rfl) (fun b => G_S_1064 100 b rfl)
  have TQ_S_1064 := TQ_fr (U := S_1064) TQ_S (G_S_1064 63 62 rfl) (G_S_1064 63 65 rfl) (fun b => G_S_1064 102 b rfl)
  have h1 : ((1 : Int32)).toInt = 1 := li_1
  exact Sf.so ⟨I_S_1064, F_S_1064, by omega, RD_S_1064, RK_S_1064, TQ_S_1064, RO_S_1064, EE_S_1064⟩
