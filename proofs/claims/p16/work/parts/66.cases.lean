def EE (S : St) : Prop := S.1 49 4 = S.1 63 25
theorem EE_fr {S U : St} (h : EE S) (e1 : U.1 49 4 = S.1 49 4) (e2 : U.1 63 25 = S.1 63 25) : EE U := by
  unfold EE
  rw [e1, e2]; exact h
set_option maxHeartbeats 4000000 in
theorem s_fc_0 (fu : Nat) (hfu : 1000000000000000000 ≤ fu) (a1 : Int32) (a2 : Int32) (a3 : Int32) (a4 : Int32) (a5 : Int32) (S : St) (I_S : Inv S) (RD_S : RD S) (RK_S : RK S) (TQ_S : TQ S) (RO_S : RO S) (EE_S : EE S) : Sf (fc_0 fu a1 a2 a3 a4 a5 S) (fun U r => Inv U ∧ Fr [(1, 2), (1, 3), (2, 0), (63, 1), (63, 11), (70, 0), (71, 0)] S U ∧ ((r.toInt = 1)) ∧ RD U ∧ RK U ∧ TQ U ∧ RO U ∧ EE U) := by
  unfold fc_0
  have F_S : Fr [(1, 2), (1, 3), (2, 0), (63, 1), (63, 11), (70, 0), (71, 0)] S S := Fr.refl _ _
  refine Sf.b (s_fX11_feed fu hfu a1 a2 a3 a4 a5 S I_S) (fun S_187 r_187 p_r_187 => ?_)
  obtain ⟨I_S_187, G_S_187, p_r_187⟩ := p_r_187
  have F_S_187 := Fr.tr F_S G_S_187 rfl
  have EE_S_187 := EE_fr (U := S_187) EE_S (G_S_187 49 4 rfl) (G_S_187 63 25 rfl)
  have RD_S_187 := RD_fr (U := S_187) RD_S (G_S_187 63 20 rfl) (fun b => G_S_187 76 b rfl) (fun b => G_S_187 77 b rfl)
  have RK_S_187 := RK_fr (U := S_187) RK_S (G_S_187 63 50 rfl) (fun b => G_S_187 92 b rfl) (fun b => G_S_187 93 b rfl) (fun b => G_S_187 94 b rfl)
  have RO_S_187 := RO_fr (U := S_187) RO_S (G_S_187 63 67 rfl) (G_S_187 63 62 rfl) (fun b => G_S_187 100 b rfl)
  have TQ_S_187 := TQ_fr (U := S_187) TQ_S (G_S_187 63 62 rfl) (G_S_187 63 65 rfl) (fun b => G_S_187 102 b rfl)
  refine Sf.b (s_fX12_feed fu hfu a1 a2 a3 a4 a5 S_187 I_S_187) (fun S_222 r_222 p_r_222 => ?_)
  obtain ⟨I_S_222, G_S_222, p_r_222⟩ := p_r_222
  have F_S_222 := Fr.tr F_S_187 G_S_222 rfl
  have EE_S_222 := EE_fr (U := S_222) EE_S_187 (G_S_222 49 4 rfl) (G_S_222 63 25 rfl)
  have RD_S_222 := RD_fr (U := S_222) RD_S_187 (G_S_222 63 20 rfl) (fun b => G_S_222 76 b rfl) (fun b => G_S_222 77 b rfl)
  have RK_S_222 := RK_fr (U := S_222) RK_S_187 (G_S_222 63 50 rfl) (fun b => G_S_222 92 b rfl) (fun b => G_S_222 93 b rfl) (fun b => G_S_222 94 b rfl)
  have RO_S_222 := RO_fr (U := S_222) RO_S_187 (G_S_222 63 67 rfl) (G_S_222 63 62 rfl) (fun b => G_S_222 100 b rfl)
  have TQ_S_222 := TQ_fr (U := S_222) TQ_S_187 (G_S_222 63 62 rfl) (G_S_222 63 65 rfl) (fun b => G_S_222 102 b rfl)
  have h1 : ((1 : Int32)).toInt = 1 := li_1
  exact Sf.so ⟨I_S_222, F_S_222, by omega, RD_S_222, RK_S_222, TQ_S_222, RO_S_222, EE_S_222⟩
set_option maxHeartbeats 4000000 in
theorem s_fc_1 (fu : Nat) (hfu : 1000000000000000000 ≤ fu) (a1 : Int32) (a2 : Int32) (a3 : Int32) (a4 : Int32) (a5 : Int32) (S : St) (I_S : Inv S) (RD_S : RD S) (RK_S : RK S) (TQ_S : TQ S) (RO_S : RO S) (EE_S : EE S) : Sf (fc_1 fu a1 a2 a3 a4 a5 S) (fun U r => Inv U ∧ Fr [(1, 2), (63, 1), (63, 11)] S U ∧ ((r.toInt = 1)) ∧ RD U ∧ RK U ∧ TQ U ∧ RO U ∧ EE U) := by
  unfold fc_1
  have F_S : Fr [(1, 2), (63, 1), (63, 11)] S S := Fr.refl _ _
  refine Sf.b (s_fX11_end fu hfu a1 S I_S) (fun S_236 r_236 p_r_236 => ?_)
  obtain ⟨I_S_236, G_S_236, p_r_236⟩ := p_r_236
  have F_S_236 := Fr.tr F_S G_S_236 rfl
  have EE_S_236 := EE_fr (U := S_236) EE_S (G_S_236 49 4 rfl) (G_S_236 63 25 rfl)
  have RD_S_236 := RD_fr (U := S_236) RD_S (G_S_236 63 20 rfl) (fun b => G_S_236 76 b rfl) (fun b => G_S_236 77 b rfl)
  have RK_S_236 := RK_fr (U := S_236) RK_S (G_S_236 63 50 rfl) (fun b => G_S_236 92 b rfl) (fun b => G_S_236 93 b rfl) (fun b => G_S_236 94 b rfl)
  have RO_S_236 := RO_fr (U := S_236) RO_S (G_S_236 63 67 rfl) (G_S_236 63 62 rfl) (fun b => G_S_236 100 b rfl)
  have TQ_S_236 := TQ_fr (U := S_236) TQ_S (G_S_236 63 62 rfl) (G_S_236 63 65 rfl) (fun b => G_S_236 102 b rfl)
  refine Sf.b (s_fX12_end fu hfu a1 S_236 I_S_236) (fun S_247 r_247 p_r_247 => ?_)
  obtain ⟨I_S_247, G_S_247, p_r_247⟩ := p_r_247
  have F_S_247 := Fr.tr F_S_236 G_S_247 rfl
  have EE_S_247 := EE_fr (U := S_247) EE_S_236 (G_S_247 49 4 rfl) (G_S_247 63 25 rfl)
  have RD_S_247 := RD_fr (U := S_247) RD_S_236 (G_S_247 63 20 rfl) (fun b => G_S_247 76 b rfl) (fun b => G_S_247 77 b rfl)
  have RK_S_247 := RK_fr (U := S_247) RK_S_236 (G_S_247 63 50 rfl) (fun b => G_S_247 92 b rfl) (fun b => G_S_247 93 b rfl) (fun b => G_S_247 94 b rfl)
  have RO_S_247 := RO_fr (U := S_247) RO_S_236 (G_S_247 63 67 rfl) (G_S_247 63 62 rfl) (fun b => G_S_247 100 b rfl)
  have TQ_S_247 := TQ_fr (U := S_247) TQ_S_236 (G_S_247 63 62 rfl) (G_S_247 63 65 rfl) (fun b => G_S_247 102 b rfl)
  have h1 : ((1 : Int32)).toInt = 1 := li_1
  exact Sf.so ⟨I_S_247, F_S_247, by omega, RD_S_247, RK_S_247, TQ_S_247, RO_S_247, EE_S_247⟩
set_option maxHeartbeats 4000000 in
theorem s_fc_2 (fu : Nat) (hfu : 1000000000000000000 ≤ fu) (a1 : Int32) (a2 : Int32) (a3 : Int32) (a4 : Int32) (a5 : Int32) (S : St) (I_S : Inv S) (RD_S : RD S) (RK_S : RK S) (TQ_S : TQ S) (RO_S : RO S) (EE_S : EE S) : Sf (fc_2 fu a1 a2 a3 a4 a5 S) (fun U r => Inv U ∧ Fr [(2, 0), (63, 1), (70, 0)] S U ∧ ((r.toInt = 1)) ∧ RD U ∧ RK U ∧ TQ U ∧ RO U ∧ EE U) := by
  unfold fc_2
  have F_S : Fr [(2, 0), (63, 1), (70, 0)] S S := Fr.refl _ _
  refine Sf.b (s_fX11_turn fu hfu a1 a2 S I_S) (fun S_267 r_267 p_r_267 => ?_)
  obtain ⟨I_S_267, G_S_267, p_r_267⟩ := p_r_267
  have F_S_267 := Fr.tr F_S G_S_267 rfl
  have EE_S_267 := EE_fr (U := S_267) EE_S (G_S_267 49 4 rfl) (G_S_267 63 25 rfl)
  have RD_S_267 := RD_fr (U := S_267) RD_S (G_S_267 63 20 rfl) (fun b => G_S_267 76 b rfl) (fun b => G_S_267 77 b rfl)
  have RK_S_267 := RK_fr (U := S_267) RK_S (G_S_267 63 50 rfl) (fun b => G_S_267 92 b rfl) (fun b => G_S_267 93 b rfl) (fun b => G_S_267 94 b rfl)
  have RO_S_267 := RO_fr (U := S_267) RO_S (G_S_267 63 67 rfl) (G_S_267 63 62 rfl) (fun b => G_S_267 100 b rfl)
  have TQ_S_267 := TQ_fr (U := S_267) TQ_S (G_S_267 63 62 rfl) (G_S_267 63 65 rfl) (fun b => G_S_267 102 b rfl)
  refine Sf.b (s_fX12_turn fu hfu a1 a2 S_267 I_S_267) (fun S_284 r_284 p_r_284 => ?_)
  obtain ⟨I_S_284, G_S_284, p_r_284⟩ := p_r_284
  have F_S_284 := Fr.tr F_S_267 G_S_284 rfl
  have EE_S_284 := EE_fr (U := S_284) EE_S_267 (G_S_284 49 4 rfl) (G_S_284 63 25 rfl)
  have RD_S_284 := RD_fr (U := S_284) RD_S_267 (G_S_284 63 20 rfl) (fun b => G_S_284 76 b rfl) (fun b => G_S_284 77 b rfl)
  have RK_S_284 := RK_fr (U := S_284) RK_S_267 (G_S_284 63 50 rfl) (fun b => G_S_284 92 b rfl) (fun b => G_S_284 93 b rfl) (fun b => G_S_284 94 b rfl)
  have RO_S_284 := RO_fr (U := S_284) RO_S_267 (G_S_284 63 67 rfl) (G_S_284 63 62 rfl) (fun b => G_S_284 100 b rfl)
  have TQ_S_284 := TQ_fr (U := S_284) TQ_S_267 (G_S_284 63 62 rfl) (G_S_284 63 65 rfl) (fun b => G_S_284 102 b rfl)
  have h1 : ((1 : Int32)).toInt = 1 := li_1
  exact Sf.so ⟨I_S_284, F_S_284, by omega, RD_S_284, RK_S_284, TQ_S_284, RO_S_284, EE_S_284⟩
set_option maxHeartbeats 4000000 in
theorem s_fc_3 (fu : Nat) (hfu : 1000000000000000000 ≤ fu) (a1 : Int32) (a2 : Int32) (a3 : Int32) (a4 : Int32) (a5 : Int32) (S : St) (I_S : Inv S) (RD_S : RD S) (RK_S : RK S) (TQ_S : TQ S) (RO_S : RO S) (EE_S : EE S) : Sf (fc_3 fu a1 a2 a3 a4 a5 S) (fun U r => Inv U ∧ Fr [(1, 2), (1, 3), (3, 4), (4, 0), (6, 0), (7, 3), (9, 0), (63, 1), (63, 6), (63, 9), (63, 11), (64, 0), (65, 0), (66, 0), (67, 0), (68, 0), (69, 0)] S U ∧ ((r.toInt = 1)) ∧ RD U ∧ RK U ∧ TQ U ∧ RO U ∧ EE U) := by
  unfold fc_3
  have F_S : Fr [(1, 2), (1, 3), (3, 4), (4, 0), (6, 0), (7, 3), (9, 0), (63, 1), (63, 6), (63, 9), (63, 11), (64, 0), (65, 0), (66, 0), (67, 0), (68, 0), (69, 0)] S S := Fr.refl _ _
  refine Sf.b (s_fL_name fu hfu S I_S) (fun S_293 r_293 p_r_293 => ?_)
  obtain ⟨I_S_293, G_S_293, p_r_293⟩ := p_r_293
  have F_S_293 := Fr.tr F_S G_S_293 rfl
  have EE_S_293 := EE_fr (U := S_293) EE_S (G_S_293 49 4 rfl) (G_S_293 63 25 rfl)
  have RD_S_293 := RD_fr (U := S_293) RD_S (G_S_293 63 20 rfl) (fun b => G_S_293 76 b rfl) (fun b => G_S_293 77 b rfl)
  have RK_S_293 := RK_fr (U := S_293) RK_S (G_S_293 63 50 rfl) (fun b => G_S_293 92 b rfl) (fun b => G_S_293 93 b rfl) (fun b => G_S_293 94 b rfl)
  have RO_S_293 := RO_fr (U := S_293) RO_S (G_S_293 63 67 rfl) (G_S_293 63 62 rfl) (fun b => G_S_293 100 b rfl)
  have TQ_S_293 := TQ_fr (U := S_293) TQ_S (G_S_293 63 62 rfl) (G_S_293 63 65 rfl) (fun b => G_S_293 102 b rfl)
  refine Sf.b (s_fX12_name fu hfu S_293 I_S_293) (fun S_299 r_299 p_r_299 => ?_)
  obtain ⟨I_S_299, G_S_299, p_r_299⟩ := p_r_299
  have F_S_299 := Fr.tr F_S_293 G_S_299 rfl
  have EE_S_299 := EE_fr (U := S_299) EE_S_293 (G_S_299 49 4 rfl) (G_S_299 63 25 rfl)
  have RD_S_299 := RD_fr (U := S_299) RD_S_293 (G_S_299 63 20 rfl) (fun b => G_S_299 76 b rfl) (fun b => G_S_299 77 b rfl)
  have RK_S_299 := RK_fr (U := S_299) RK_S_293 (G_S_299 63 50 rfl) (fun b => G_S_299 92 b rfl) (fun b => G_S_299 93 b rfl) (fun b => G_S_299 94 b rfl)
  have RO_S_299 := RO_fr (U := S_299) RO_S_293 (G_S_299 63 67 rfl) (G_S_299 63 62 rfl) (fun b => G_S_299 100 b rfl)
  have TQ_S_299 := TQ_fr (U := S_299) TQ_S_293 (G_S_299 63 62 rfl) (G_S_299 63 65 rfl) (fun b => G_S_299 102 b rfl)
  have h1 : ((1 : Int32)).toInt = 1 := li_1
  exact Sf.so ⟨I_S_299, F_S_299, by omega, RD_S_299, RK_S_299, TQ_S_299, RO_S_299, EE_S_299⟩
set_option maxHeartbeats 4000000 in
theorem s_fc_4 (fu : Nat) (hfu : 1000000000000000000 ≤ fu) (a1 : Int32) (a2 : Int32) (a3 : Int32) (a4 : Int32) (a5 : Int32) (S : St) (I_S : Inv S) (RD_S : RD S) (RK_S : RK S) (TQ_S : TQ S) (RO_S : RO S) (EE_S : EE S) : Sf (fc_4 fu a1 a2 a3 a4 a5 S) (fun U r => Inv U ∧ Fr [(63, 1)] S U ∧ ((r.toInt = 1)) ∧ RD U ∧ RK U ∧ TQ U ∧ RO U ∧ EE U) := by
  unfold fc_4
  have F_S : Fr [(63, 1)] S S := Fr.refl _ _
  refine Sf.b (s_fL_look fu hfu a1 a2 S I_S) (fun S_321 r_321 p_r_321 => ?_)
  obtain ⟨I_S_321, G_S_321, p_r_321⟩ := p_r_321
  have F_S_321 := Fr.tr F_S G_S_321 rfl
  have EE_S_321 := EE_fr (U := S_321) EE_S (G_S_321 49 4 rfl) (G_S_321 63 25 rfl)
  have RD_S_321 := RD_fr (U := S_321) RD_S (G_S_321 63 20 rfl) (fun b => G_S_321 76 b rfl) (fun b => G_S_321 77 b rfl)
  have RK_S_321 := RK_fr (U := S_321) RK_S (G_S_321 63 50 rfl) (fun b => G_S_321 92 b rfl) (fun b => G_S_321 93 b rfl) (fun b => G_S_321 94 b rfl)
  have RO_S_321 := RO_fr (U := S_321) RO_S (G_S_321 63 67 rfl) (G_S_321 63 62 rfl) (fun b => G_S_321 100 b rfl)
  have TQ_S_321 := TQ_fr (U := S_321) TQ_S (G_S_321 63 62 rfl) (G_S_321 63 65 rfl) (fun b => G_S_321 102 b rfl)
  refine Sf.b (s_fX12_look fu hfu a1 a2 S_321 I_S_321) (fun S_339 r_339 p_r_339 => ?_)
  obtain ⟨I_S_339, G_S_339, p_r_339⟩ := p_r_339
  have F_S_339 := Fr.tr F_S_321 G_S_339 rfl
  have EE_S_339 := EE_fr (U := S_339) EE_S_321 (G_S_339 49 4 rfl) (G_S_339 63 25 rfl)
  have RD_S_339 := RD_fr (U := S_339) RD_S_321 (G_S_339 63 20 rfl) (fun b => G_S_339 76 b rfl) (fun b => G_S_339 77 b rfl)
  have RK_S_339 := RK_fr (U := S_339) RK_S_321 (G_S_339 63 50 rfl) (fun b => G_S_339 92 b rfl) (fun b => G_S_339 93 b rfl) (fun b => G_S_339 94 b rfl)
  have RO_S_339 := RO_fr (U := S_339) RO_S_321 (G_S_339 63 67 rfl) (G_S_339 63 62 rfl) (fun b => G_S_339 100 b rfl)
  have TQ_S_339 := TQ_fr (U := S_339) TQ_S_321 (G_S_339 63 62 rfl) (G_S_339 63 65 rfl) (fun b => G_S_339 102 b rfl)
  have h1 : ((1 : Int32)).toInt = 1 := li_1
  exact Sf.so ⟨I_S_339, F_S_339, by omega, RD_S_339, RK_S_339, TQ_S_339, RO_S_339, EE_S_339⟩
set_option maxHeartbeats 4000000 in
theorem s_fc_5 (fu : Nat) (hfu : 1000000000000000000 ≤ fu) (a1 : Int32) (a2 : Int32) (a3 : Int32) (a4 : Int32) (a5 : Int32) (S : St) (I_S : Inv S) (RD_S : RD S) (RK_S : RK S) (TQ_S : TQ S) (RO_S : RO S) (EE_S : EE S) : Sf (fc_5 fu a1 a2 a3 a4 a5 S) (fun U r => Inv U ∧ Fr [(63, 1)] S U ∧ ((r.toInt = 1)) ∧ RD U ∧ RK U ∧ TQ U ∧ RO U ∧ EE U) := by
  unfold fc_5
  have F_S : Fr [(63, 1)] S S := Fr.refl _ _
  refine Sf.b (s_fL_text fu hfu a1 a2 S I_S) (fun S_361 r_361 p_r_361 => ?_)
  obtain ⟨I_S_361, G_S_361, p_r_361⟩ := p_r_361
  have F_S_361 := Fr.tr F_S G_S_361 rfl
  have EE_S_361 := EE_fr (U := S_361) EE_S (G_S_361 49 4 rfl) (G_S_361 63 25 rfl)
  have RD_S_361 := RD_fr (U := S_361) RD_S (G_S_361 63 20 rfl) (fun b => G_S_361 76 b rfl) (fun b => G_S_361 77 b rfl)
  have RK_S_361 := RK_fr (U := S_361) RK_S (G_S_361 63 50 rfl) (fun b => G_S_361 92 b rfl) (fun b => G_S_361 93 b rfl) (fun b => G_S_361 94 b rfl)
  have RO_S_361 := RO_fr (U := S_361) RO_S (G_S_361 63 67 rfl) (G_S_361 63 62 rfl) (fun b => G_S_361 100 b rfl)
  have TQ_S_361 := TQ_fr (U := S_361) TQ_S (G_S_361 63 62 rfl) (G_S_361 63 65 rfl) (fun b => G_S_361 102 b rfl)
  refine Sf.b (s_fX12_text fu hfu a1 a2 S_361 I_S_361) (fun S_379 r_379 p_r_379 => ?_)
  obtain ⟨I_S_379, G_S_379, p_r_379⟩ := p_r_379
  have F_S_379 := Fr.tr F_S_361 G_S_379 rfl
  have EE_S_379 := EE_fr (U := S_379) EE_S_361 (G_S_379 49 4 rfl) (G_S_379 63 25 rfl)
  have RD_S_379 := RD_fr (U := S_379) RD_S_361 (G_S_379 63 20 rfl) (fun b => G_S_379 76 b rfl) (fun b => G_S_379 77 b rfl)
  have RK_S_379 := RK_fr (U := S_379) RK_S_361 (G_S_379 63 50 rfl) (fun b => G_S_379 92 b rfl) (fun b => G_S_379 93 b rfl) (fun b => G_S_379 94 b rfl)
  have RO_S_379 := RO_fr (U := S_379) RO_S_361 (G_S_379 63 67 rfl) (G_S_379 63 62 rfl) (fun b => G_S_379 100 b rfl)
  have TQ_S_379 := TQ_fr (U := S_379) TQ_S_361 (G_S_379 63 62 rfl) (G_S_379 63 65 rfl) (fun b => G_S_379 102 b rfl)
  have h1 : ((1 : Int32)).toInt = 1 := li_1
  exact Sf.so ⟨I_S_379, F_S_379, by omega, RD_S_379, RK_S_379, TQ_S_379, RO_S_379, EE_S_379⟩
set_option maxHeartbeats 4000000 in
theorem s_fc_6 (fu : Nat) (hfu : 1000000000000000000 ≤ fu) (a1 : Int32) (a2 : Int32) (a3 : Int32) (a4 : Int32) (a5 : Int32) (S : St) (I_S : Inv S) (RD_S : RD S) (RK_S : RK S) (TQ_S : TQ S) (RO_S : RO S) (EE_S : EE S) : Sf (fc_6 fu a1 a2 a3 a4 a5 S) (fun U r => Inv U ∧ Fr [(10, 4), (11, 0), (12, 0), (63, 1), (63, 15), (72, 0), (73, 0)] S U ∧ ((r.toInt = 1)) ∧ RD U ∧ RK U ∧ TQ U ∧ RO U ∧ EE U) := by
  unfold fc_6
  have F_S : Fr [(10, 4), (11, 0), (12, 0), (63, 1), (63, 15), (72, 0), (73, 0)] S S := Fr.refl _ _
  refine Sf.b (s_fL_zone fu hfu a1 a2 S I_S) (fun S_401 r_401 p_r_401 => ?_)
  obtain ⟨I_S_401, G_S_401, p_r_401⟩ := p_r_401
  have F_S_401 := Fr.tr F_S G_S_401 rfl
  have EE_S_401 := EE_fr (U := S_401) EE_S (G_S_401 49 4 rfl) (G_S_401 63 25 rfl)
  have RD_S_401 := RD_fr (U := S_401) RD_S (G_S_401 63 20 rfl) (fun b => G_S_401 76 b rfl) (fun b => G_S_401 77 b rfl)
  have RK_S_401 := RK_fr (U := S_401) RK_S (G_S_401 63 50 rfl) (fun b => G_S_401 92 b rfl) (fun b => G_S_401 93 b rfl) (fun b => G_S_401 94 b rfl)
  have RO_S_401 := RO_fr (U := S_401) RO_S (G_S_401 63 67 rfl) (G_S_401 63 62 rfl) (fun b => G_S_401 100 b rfl)
  have TQ_S_401 := TQ_fr (U := S_401) TQ_S (G_S_401 63 62 rfl) (G_S_401 63 65 rfl) (fun b => G_S_401 102 b rfl)
  refine Sf.b (s_fX12_zone fu hfu a1 a2 S_401 I_S_401) (fun S_419 r_419 p_r_419 => ?_)
  obtain ⟨I_S_419, G_S_419, p_r_419⟩ := p_r_419
  have F_S_419 := Fr.tr F_S_401 G_S_419 rfl
  have EE_S_419 := EE_fr (U := S_419) EE_S_401 (G_S_419 49 4 rfl) (G_S_419 63 25 rfl)
  have RD_S_419 := RD_fr (U := S_419) RD_S_401 (G_S_419 63 20 rfl) (fun b => G_S_419 76 b rfl) (fun b => G_S_419 77 b rfl)
  have RK_S_419 := RK_fr (U := S_419) RK_S_401 (G_S_419 63 50 rfl) (fun b => G_S_419 92 b rfl) (fun b => G_S_419 93 b rfl) (fun b => G_S_419 94 b rfl)
  have RO_S_419 := RO_fr (U := S_419) RO_S_401 (G_S_419 63 67 rfl) (G_S_419 63 62 rfl) (fun b => G_S_419 100 b rfl)
  have TQ_S_419 := TQ_fr (U := S_419) TQ_S_401 (G_S_419 63 62 rfl) (G_S_419 63 65 rfl) (fun b => G_S_419 102 b rfl)
  have h1 : ((1 : Int32)).toInt = 1 := li_1
  exact Sf.so ⟨I_S_419, F_S_419, by omega, RD_S_419, RK_S_419, TQ_S_419, RO_S_419, EE_S_419⟩
set_option maxHeartbeats 4000000 in
theorem s_fc_7 (fu : Nat) (hfu : 1000000000000000000 ≤ fu) (a1 : Int32) (a2 : Int32) (a3 : Int32) (a4 : Int32) (a5 : Int32) (S : St) (I_S : Inv S) (RD_S : RD S) (RK_S : RK S) (TQ_S : TQ S) (RO_S : RO S) (EE_S : EE S) : Sf (fc_7 fu a1 a2 a3 a4 a5 S) (fun U r => Inv U ∧ Fr [(10, 10), (13, 0), (14, 0), (15, 0), (16, 0), (17, 0), (63, 1), (63, 21), (74, 0), (75, 0), (76, 0), (77, 0), (78, 0)] S U ∧ ((r.toInt = 1)) ∧ RD U ∧ RK U ∧ TQ U ∧ RO U ∧ EE U) := by
  unfold fc_7
  have F_S : Fr [(10, 10), (13, 0), (14, 0), (15, 0), (16, 0), (17, 0), (63, 1), (63, 21), (74, 0), (75, 0), (76, 0), (77, 0), (78, 0)] S S := Fr.refl _ _
  refine Sf.b (s_fL_record fu hfu a1 a2 a3 a4 a5 S I_S) (fun S_459 r_459 p_r_459 => ?_)
  obtain ⟨I_S_459, G_S_459, p_r_459⟩ := p_r_459
  have F_S_459 := Fr.tr F_S G_S_459 rfl
  have EE_S_459 := EE_fr (U := S_459) EE_S (G_S_459 49 4 rfl) (G_S_459 63 25 rfl)
  have RD_S_459 := RD_fr (U := S_459) RD_S (G_S_459 63 20 rfl) (fun b => G_S_459 76 b rfl) (fun b => G_S_459 77 b rfl)
  have RK_S_459 := RK_fr (U := S_459) RK_S (G_S_459 63 50 rfl) (fun b => G_S_459 92 b rfl) (fun b => G_S_459 93 b rfl) (fun b => G_S_459 94 b rfl)
  have RO_S_459 := RO_fr (U := S_459) RO_S (G_S_459 63 67 rfl) (G_S_459 63 62 rfl) (fun b => G_S_459 100 b rfl)
  have TQ_S_459 := TQ_fr (U := S_459) TQ_S (G_S_459 63 62 rfl) (G_S_459 63 65 rfl) (fun b => G_S_459 102 b rfl)
  refine Sf.b (s_fX12_record fu hfu a1 a2 a3 a4 a5 S_459 I_S_459 RD_S_459) (fun S_495 r_495 p_r_495 => ?_)
  obtain ⟨I_S_495, G_S_495, p_r_495, RD_S_495⟩ := p_r_495
  have F_S_495 := Fr.tr F_S_459 G_S_495 rfl
  have EE_S_495 := EE_fr (U := S_495) EE_S_459 (G_S_495 49 4 rfl) (G_S_495 63 25 rfl)
  have RK_S_495 := RK_fr (U := S_495) RK_S_459 (G_S_495 63 50 rfl) (fun b => G_S_495 92 b rfl) (fun b => G_S_495 93 b rfl) (fun b => G_S_495 94 b rfl)
  have RO_S_495 := RO_fr (U := S_495) RO_S_459 (G_S_495 63 67 rfl) (G_S_495 63 62 rfl) (fun b => G_S_495 100 b rfl)
  have TQ_S_495 := TQ_fr (U := S_495) TQ_S_459 (G_S_495 63 62 rfl) (G_S_495 63 65 rfl) (fun b => G_S_495 102 b rfl)
  have h1 : ((1 : Int32)).toInt = 1 := li_1
  exact Sf.so ⟨I_S_495, F_S_495, by omega, RD_S_495, RK_S_495, TQ_S_495, RO_S_495, EE_S_495⟩
set_option maxHeartbeats 4000000 in
theorem s_fc_8 (fu : Nat) (hfu : 1000000000000000000 ≤ fu) (a1 : Int32) (a2 : Int32) (a3 : Int32) (a4 : Int32) (a5 : Int32) (S : St) (I_S : Inv S) (RD_S : RD S) (RK_S : RK S) (TQ_S : TQ S) (RO_S : RO S) (EE_S : EE S) : Sf (fc_8 fu a1 a2 a3 a4 a5 S) (fun U r => Inv U ∧ Fr [(10, 10), (13, 0), (14, 0), (15, 0), (16, 0), (17, 0), (63, 1), (63, 21), (74, 0), (75, 0), (76, 0), (77, 0), (78, 0)] S U ∧ ((r.toInt = 1)) ∧ RD U ∧ RK U ∧ TQ U ∧ RO U ∧ EE U) := by
  unfold fc_8
  have F_S : Fr [(10, 10), (13, 0), (14, 0), (15, 0), (16, 0), (17, 0), (63, 1), (63, 21), (74, 0), (75, 0), (76, 0), (77, 0), (78, 0)] S S := Fr.refl _ _
  refine Sf.b (s_fL_drop fu hfu a1 a2 a3 S I_S) (fun S_523 r_523 p_r_523 => ?_)
  obtain ⟨I_S_523, G_S_523, p_r_523⟩ := p_r_523
  have F_S_523 := Fr.tr F_S G_S_523 rfl
  have EE_S_523 := EE_fr (U := S_523) EE_S (G_S_523 49 4 rfl) (G_S_523 63 25 rfl)
  have RD_S_523 := RD_fr (U := S_523) RD_S (G_S_523 63 20 rfl) (fun b => G_S_523 76 b rfl) (fun b => G_S_523 77 b rfl)
  have RK_S_523 := RK_fr (U := S_523) RK_S (G_S_523 63 50 rfl) (fun b => G_S_523 92 b rfl) (fun b => G_S_523 93 b rfl) (fun b => G_S_523 94 b rfl)
  have RO_S_523 := RO_fr (U := S_523) RO_S (G_S_523 63 67 rfl) (G_S_523 63 62 rfl) (fun b => G_S_523 100 b rfl)
  have TQ_S_523 := TQ_fr (U := S_523) TQ_S (G_S_523 63 62 rfl) (G_S_523 63 65 rfl) (fun b => G_S_523 102 b rfl)
  refine Sf.b (s_fX12_drop fu hfu a1 a2 a3 S_523 I_S_523 RD_S_523) (fun S_547 r_547 p_r_547 => ?_)
  obtain ⟨I_S_547, G_S_547, p_r_547, RD_S_547⟩ := p_r_547
  have F_S_547 := Fr.tr F_S_523 G_S_547 rfl
  have EE_S_547 := EE_fr (U := S_547) EE_S_523 (G_S_547 49 4 rfl) (G_S_547 63 25 rfl)
  have RK_S_547 := RK_fr (U := S_547) RK_S_523 (G_S_547 63 50 rfl) (fun b => G_S_547 92 b rfl) (fun b => G_S_547 93 b rfl) (fun b => G_S_547 94 b rfl)
  have RO_S_547 := RO_fr (U := S_547) RO_S_523 (G_S_547 63 67 rfl) (G_S_547 63 62 rfl) (fun b => G_S_547 100 b rfl)
  have TQ_S_547 := TQ_fr (U := S_547) TQ_S_523 (G_S_547 63 62 rfl) (G_S_547 63 65 rfl) (fun b => G_S_547 102 b rfl)
  have h1 : ((1 : Int32)).toInt = 1 := li_1
  exact Sf.so ⟨I_S_547, F_S_547, by omega, RD_S_547, RK_S_547, TQ_S_547, RO_S_547, EE_S_547⟩
set_option maxHeartbeats 4000000 in
theorem s_fc_9 (fu : Nat) (hfu : 1000000000000000000 ≤ fu) (a1 : Int32) (a2 : Int32) (a3 : Int32) (a4 : Int32) (a5 : Int32) (S : St) (I_S : Inv S) (RD_S : RD S) (RK_S : RK S) (TQ_S : TQ S) (RO_S : RO S) (EE_S : EE S) : Sf (fc_9 fu a1 a2 a3 a4 a5 S) (fun U r => Inv U ∧ Fr [(23, 5), (24, 0), (25, 0), (63, 1), (63, 24), (79, 0)] S U ∧ ((r.toInt = 1)) ∧ RD U ∧ RK U ∧ TQ U ∧ RO U ∧ EE U) := by
  unfold fc_9
  have F_S : Fr [(23, 5), (24, 0), (25, 0), (63, 1), (63, 24), (79, 0)] S S := Fr.refl _ _
  refine Sf.b (s_fL_server fu hfu a1 S I_S) (fun S_563 r_563 p_r_563 => ?_)
  obtain ⟨I_S_563, G_S_563, p_r_563⟩ := p_r_563
  have F_S_563 := Fr.tr F_S G_S_563 rfl
  have EE_S_563 := EE_fr (U := S_563) EE_S (G_S_563 49 4 rfl) (G_S_563 63 25 rfl)
  have RD_S_563 := RD_fr (U := S_563) RD_S (G_S_563 63 20 rfl) (fun b => G_S_563 76 b rfl) (fun b => G_S_563 77 b rfl)
  have RK_S_563 := RK_fr (U := S_563) RK_S (G_S_563 63 50 rfl) (fun b => G_S_563 92 b rfl) (fun b => G_S_563 93 b rfl) (fun b => G_S_563 94 b rfl)
  have RO_S_563 := RO_fr (U := S_563) RO_S (G_S_563 63 67 rfl) (G_S_563 63 62 rfl) (fun b => G_S_563 100 b rfl)
  have TQ_S_563 := TQ_fr (U := S_563) TQ_S (G_S_563 63 62 rfl) (G_S_563 63 65 rfl) (fun b => G_S_563 102 b rfl)
  refine Sf.b (s_fX12_server fu hfu a1 S_563 I_S_563) (fun S_575 r_575 p_r_575 => ?_)
  obtain ⟨I_S_575, G_S_575, p_r_575⟩ := p_r_575
  have F_S_575 := Fr.tr F_S_563 G_S_575 rfl
  have EE_S_575 := EE_fr (U := S_575) EE_S_563 (G_S_575 49 4 rfl) (G_S_575 63 25 rfl)
  have RD_S_575 := RD_fr (U := S_575) RD_S_563 (G_S_575 63 20 rfl) (fun b => G_S_575 76 b rfl) (fun b => G_S_575 77 b rfl)
  have RK_S_575 := RK_fr (U := S_575) RK_S_563 (G_S_575 63 50 rfl) (fun b => G_S_575 92 b rfl) (fun b => G_S_575 93 b rfl) (fun b => G_S_575 94 b rfl)
  have RO_S_575 := RO_fr (U := S_575) RO_S_563 (G_S_575 63 67 rfl) (G_S_575 63 62 rfl) (fun b => G_S_575 100 b rfl)
  have TQ_S_575 := TQ_fr (U := S_575) TQ_S_563 (G_S_575 63 62 rfl) (G_S_575 63 65 rfl) (fun b => G_S_575 102 b rfl)
  have h1 : ((1 : Int32)).toInt = 1 := li_1
  exact Sf.so ⟨I_S_575, F_S_575, by omega, RD_S_575, RK_S_575, TQ_S_575, RO_S_575, EE_S_575⟩
set_option maxHeartbeats 4000000 in
theorem s_fc_10 (fu : Nat) (hfu : 1000000000000000000 ≤ fu) (a1 : Int32) (a2 : Int32) (a3 : Int32) (a4 : Int32) (a5 : Int32) (S : St) (I_S : Inv S) (RD_S : RD S) (RK_S : RK S) (TQ_S : TQ S) (RO_S : RO S) (EE_S : EE S) : Sf (fc_10 fu a1 a2 a3 a4 a5 S) (fun U r => Inv U ∧ Fr [(25, 0), (63, 1), (80, 0)] S U ∧ ((r.toInt = 1)) ∧ RD U ∧ RK U ∧ TQ U ∧ RO U ∧ EE U) := by
  unfold fc_10
  have F_S : Fr [(25, 0), (63, 1), (80, 0)] S S := Fr.refl _ _
  refine Sf.i (fun c_h1 => ?_) (fun c_h1 => ?_)
  · have h2 := eq_iv rfl li_0 c_h1
    unfold fc_10_610
    have h3 : ((0 : Int32)).toInt = 0 := li_0
    refine Sf.b (s_fL_serve fu hfu a1 a2 (0 : Int32) S I_S) (fun S_611 r_611 p_r_611 => ?_)
    obtain ⟨I_S_611, G_S_611, p_r_611⟩ := p_r_611
    have F_S_611 := Fr.tr F_S G_S_611 rfl
    have EE_S_611 := EE_fr (U := S_611) EE_S (G_S_611 49 4 rfl) (G_S_611 63 25 rfl)
    have RD_S_611 := RD_fr (U := S_611) RD_S (G_S_611 63 20 rfl) (fun b => G_S_611 76 b rfl) (fun b => G_S_611 77 b rfl)
    have RK_S_611 := RK_fr (U := S_611) RK_S (G_S_611 63 50 rfl) (fun b => G_S_611 92 b rfl) (fun b => G_S_611 93 b rfl) (fun b => G_S_611 94 b rfl)
    have RO_S_611 := RO_fr (U := S_611) RO_S (G_S_611 63 67 rfl) (G_S_611 63 62 rfl) (fun b => G_S_611 100 b rfl)
    have TQ_S_611 := TQ_fr (U := S_611) TQ_S (G_S_611 63 62 rfl) (G_S_611 63 65 rfl) (fun b => G_S_611 102 b rfl)
    refine Sf.i (fun c_h4 => ?_) (fun c_h4 => ?_)
    · have h5 := eq_iv rfl li_0 c_h4
      unfold fc_10_643
      refine Sf.b (s_fX12_serve fu hfu a1 a2 (0 : Int32) S_611 I_S_611) (fun S_643 r_643 p_r_643 => ?_)
      obtain ⟨I_S_643, G_S_643, p_r_643⟩ := p_r_643
      have F_S_643 := Fr.tr F_S_611 G_S_643 rfl
      have EE_S_643 := EE_fr (U := S_643) EE_S_611 (G_S_643 49 4 rfl) (G_S_643 63 25 rfl)
      have RD_S_643 := RD_fr (U := S_643) RD_S_611 (G_S_643 63 20 rfl) (fun b => G_S_643 76 b rfl) (fun b => G_S_643 77 b rfl)
      have RK_S_643 := RK_fr (U := S_643) RK_S_611 (G_S_643 63 50 rfl) (fun b => G_S_643 92 b rfl) (fun b => G_S_643 93 b rfl) (fun b => G_S_643 94 b rfl)
      have RO_S_643 := RO_fr (U := S_643) RO_S_611 (G_S_643 63 67 rfl) (G_S_643 63 62 rfl) (fun b => G_S_643 100 b rfl)
      have TQ_S_643 := TQ_fr (U := S_643) TQ_S_611 (G_S_643 63 62 rfl) (G_S_643 63 65 rfl) (fun b => G_S_643 102 b rfl)
      have h6 : ((1 : Int32)).toInt = 1 := li_1
      exact Sf.so ⟨I_S_643, F_S_643, by omega, RD_S_643, RK_S_643, TQ_S_643, RO_S_643, EE_S_643⟩
    · have h7 := neq_iv rfl li_0 c_h4
      unfold fc_10_643
      have h8 : ((1 : Int32)).toInt = 1 := li_1
      refine Sf.b (s_fX12_serve fu hfu a1 a2 (1 : Int32) S_611 I_S_611) (fun S_643 r_643 p_r_643 => ?_)
      obtain ⟨I_S_643, G_S_643, p_r_643⟩ := p_r_643
      have F_S_643 := Fr.tr F_S_611 G_S_643 rfl
      have EE_S_643 := EE_fr (U := S_643) EE_S_611 (G_S_643 49 4 rfl) (G_S_643 63 25 rfl)
      have RD_S_643 := RD_fr (U := S_643) RD_S_611 (G_S_643 63 20 rfl) (fun b => G_S_643 76 b rfl) (fun b => G_S_643 77 b rfl)
      have RK_S_643 := RK_fr (U := S_643) RK_S_611 (G_S_643 63 50 rfl) (fun b => G_S_643 92 b rfl) (fun b => G_S_643 93 b rfl) (fun b => G_S_643 94 b rfl)
      have RO_S_643 := RO_fr (U := S_643) RO_S_611 (G_S_643 63 67 rfl) (G_S_643 63 62 rfl) (fun b => G_S_643 100 b rfl)
      have TQ_S_643 := TQ_fr (U := S_643) TQ_S_611 (G_S_643 63 62 rfl) (G_S_643 63 65 rfl) (fun b => G_S_643 102 b rfl)
      have h9 : ((1 : Int32)).toInt = 1 := li_1
      exact Sf.so ⟨I_S_643, F_S_643, by omega, RD_S_643, RK_S_643, TQ_S_643, RO_S_643, EE_S_643⟩
  · have h10 := neq_iv rfl li_0 c_h1
    unfold fc_10_610
    have h11 : ((1 : Int32)).toInt = 1 := li_1
    refine Sf.b (s_fL_serve fu hfu a1 a2 (1 : Int32) S I_S) (fun S_611 r_611 p_r_611 => ?_)
    obtain ⟨I_S_611, G_S_611, p_r_611⟩ := p_r_611
    have F_S_611 := Fr.tr F_S G_S_611 rfl
    have EE_S_611 := EE_fr (U := S_611) EE_S (G_S_611 49 4 rfl) (G_S_611 63 25 rfl)
    have RD_S_611 := RD_fr (U := S_611) RD_S (G_S_611 63 20 rfl) (fun b => G_S_611 76 b rfl) (fun b => G_S_611 77 b rfl)
    have RK_S_611 := RK_fr (U := S_611) RK_S (G_S_611 63 50 rfl) (fun b => G_S_611 92 b rfl) (fun b => G_S_611 93 b rfl) (fun b => G_S_611 94 b rfl)
    have RO_S_611 := RO_fr (U := S_611) RO_S (G_S_611 63 67 rfl) (G_S_611 63 62 rfl) (fun b => G_S_611 100 b rfl)
    have TQ_S_611 := TQ_fr (U := S_611) TQ_S (G_S_611 63 62 rfl) (G_S_611 63 65 rfl) (fun b => G_S_611 102 b rfl)
    refine Sf.i (fun c_h12 => ?_) (fun c_h12 => ?_)
    · have h13 := eq_iv rfl li_0 c_h12
      unfold fc_10_643
      have h14 : ((0 : Int32)).toInt = 0 := li_0
      refine Sf.b (s_fX12_serve fu hfu a1 a2 (0 : Int32) S_611 I_S_611) (fun S_643 r_643 p_r_643 => ?_)
      obtain ⟨I_S_643, G_S_643, p_r_643⟩ := p_r_643
      have F_S_643 := Fr.tr F_S_611 G_S_643 rfl
      have EE_S_643 := EE_fr (U := S_643) EE_S_611 (G_S_643 49 4 rfl) (G_S_643 63 25 rfl)
      have RD_S_643 := RD_fr (U := S_643) RD_S_611 (G_S_643 63 20 rfl) (fun b => G_S_643 76 b rfl) (fun b => G_S_643 77 b rfl)
      have RK_S_643 := RK_fr (U := S_643) RK_S_611 (G_S_643 63 50 rfl) (fun b => G_S_643 92 b rfl) (fun b => G_S_643 93 b rfl) (fun b => G_S_643 94 b rfl)
      have RO_S_643 := RO_fr (U := S_643) RO_S_611 (G_S_643 63 67 rfl) (G_S_643 63 62 rfl) (fun b => G_S_643 100 b rfl)
      have TQ_S_643 := TQ_fr (U := S_643) TQ_S_611 (G_S_643 63 62 rfl) (G_S_643 63 65 rfl) (fun b => G_S_643 102 b rfl)
      have h15 : ((1 : Int32)).toInt = 1 := li_1
      exact Sf.so ⟨I_S_643, F_S_643, by omega, RD_S_643, RK_S_643, TQ_S_643, RO_S_643, EE_S_643⟩
    · have h16 := neq_iv rfl li_0 c_h12
      unfold fc_10_643
      refine Sf.b (s_fX12_serve fu hfu a1 a2 (1 : Int32) S_611 I_S_611) (fun S_643 r_643 p_r_643 => ?_)
      obtain ⟨I_S_643, G_S_643, p_r_643⟩ := p_r_643
      have F_S_643 := Fr.tr F_S_611 G_S_643 rfl
      have EE_S_643 := EE_fr (U := S_643) EE_S_611 (G_S_643 49 4 rfl) (G_S_643 63 25 rfl)
      have RD_S_643 := RD_fr (U := S_643) RD_S_611 (G_S_643 63 20 rfl) (fun b => G_S_643 76 b rfl) (fun b => G_S_643 77 b rfl)
      have RK_S_643 := RK_fr (U := S_643) RK_S_611 (G_S_643 63 50 rfl) (fun b => G_S_643 92 b rfl) (fun b => G_S_643 93 b rfl) (fun b => G_S_643 94 b rfl)
      have RO_S_643 := RO_fr (U := S_643) RO_S_611 (G_S_643 63 67 rfl) (G_S_643 63 62 rfl) (fun b => G_S_643 100 b rfl)
      have TQ_S_643 := TQ_fr (U := S_643) TQ_S_611 (G_S_643 63 62 rfl) (G_S_643 63 65 rfl) (fun b => G_S_643 102 b rfl)
      have h17 : ((1 : Int32)).toInt = 1 := li_1
      exact Sf.so ⟨I_S_643, F_S_643, by omega, RD_S_643, RK_S_643, TQ_S_643, RO_S_643, EE_S_643⟩
set_option maxHeartbeats 4000000 in
theorem s_fc_11 (fu : Nat) (hfu : 1000000000000000000 ≤ fu) (a1 : Int32) (a2 : Int32) (a3 : Int32) (a4 : Int32) (a5 : Int32) (S : St) (I_S : Inv S) (RD_S : RD S) (RK_S : RK S) (TQ_S : TQ S) (RO_S : RO S) (EE_S : EE S) : Sf (fc_11 fu a1 a2 a3 a4 a5 S) (fun U r => Inv U ∧ Fr [(1, 2), (1, 3), (2, 0), (19, 2), (19, 3), (20, 0), (21, 0), (22, 0), (63, 1), (63, 11), (63, 28), (70, 0), (82, 0), (83, 0), (84, 0)] S U ∧ ((r.toInt = 1)) ∧ RD U ∧ RK U ∧ TQ U ∧ RO U ∧ EE U) := by
  unfold fc_11
  have F_S : Fr [(1, 2), (1, 3), (2, 0), (19, 2), (19, 3), (20, 0), (21, 0), (22, 0), (63, 1), (63, 11), (63, 28), (70, 0), (82, 0), (83, 0), (84, 0)] S S := Fr.refl _ _
  refine Sf.b (s_fL_say fu hfu a1 a2 a3 S I_S) (fun S_671 r_671 p_r_671 => ?_)
  obtain ⟨I_S_671, G_S_671, p_r_671⟩ := p_r_671
  have F_S_671 := Fr.tr F_S G_S_671 rfl
  have EE_S_671 := EE_fr (U := S_671) EE_S (G_S_671 49 4 rfl) (G_S_671 63 25 rfl)
  have RD_S_671 := RD_fr (U := S_671) RD_S (G_S_671 63 20 rfl) (fun b => G_S_671 76 b rfl) (fun b => G_S_671 77 b rfl)
  have RK_S_671 := RK_fr (U := S_671) RK_S (G_S_671 63 50 rfl) (fun b => G_S_671 92 b rfl) (fun b => G_S_671 93 b rfl) (fun b => G_S_671 94 b rfl)
  have RO_S_671 := RO_fr (U := S_671) RO_S (G_S_671 63 67 rfl) (G_S_671 63 62 rfl) (fun b => G_S_671 100 b rfl)
  have TQ_S_671 := TQ_fr (U := S_671) TQ_S (G_S_671 63 62 rfl) (G_S_671 63 65 rfl) (fun b => G_S_671 102 b rfl)
  refine Sf.b (s_fX12_say fu hfu a1 a2 a3 S_671 I_S_671 RD_S_671) (fun S_695 r_695 p_r_695 => ?_)
  obtain ⟨I_S_695, G_S_695, p_r_695⟩ := p_r_695
  have F_S_695 := Fr.tr F_S_671 G_S_695 rfl
  have EE_S_695 := EE_fr (U := S_695) EE_S_671 (G_S_695 49 4 rfl) (G_S_695 63 25 rfl)
  have RD_S_695 := RD_fr (U := S_695) RD_S_671 (G_S_695 63 20 rfl) (fun b => G_S_695 76 b rfl) (fun b => G_S_695 77 b rfl)
  have RK_S_695 := RK_fr (U := S_695) RK_S_671 (G_S_695 63 50 rfl) (fun b => G_S_695 92 b rfl) (fun b => G_S_695 93 b rfl) (fun b => G_S_695 94 b rfl)
  have RO_S_695 := RO_fr (U := S_695) RO_S_671 (G_S_695 63 67 rfl) (G_S_695 63 62 rfl) (fun b => G_S_695 100 b rfl)
  have TQ_S_695 := TQ_fr (U := S_695) TQ_S_671 (G_S_695 63 62 rfl) (G_S_695 63 65 rfl) (fun b => G_S_695 102 b rfl)
  have h1 : ((1 : Int32)).toInt = 1 := li_1
  exact Sf.so ⟨I_S_695, F_S_695, by omega, RD_S_695, RK_S_695, TQ_S_695, RO_S_695, EE_S_695⟩
set_option maxHeartbeats 4000000 in
theorem s_fc_12 (fu : Nat) (hfu : 1000000000000000000 ≤ fu) (a1 : Int32) (a2 : Int32) (a3 : Int32) (a4 : Int32) (a5 : Int32) (S : St) (I_S : Inv S) (RD_S : RD S) (RK_S : RK S) (TQ_S : TQ S) (RO_S : RO S) (EE_S : EE S) : Sf (fc_12 fu a1 a2 a3 a4 a5 S) (fun U r => Inv U ∧ Fr [(1, 2), (1, 3), (3, 4), (4, 0), (6, 0), (26, 4), (26, 5), (26, 6), (26, 7), (26, 8), (26, 9), (26, 10), (27, 3), (29, 0), (30, 6), (31, 0), (32, 0), (33, 0), (34, 0), (35, 0), (36, 6), (37, 0), (38, 0), (39, 0), (40, 0), (41, 0), (63, 1), (63, 6), (63, 9), (63, 11), (63, 31), (63, 32), (63, 33), (63, 34), (63, 35), (63, 36), (63, 37), (63, 43), (63, 45), (64, 0), (65, 0), (66, 0), (67, 0), (68, 0), (69, 0), (85, 0), (86, 0), (87, 0), (88, 0), (89, 0), (90, 0)] S U ∧ ((r.toInt = 1)) ∧ RD U ∧ RK U ∧ TQ U ∧ RO U ∧ EE U) := by
  unfold fc_12
  have F_S : Fr [(1, 2), (1, 3), (3, 4), (4, 0), (6, 0), (26, 4), (26, 5), (26, 6), (26, 7), (26, 8), (26, 9), (26, 10), (27, 3), (29, 0), (30, 6), (31, 0), (32, 0), (33, 0), (34, 0), (35, 0), (36, 6), (37, 0), (38, 0), (39, 0), (40, 0), (41, 0), (63, 1), (63, 6), (63, 9), (63, 11), (63, 31), (63, 32), (63, 33), (63, 34), (63, 35), (63, 36), (63, 37), (63, 43), (63, 45), (64, 0), (65, 0), (66, 0), (67, 0), (68, 0), (69, 0), (85, 0), (86, 0), (87, 0), (88, 0), (89, 0), (90, 0)] S S := Fr.refl _ _
  refine Sf.b (s_fX11_parse fu hfu S I_S) (fun S_704 r_704 p_r_704 => ?_)
  obtain ⟨I_S_704, G_S_704, p_r_704⟩ := p_r_704
  have F_S_704 := Fr.tr F_S G_S_704 rfl
  have EE_S_704 := EE_fr (U := S_704) EE_S (G_S_704 49 4 rfl) (G_S_704 63 25 rfl)
  have RD_S_704 := RD_fr (U := S_704) RD_S (G_S_704 63 20 rfl) (fun b => G_S_704 76 b rfl) (fun b => G_S_704 77 b rfl)
  have RK_S_704 := RK_fr (U := S_704) RK_S (G_S_704 63 50 rfl) (fun b => G_S_704 92 b rfl) (fun b => G_S_704 93 b rfl) (fun b => G_S_704 94 b rfl)
  have RO_S_704 := RO_fr (U := S_704) RO_S (G_S_704 63 67 rfl) (G_S_704 63 62 rfl) (fun b => G_S_704 100 b rfl)
  have TQ_S_704 := TQ_fr (U := S_704) TQ_S (G_S_704 63 62 rfl) (G_S_704 63 65 rfl) (fun b => G_S_704 102 b rfl)
  refine Sf.b (s_fX12_parse fu hfu S_704 I_S_704) (fun S_709 r_709 p_r_709 => ?_)
  obtain ⟨I_S_709, G_S_709, p_r_709⟩ := p_r_709
  have F_S_709 := Fr.tr F_S_704 G_S_709 rfl
  have EE_S_709 := EE_fr (U := S_709) EE_S_704 (G_S_709 49 4 rfl) (G_S_709 63 25 rfl)
  have RD_S_709 := RD_fr (U := S_709) RD_S_704 (G_S_709 63 20 rfl) (fun b => G_S_709 76 b rfl) (fun b => G_S_709 77 b rfl)
  have RK_S_709 := RK_fr (U := S_709) RK_S_704 (G_S_709 63 50 rfl) (fun b => G_S_709 92 b rfl) (fun b => G_S_709 93 b rfl) (fun b => G_S_709 94 b rfl)
  have RO_S_709 := RO_fr (U := S_709) RO_S_704 (G_S_709 63 67 rfl) (G_S_709 63 62 rfl) (fun b => G_S_709 100 b rfl)
  have TQ_S_709 := TQ_fr (U := S_709) TQ_S_704 (G_S_709 63 62 rfl) (G_S_709 63 65 rfl) (fun b => G_S_709 102 b rfl)
  have h1 : ((1 : Int32)).toInt = 1 := li_1
  exact Sf.so ⟨I_S_709, F_S_709, by omega, RD_S_709, RK_S_709, TQ_S_709, RO_S_709, EE_S_709⟩
set_option maxHeartbeats 4000000 in
theorem s_fc_13 (fu : Nat) (hfu : 1000000000000000000 ≤ fu) (a1 : Int32) (a2 : Int32) (a3 : Int32) (a4 : Int32) (a5 : Int32) (S : St) (I_S : Inv S) (RD_S : RD S) (RK_S : RK S) (TQ_S : TQ S) (RO_S : RO S) (EE_S : EE S) : Sf (fc_13 fu a1 a2 a3 a4 a5 S) (fun U r => Inv U ∧ Fr [(63, 1)] S U ∧ ((r.toInt = 1)) ∧ RD U ∧ RK U ∧ TQ U ∧ RO U ∧ EE U) := by
  unfold fc_13
  have F_S : Fr [(63, 1)] S S := Fr.refl _ _
  refine Sf.b (s_fL_parsed fu hfu a1 a2 S I_S) (fun S_730 r_730 p_r_730 => ?_)
  obtain ⟨I_S_730, G_S_730, p_r_730⟩ := p_r_730
  have F_S_730 := Fr.tr F_S G_S_730 rfl
  have EE_S_730 := EE_fr (U := S_730) EE_S (G_S_730 49 4 rfl) (G_S_730 63 25 rfl)
  have RD_S_730 := RD_fr (U := S_730) RD_S (G_S_730 63 20 rfl) (fun b => G_S_730 76 b rfl) (fun b => G_S_730 77 b rfl)
  have RK_S_730 := RK_fr (U := S_730) RK_S (G_S_730 63 50 rfl) (fun b => G_S_730 92 b rfl) (fun b => G_S_730 93 b rfl) (fun b => G_S_730 94 b rfl)
  have RO_S_730 := RO_fr (U := S_730) RO_S (G_S_730 63 67 rfl) (G_S_730 63 62 rfl) (fun b => G_S_730 100 b rfl)
  have TQ_S_730 := TQ_fr (U := S_730) TQ_S (G_S_730 63 62 rfl) (G_S_730 63 65 rfl) (fun b => G_S_730 102 b rfl)
  refine Sf.b (s_fX12_parsed fu hfu a1 a2 S_730 I_S_730) (fun S_748 r_748 p_r_748 => ?_)
  obtain ⟨I_S_748, G_S_748, p_r_748⟩ := p_r_748
  have F_S_748 := Fr.tr F_S_730 G_S_748 rfl
  have EE_S_748 := EE_fr (U := S_748) EE_S_730 (G_S_748 49 4 rfl) (G_S_748 63 25 rfl)
  have RD_S_748 := RD_fr (U := S_748) RD_S_730 (G_S_748 63 20 rfl) (fun b => G_S_748 76 b rfl) (fun b => G_S_748 77 b rfl)
  have RK_S_748 := RK_fr (U := S_748) RK_S_730 (G_S_748 63 50 rfl) (fun b => G_S_748 92 b rfl) (fun b => G_S_748 93 b rfl) (fun b => G_S_748 94 b rfl)
  have RO_S_748 := RO_fr (U := S_748) RO_S_730 (G_S_748 63 67 rfl) (G_S_748 63 62 rfl) (fun b => G_S_748 100 b rfl)
  have TQ_S_748 := TQ_fr (U := S_748) TQ_S_730 (G_S_748 63 62 rfl) (G_S_748 63 65 rfl) (fun b => G_S_748 102 b rfl)
  have h1 : ((1 : Int32)).toInt = 1 := li_1
  exact Sf.so ⟨I_S_748, F_S_748, by omega, RD_S_748, RK_S_748, TQ_S_748, RO_S_748, EE_S_748⟩
set_option maxHeartbeats 4000000 in
theorem s_fc_15 (fu : Nat) (hfu : 1000000000000000000 ≤ fu) (a1 : Int32) (a2 : Int32) (a3 : Int32) (a4 : Int32) (a5 : Int32) (S : St) (I_S : Inv S) (RD_S : RD S) (RK_S : RK S) (TQ_S : TQ S) (RO_S : RO S) (EE_S : EE S) : Sf (fc_15 fu a1 a2 a3 a4 a5 S) (fun U r => Inv U ∧ Fr [(42, 9), (63, 1), (63, 52)] S U ∧ ((r.toInt = 1)) ∧ RD U ∧ RK U ∧ TQ U ∧ RO U ∧ EE U) := by
  unfold fc_15
  have F_S : Fr [(42, 9), (63, 1), (63, 52)] S S := Fr.refl _ _
  refine Sf.b (s_fL_tick fu hfu a1 S I_S) (fun S_789 r_789 p_r_789 => ?_)
  obtain ⟨I_S_789, G_S_789, p_r_789⟩ := p_r_789
  have F_S_789 := Fr.tr F_S G_S_789 rfl
  have EE_S_789 := EE_fr (U := S_789) EE_S (G_S_789 49 4 rfl) (G_S_789 63 25 rfl)
  have RD_S_789 := RD_fr (U := S_789) RD_S (G_S_789 63 20 rfl) (fun b => G_S_789 76 b rfl) (fun b => G_S_789 77 b rfl)
  have RK_S_789 := RK_fr (U := S_789) RK_S (G_S_789 63 50 rfl) (fun b => G_S_789 92 b rfl) (fun b => G_S_789 93 b rfl) (fun b => G_S_789 94 b rfl)
  have RO_S_789 := RO_fr (U := S_789) RO_S (G_S_789 63 67 rfl) (G_S_789 63 62 rfl) (fun b => G_S_789 100 b rfl)
  have TQ_S_789 := TQ_fr (U := S_789) TQ_S (G_S_789 63 62 rfl) (G_S_789 63 65 rfl) (fun b => G_S_789 102 b rfl)
  refine Sf.b (s_fX12_tick fu hfu a1 S_789 I_S_789) (fun S_801 r_801 p_r_801 => ?_)
  obtain ⟨I_S_801, G_S_801, p_r_801⟩ := p_r_801
  have F_S_801 := Fr.tr F_S_789 G_S_801 rfl
  have EE_S_801 := EE_fr (U := S_801) EE_S_789 (G_S_801 49 4 rfl) (G_S_801 63 25 rfl)
  have RD_S_801 := RD_fr (U := S_801) RD_S_789 (G_S_801 63 20 rfl) (fun b => G_S_801 76 b rfl) (fun b => G_S_801 77 b rfl)
  have RK_S_801 := RK_fr (U := S_801) RK_S_789 (G_S_801 63 50 rfl) (fun b => G_S_801 92 b rfl) (fun b => G_S_801 93 b rfl) (fun b => G_S_801 94 b rfl)
  have RO_S_801 := RO_fr (U := S_801) RO_S_789 (G_S_801 63 67 rfl) (G_S_801 63 62 rfl) (fun b => G_S_801 100 b rfl)
  have TQ_S_801 := TQ_fr (U := S_801) TQ_S_789 (G_S_801 63 62 rfl) (G_S_801 63 65 rfl) (fun b => G_S_801 102 b rfl)
  have h1 : ((1 : Int32)).toInt = 1 := li_1
  exact Sf.so ⟨I_S_801, F_S_801, by omega, RD_S_801, RK_S_801, TQ_S_801, RO_S_801, EE_S_801⟩
set_option maxHeartbeats 4000000 in
theorem s_fc_16 (fu : Nat) (hfu : 1000000000000000000 ≤ fu) (a1 : Int32) (a2 : Int32) (a3 : Int32) (a4 : Int32) (a5 : Int32) (S : St) (I_S : Inv S) (RD_S : RD S) (RK_S : RK S) (TQ_S : TQ S) (RO_S : RO S) (EE_S : EE S) : Sf (fc_16 fu a1 a2 a3 a4 a5 S) (fun U r => Inv U ∧ Fr [(49, 6), (49, 7), (49, 8), (49, 9), (49, 10), (49, 12), (50, 9), (50, 10), (51, 0), (52, 0), (53, 0), (54, 0), (55, 0), (56, 0), (57, 0), (58, 0), (60, 0), (63, 1), (63, 63), (63, 64), (63, 65), (63, 66), (63, 67), (63, 68), (63, 69), (63, 70), (63, 72), (97, 0), (98, 0), (99, 0), (100, 0), (101, 0), (102, 0), (103, 0), (104, 0)] S U ∧ ((r.toInt = 1)) ∧ RD U ∧ RK U ∧ TQ U ∧ RO U ∧ EE U) := by
  unfold fc_16
  have F_S : Fr [(49, 6), (49, 7), (49, 8), (49, 9), (49, 10), (49, 12), (50, 9), (50, 10), (51, 0), (52, 0), (53, 0), (54, 0), (55, 0), (56, 0), (57, 0), (58, 0), (60, 0), (63, 1), (63, 63), (63, 64), (63, 65), (63, 66), (63, 67), (63, 68), (63, 69), (63, 70), (63, 72), (97, 0), (98, 0), (99, 0), (100, 0), (101, 0), (102, 0), (103, 0), (104, 0)] S S := Fr.refl _ _
  refine Sf.b (s_fL_ask fu hfu a1 a2 S I_S) (fun S_823 r_823 p_r_823 => ?_)
  obtain ⟨I_S_823, G_S_823, p_r_823⟩ := p_r_823
  have F_S_823 := Fr.tr F_S G_S_823 rfl
  have EE_S_823 := EE_fr (U := S_823) EE_S (G_S_823 49 4 rfl) (G_S_823 63 25 rfl)
  have RD_S_823 := RD_fr (U := S_823) RD_S (G_S_823 63 20 rfl) (fun b => G_S_823 76 b rfl) (fun b => G_S_823 77 b rfl)
  have RK_S_823 := RK_fr (U := S_823) RK_S (G_S_823 63 50 rfl) (fun b => G_S_823 92 b rfl) (fun b => G_S_823 93 b rfl) (fun b => G_S_823 94 b rfl)
  have RO_S_823 := RO_fr (U := S_823) RO_S (G_S_823 63 67 rfl) (G_S_823 63 62 rfl) (fun b => G_S_823 100 b rfl)
  have TQ_S_823 := TQ_fr (U := S_823) TQ_S (G_S_823 63 62 rfl) (G_S_823 63 65 rfl) (fun b => G_S_823 102 b rfl)
  refine Sf.b (s_fX12_ask fu hfu a1 a2 S_823 I_S_823 RK_S_823 TQ_S_823 RO_S_823) (fun S_841 r_841 p_r_841 => ?_)
  obtain ⟨I_S_841, G_S_841, p_r_841, RK_S_841, TQ_S_841, RO_S_841⟩ := p_r_841
  have F_S_841 := Fr.tr F_S_823 G_S_841 rfl
  have EE_S_841 := EE_fr (U := S_841) EE_S_823 (G_S_841 49 4 rfl) (G_S_841 63 25 rfl)
  have RD_S_841 := RD_fr (U := S_841) RD_S_823 (G_S_841 63 20 rfl) (fun b => G_S_841 76 b rfl) (fun b => G_S_841 77 b rfl)
  have h1 : ((1 : Int32)).toInt = 1 := li_1
  exact Sf.so ⟨I_S_841, F_S_841, by omega, RD_S_841, RK_S_841, TQ_S_841, RO_S_841, EE_S_841⟩
set_option maxHeartbeats 4000000 in
theorem s_fc_17 (fu : Nat) (hfu : 1000000000000000000 ≤ fu) (a1 : Int32) (a2 : Int32) (a3 : Int32) (a4 : Int32) (a5 : Int32) (S : St) (I_S : Inv S) (RD_S : RD S) (RK_S : RK S) (TQ_S : TQ S) (RO_S : RO S) (EE_S : EE S) : Sf (fc_17 fu a1 a2 a3 a4 a5 S) (fun U r => Inv U ∧ Fr [(3, 4), (4, 0), (6, 0), (19, 2), (19, 3), (20, 0), (21, 0), (22, 0), (26, 4), (26, 5), (26, 6), (26, 7), (26, 8), (26, 9), (26, 10), (27, 3), (29, 0), (30, 6), (31, 0), (32, 0), (33, 0), (34, 0), (35, 0), (42, 7), (42, 8), (43, 0), (44, 0), (46, 0), (47, 0), (48, 0), (49, 6), (49, 7), (49, 8), (49, 9), (49, 10), (49, 12), (50, 9), (50, 10), (51, 0), (52, 0), (53, 0), (54, 0), (55, 0), (56, 0), (57, 0), (58, 0), (60, 0), (61, 0), (62, 0), (63, 1), (63, 6), (63, 9), (63, 28), (63, 31), (63, 32), (63, 33), (63, 34), (63, 35), (63, 36), (63, 37), (63, 43), (63, 51), (63, 54), (63, 63), (63, 64), (63, 65), (63, 66), (63, 67), (63, 68), (63, 69), (63, 70), (63, 72), (64, 0), (65, 0), (66, 0), (67, 0), (68, 0), (69, 0), (82, 0), (83, 0), (84, 0), (85, 0), (86, 0), (87, 0), (88, 0), (89, 0), (91, 0), (92, 0), (93, 0), (94, 0), (96, 0), (97, 0), (98, 0), (99, 0), (100, 0), (101, 0), (102, 0), (103, 0), (104, 0), (105, 0)] S U ∧ ((r.toInt = 1)) ∧ RD U ∧ RK U ∧ TQ U ∧ RO U ∧ EE U) := by
  unfold fc_17
  have F_S : Fr [(3, 4), (4, 0), (6, 0), (19, 2), (19, 3), (20, 0), (21, 0), (22, 0), (26, 4), (26, 5), (26, 6), (26, 7), (26, 8), (26, 9), (26, 10), (27, 3), (29, 0), (30, 6), (31, 0), (32, 0), (33, 0), (34, 0), (35, 0), (42, 7), (42, 8), (43, 0), (44, 0), (46, 0), (47, 0), (48, 0), (49, 6), (49, 7), (49, 8), (49, 9), (49, 10), (49, 12), (50, 9), (50, 10), (51, 0), (52, 0), (53, 0), (54, 0), (55, 0), (56, 0), (57, 0), (58, 0), (60, 0), (61, 0), (62, 0), (63, 1), (63, 6), (63, 9), (63, 28), (63, 31), (63, 32), (63, 33), (63, 34), (63, 35), (63, 36), (63, 37), (63, 43), (63, 51), (63, 54), (63, 63), (63, 64), (63, 65), (63, 66), (63, 67), (63, 68), (63, 69), (63, 70), (63, 72), (64, 0), (65, 0), (66, 0), (67, 0), (68, 0), (69, 0), (82, 0), (83, 0), (84, 0), (85, 0), (86, 0), (87, 0), (88, 0), (89, 0), (91, 0), (92, 0), (93, 0), (94, 0), (96, 0), (97, 0), (98, 0), (99, 0), (100, 0), (101, 0), (102, 0), (103, 0), (104, 0), (105, 0)] S S := Fr.refl _ _
  refine Sf.b (s_fL_step fu hfu S I_S) (fun S_851 r_851 p_r_851 => ?_)
  obtain ⟨I_S_851, G_S_851, p_r_851⟩ := p_r_851
  have F_S_851 := Fr.tr F_S G_S_851 rfl
  have EE_S_851 := EE_fr (U := S_851) EE_S (G_S_851 49 4 rfl) (G_S_851 63 25 rfl)
  have RD_S_851 := RD_fr (U := S_851) RD_S (G_S_851 63 20 rfl) (fun b => G_S_851 76 b rfl) (fun b => G_S_851 77 b rfl)
  have RK_S_851 := RK_fr (U := S_851) RK_S (G_S_851 63 50 rfl) (fun b => G_S_851 92 b rfl) (fun b => G_S_851 93 b rfl) (fun b => G_S_851 94 b rfl)
  have RO_S_851 := RO_fr (U := S_851) RO_S (G_S_851 63 67 rfl) (G_S_851 63 62 rfl) (fun b => G_S_851 100 b rfl)
  have TQ_S_851 := TQ_fr (U := S_851) TQ_S (G_S_851 63 62 rfl) (G_S_851 63 65 rfl) (fun b => G_S_851 102 b rfl)
  refine Sf.b (s_fX12_step fu hfu S_851 I_S_851 RD_S_851 RK_S_851 TQ_S_851 RO_S_851) (fun S_857 r_857 p_r_857 => ?_)
  obtain ⟨I_S_857, G_S_857, p_r_857, RK_S_857, TQ_S_857, RO_S_857⟩ := p_r_857
  have F_S_857 := Fr.tr F_S_851 G_S_857 rfl
  have EE_S_857 := EE_fr (U := S_857) EE_S_851 (G_S_857 49 4 rfl) (G_S_857 63 25 rfl)
  have RD_S_857 := RD_fr (U := S_857) RD_S_851 (G_S_857 63 20 rfl) (fun b => G_S_857 76 b rfl) (fun b => G_S_857 77 b rfl)
  have h1 : ((1 : Int32)).toInt = 1 := li_1
  exact Sf.so ⟨I_S_857, F_S_857, by omega, RD_S_857, RK_S_857, TQ_S_857, RO_S_857, EE_S_857⟩
set_option maxHeartbeats 4000000 in
theorem s_fc_18 (fu : Nat) (hfu : 1000000000000000000 ≤ fu) (a1 : Int32) (a2 : Int32) (a3 : Int32) (a4 : Int32) (a5 : Int32) (S : St) (I_S : Inv S) (RD_S : RD S) (RK_S : RK S) (TQ_S : TQ S) (RO_S : RO S) (EE_S : EE S) : Sf (fc_18 fu a1 a2 a3 a4 a5 S) (fun U r => Inv U ∧ Fr [(49, 6), (49, 7), (49, 8), (49, 9), (49, 10), (49, 12), (50, 9), (50, 10), (51, 0), (52, 0), (53, 0), (54, 0), (55, 0), (56, 0), (57, 0), (58, 0), (60, 0), (63, 1), (63, 63), (63, 64), (63, 65), (63, 66), (63, 67), (63, 68), (63, 69), (63, 70), (63, 72), (97, 0), (98, 0), (99, 0), (100, 0), (101, 0), (102, 0), (103, 0), (104, 0)] S U ∧ ((r.toInt = 1)) ∧ RD U ∧ RK U ∧ TQ U ∧ RO U ∧ EE U) := by
  unfold fc_18
  have F_S : Fr [(49, 6), (49, 7), (49, 8), (49, 9), (49, 10), (49, 12), (50, 9), (50, 10), (51, 0), (52, 0), (53, 0), (54, 0), (55, 0), (56, 0), (57, 0), (58, 0), (60, 0), (63, 1), (63, 63), (63, 64), (63, 65), (63, 66), (63, 67), (63, 68), (63, 69), (63, 70), (63, 72), (97, 0), (98, 0), (99, 0), (100, 0), (101, 0), (102, 0), (103, 0), (104, 0)] S S := Fr.refl _ _
  refine Sf.b (s_fL_lose fu hfu S I_S) (fun S_867 r_867 p_r_867 => ?_)
  obtain ⟨I_S_867, G_S_867, p_r_867⟩ := p_r_867
  have F_S_867 := Fr.tr F_S G_S_867 rfl
  have EE_S_867 := EE_fr (U := S_867) EE_S (G_S_867 49 4 rfl) (G_S_867 63 25 rfl)
  have RD_S_867 := RD_fr (U := S_867) RD_S (G_S_867 63 20 rfl) (fun b => G_S_867 76 b rfl) (fun b => G_S_867 77 b rfl)
  have RK_S_867 := RK_fr (U := S_867) RK_S (G_S_867 63 50 rfl) (fun b => G_S_867 92 b rfl) (fun b => G_S_867 93 b rfl) (fun b => G_S_867 94 b rfl)
  have RO_S_867 := RO_fr (U := S_867) RO_S (G_S_867 63 67 rfl) (G_S_867 63 62 rfl) (fun b => G_S_867 100 b rfl)
  have TQ_S_867 := TQ_fr (U := S_867) TQ_S (G_S_867 63 62 rfl) (G_S_867 63 65 rfl) (fun b => G_S_867 102 b rfl)
  refine Sf.b (s_fX12_lose fu hfu S_867 I_S_867 RK_S_867 TQ_S_867 RO_S_867) (fun S_873 r_873 p_r_873 => ?_)
  obtain ⟨I_S_873, G_S_873, p_r_873, RK_S_873, TQ_S_873, RO_S_873⟩ := p_r_873
  have F_S_873 := Fr.tr F_S_867 G_S_873 rfl
  have EE_S_873 := EE_fr (U := S_873) EE_S_867 (G_S_873 49 4 rfl) (G_S_873 63 25 rfl)
  have RD_S_873 := RD_fr (U := S_873) RD_S_867 (G_S_873 63 20 rfl) (fun b => G_S_873 76 b rfl) (fun b => G_S_873 77 b rfl)
  have h1 : ((1 : Int32)).toInt = 1 := li_1
  exact Sf.so ⟨I_S_873, F_S_873, by omega, RD_S_873, RK_S_873, TQ_S_873, RO_S_873, EE_S_873⟩
set_option maxHeartbeats 4000000 in
theorem s_fc_19 (fu : Nat) (hfu : 1000000000000000000 ≤ fu) (a1 : Int32) (a2 : Int32) (a3 : Int32) (a4 : Int32) (a5 : Int32) (S : St) (I_S : Inv S) (RD_S : RD S) (RK_S : RK S) (TQ_S : TQ S) (RO_S : RO S) (EE_S : EE S) : Sf (fc_19 fu a1 a2 a3 a4 a5 S) (fun U r => Inv U ∧ Fr [(1, 2), (1, 3), (3, 4), (4, 0), (6, 0), (26, 4), (26, 5), (26, 6), (26, 7), (26, 8), (26, 9), (26, 10), (27, 3), (29, 0), (30, 6), (31, 0), (32, 0), (33, 0), (34, 0), (35, 0), (42, 7), (42, 8), (43, 0), (44, 0), (46, 0), (47, 0), (48, 0), (49, 6), (49, 7), (49, 8), (49, 9), (49, 10), (49, 12), (50, 9), (50, 10), (51, 0), (52, 0), (53, 0), (54, 0), (55, 0), (56, 0), (57, 0), (58, 0), (60, 0), (61, 0), (62, 0), (63, 1), (63, 6), (63, 9), (63, 11), (63, 31), (63, 32), (63, 33), (63, 34), (63, 35), (63, 36), (63, 37), (63, 43), (63, 51), (63, 54), (63, 63), (63, 64), (63, 65), (63, 66), (63, 67), (63, 68), (63, 69), (63, 70), (63, 72), (64, 0), (65, 0), (66, 0), (67, 0), (68, 0), (69, 0), (85, 0), (86, 0), (87, 0), (88, 0), (89, 0), (91, 0), (92, 0), (93, 0), (94, 0), (96, 0), (97, 0), (98, 0), (99, 0), (100, 0), (101, 0), (102, 0), (103, 0), (104, 0), (105, 0)] S U ∧ ((r.toInt = 1)) ∧ RD U ∧ RK U ∧ TQ U ∧ RO U ∧ EE U) := by
  unfold fc_19
  have F_S : Fr [(1, 2), (1, 3), (3, 4), (4, 0), (6, 0), (26, 4), (26, 5), (26, 6), (26, 7), (26, 8), (26, 9), (26, 10), (27, 3), (29, 0), (30, 6), (31, 0), (32, 0), (33, 0), (34, 0), (35, 0), (42, 7), (42, 8), (43, 0), (44, 0), (46, 0), (47, 0), (48, 0), (49, 6), (49, 7), (49, 8), (49, 9), (49, 10), (49, 12), (50, 9), (50, 10), (51, 0), (52, 0), (53, 0), (54, 0), (55, 0), (56, 0), (57, 0), (58, 0), (60, 0), (61, 0), (62, 0), (63, 1), (63, 6), (63, 9), (63, 11), (63, 31), (63, 32), (63, 33), (63, 34), (63, 35), (63, 36), (63, 37), (63, 43), (63, 51), (63, 54), (63, 63), (63, 64), (63, 65), (63, 66), (63, 67), (63, 68), (63, 69), (63, 70), (63, 72), (64, 0), (65, 0), (66, 0), (67, 0), (68, 0), (69, 0), (85, 0), (86, 0), (87, 0), (88, 0), (89, 0), (91, 0), (92, 0), (93, 0), (94, 0), (96, 0), (97, 0), (98, 0), (99, 0), (100, 0), (101, 0), (102, 0), (103, 0), (104, 0), (105, 0)] S S := Fr.refl _ _
  refine Sf.b (s_fL_forge fu hfu S I_S) (fun S_883 r_883 p_r_883 => ?_)
  obtain ⟨I_S_883, G_S_883, p_r_883⟩ := p_r_883
  have F_S_883 := Fr.tr F_S G_S_883 rfl
  have EE_S_883 := EE_fr (U := S_883) EE_S (G_S_883 49 4 rfl) (G_S_883 63 25 rfl)
  have RD_S_883 := RD_fr (U := S_883) RD_S (G_S_883 63 20 rfl) (fun b => G_S_883 76 b rfl) (fun b => G_S_883 77 b rfl)
  have RK_S_883 := RK_fr (U := S_883) RK_S (G_S_883 63 50 rfl) (fun b => G_S_883 92 b rfl) (fun b => G_S_883 93 b rfl) (fun b => G_S_883 94 b rfl)
  have RO_S_883 := RO_fr (U := S_883) RO_S (G_S_883 63 67 rfl) (G_S_883 63 62 rfl) (fun b => G_S_883 100 b rfl)
  have TQ_S_883 := TQ_fr (U := S_883) TQ_S (G_S_883 63 62 rfl) (G_S_883 63 65 rfl) (fun b => G_S_883 102 b rfl)
  refine Sf.b (s_fX12_forge fu hfu S_883 I_S_883 RK_S_883 TQ_S_883 RO_S_883) (fun S_889 r_889 p_r_889 => ?_)
  obtain ⟨I_S_889, G_S_889, p_r_889, RK_S_889, TQ_S_889, RO_S_889⟩ := p_r_889
  have F_S_889 := Fr.tr F_S_883 G_S_889 rfl
  have EE_S_889 := EE_fr (U := S_889) EE_S_883 (G_S_889 49 4 rfl) (G_S_889 63 25 rfl)
  have RD_S_889 := RD_fr (U := S_889) RD_S_883 (G_S_889 63 20 rfl) (fun b => G_S_889 76 b rfl) (fun b => G_S_889 77 b rfl)
  have h1 : ((1 : Int32)).toInt = 1 := li_1
  exact Sf.so ⟨I_S_889, F_S_889, by omega, RD_S_889, RK_S_889, TQ_S_889, RO_S_889, EE_S_889⟩
set_option maxHeartbeats 4000000 in
theorem s_fc_20 (fu : Nat) (hfu : 1000000000000000000 ≤ fu) (a1 : Int32) (a2 : Int32) (a3 : Int32) (a4 : Int32) (a5 : Int32) (S : St) (I_S : Inv S) (RD_S : RD S) (RK_S : RK S) (TQ_S : TQ S) (RO_S : RO S) (EE_S : EE S) : Sf (fc_20 fu a1 a2 a3 a4 a5 S) (fun U r => Inv U ∧ Fr [(63, 1)] S U ∧ ((r.toInt = 1)) ∧ RD U ∧ RK U ∧ TQ U ∧ RO U ∧ EE U) := by
  unfold fc_20
  have F_S : Fr [(63, 1)] S S := Fr.refl _ _
  refine Sf.b (s_fL_query fu hfu a1 S I_S) (fun S_905 r_905 p_r_905 => ?_)
  obtain ⟨I_S_905, G_S_905, p_r_905⟩ := p_r_905
  have F_S_905 := Fr.tr F_S G_S_905 rfl
  have EE_S_905 := EE_fr (U := S_905) EE_S (G_S_905 49 4 rfl) (G_S_905 63 25 rfl)
  have RD_S_905 := RD_fr (U := S_905) RD_S (G_S_905 63 20 rfl) (fun b => G_S_905 76 b rfl) (fun b => G_S_905 77 b rfl)
  have RK_S_905 := RK_fr (U := S_905) RK_S (G_S_905 63 50 rfl) (fun b => G_S_905 92 b rfl) (fun b => G_S_905 93 b rfl) (fun b => G_S_905 94 b rfl)
  have RO_S_905 := RO_fr (U := S_905) RO_S (G_S_905 63 67 rfl) (G_S_905 63 62 rfl) (fun b => G_S_905 100 b rfl)
  have TQ_S_905 := TQ_fr (U := S_905) TQ_S (G_S_905 63 62 rfl) (G_S_905 63 65 rfl) (fun b => G_S_905 102 b rfl)
  refine Sf.b (s_fX12_query fu hfu a1 S_905 I_S_905 RO_S_905) (fun S_917 r_917 p_r_917 => ?_)
  obtain ⟨I_S_917, G_S_917, p_r_917⟩ := p_r_917
  have F_S_917 := Fr.tr F_S_905 G_S_917 rfl
  have EE_S_917 := EE_fr (U := S_917) EE_S_905 (G_S_917 49 4 rfl) (G_S_917 63 25 rfl)
  have RD_S_917 := RD_fr (U := S_917) RD_S_905 (G_S_917 63 20 rfl) (fun b => G_S_917 76 b rfl) (fun b => G_S_917 77 b rfl)
  have RK_S_917 := RK_fr (U := S_917) RK_S_905 (G_S_917 63 50 rfl) (fun b => G_S_917 92 b rfl) (fun b => G_S_917 93 b rfl) (fun b => G_S_917 94 b rfl)
  have RO_S_917 := RO_fr (U := S_917) RO_S_905 (G_S_917 63 67 rfl) (G_S_917 63 62 rfl) (fun b => G_S_917 100 b rfl)
  have TQ_S_917 := TQ_fr (U := S_917) TQ_S_905 (G_S_917 63 62 rfl) (G_S_917 63 65 rfl) (fun b => G_S_917 102 b rfl)
  have h1 : ((1 : Int32)).toInt = 1 := li_1
  exact Sf.so ⟨I_S_917, F_S_917, by omega, RD_S_917, RK_S_917, TQ_S_917, RO_S_917, EE_S_917⟩
set_option maxHeartbeats 4000000 in
theorem s_fc_21 (fu : Nat) (hfu : 1000000000000000000 ≤ fu) (a1 : Int32) (a2 : Int32) (a3 : Int32) (a4 : Int32) (a5 : Int32) (S : St) (I_S : Inv S) (RD_S : RD S) (RK_S : RK S) (TQ_S : TQ S) (RO_S : RO S) (EE_S : EE S) : Sf (fc_21 fu a1 a2 a3 a4 a5 S) (fun U r => Inv U ∧ Fr [(63, 1)] S U ∧ ((r.toInt = 1)) ∧ RD U ∧ RK U ∧ TQ U ∧ RO U ∧ EE U) := by
  unfold fc_21
  have F_S : Fr [(63, 1)] S S := Fr.refl _ _
  refine Sf.b (s_fL_result fu hfu a1 S I_S) (fun S_933 r_933 p_r_933 => ?_)
  obtain ⟨I_S_933, G_S_933, p_r_933⟩ := p_r_933
  have F_S_933 := Fr.tr F_S G_S_933 rfl
  have EE_S_933 := EE_fr (U := S_933) EE_S (G_S_933 49 4 rfl) (G_S_933 63 25 rfl)
  have RD_S_933 := RD_fr (U := S_933) RD_S (G_S_933 63 20 rfl) (fun b => G_S_933 76 b rfl) (fun b => G_S_933 77 b rfl)
  have RK_S_933 := RK_fr (U := S_933) RK_S (G_S_933 63 50 rfl) (fun b => G_S_933 92 b rfl) (fun b => G_S_933 93 b rfl) (fun b => G_S_933 94 b rfl)
  have RO_S_933 := RO_fr (U := S_933) RO_S (G_S_933 63 67 rfl) (G_S_933 63 62 rfl) (fun b => G_S_933 100 b rfl)
  have TQ_S_933 := TQ_fr (U := S_933) TQ_S (G_S_933 63 62 rfl) (G_S_933 63 65 rfl) (fun b => G_S_933 102 b rfl)
  refine Sf.b (s_fX12_result fu hfu a1 S_933 I_S_933) (fun S_945 r_945 p_r_945 => ?_)
  obtain ⟨I_S_945, G_S_945, p_r_945⟩ := p_r_945
  have F_S_945 := Fr.tr F_S_933 G_S_945 rfl
  have EE_S_945 := EE_fr (U := S_945) EE_S_933 (G_S_945 49 4 rfl) (G_S_945 63 25 rfl)
  have RD_S_945 := RD_fr (U := S_945) RD_S_933 (G_S_945 63 20 rfl) (fun b => G_S_945 76 b rfl) (fun b => G_S_945 77 b rfl)
  have RK_S_945 := RK_fr (U := S_945) RK_S_933 (G_S_945 63 50 rfl) (fun b => G_S_945 92 b rfl) (fun b => G_S_945 93 b rfl) (fun b => G_S_945 94 b rfl)
  have RO_S_945 := RO_fr (U := S_945) RO_S_933 (G_S_945 63 67 rfl) (G_S_945 63 62 rfl) (fun b => G_S_945 100 b rfl)
  have TQ_S_945 := TQ_fr (U := S_945) TQ_S_933 (G_S_945 63 62 rfl) (G_S_945 63 65 rfl) (fun b => G_S_945 102 b rfl)
  have h1 : ((1 : Int32)).toInt = 1 := li_1
  exact Sf.so ⟨I_S_945, F_S_945, by omega, RD_S_945, RK_S_945, TQ_S_945, RO_S_945, EE_S_945⟩
set_option maxHeartbeats 4000000 in
theorem s_fc_22 (fu : Nat) (hfu : 1000000000000000000 ≤ fu) (a1 : Int32) (a2 : Int32) (a3 : Int32) (a4 : Int32) (a5 : Int32) (S : St) (I_S : Inv S) (RD_S : RD S) (RK_S : RK S) (TQ_S : TQ S) (RO_S : RO S) (EE_S : EE S) : Sf (fc_22 fu a1 a2 a3 a4 a5 S) (fun U r => Inv U ∧ Fr [(63, 1)] S U ∧ ((r.toInt = 1)) ∧ RD U ∧ RK U ∧ TQ U ∧ RO U ∧ EE U) := by
  unfold fc_22
  have F_S : Fr [(63, 1)] S S := Fr.refl _ _
  refine Sf.bp (s_fX11_data fu hfu a1 S I_S) (fun r_960 p_r_960 => ?_)
  refine Sf.b (s_fX12_data fu hfu a1 S I_S) (fun S_971 r_971 p_r_971 => ?_)
  obtain ⟨I_S_971, G_S_971, p_r_971⟩ := p_r_971
  have F_S_971 := Fr.tr F_S G_S_971 rfl
  have EE_S_971 := EE_fr (U := S_971) EE_S (G_S_971 49 4 rfl) (G_S_971 63 25 rfl)
  have RD_S_971 := RD_fr (U := S_971) RD_S (G_S_971 63 20 rfl) (fun b => G_S_971 76 b rfl) (fun b => G_S_971 77 b rfl)
  have RK_S_971 := RK_fr (U := S_971) RK_S (G_S_971 63 50 rfl) (fun b => G_S_971 92 b rfl) (fun b => G_S_971 93 b rfl) (fun b => G_S_971 94 b rfl)
  have RO_S_971 := RO_fr (U := S_971) RO_S (G_S_971 63 67 rfl) (G_S_971 63 62 rfl) (fun b => G_S_971 100 b rfl)
  have TQ_S_971 := TQ_fr (U := S_971) TQ_S (G_S_971 63 62 rfl) (G_S_971 63 65 rfl) (fun b => G_S_971 102 b rfl)
  have h1 : ((1 : Int32)).toInt = 1 := li_1
  exact Sf.so ⟨I_S_971, F_S_971, by omega, RD_S_971, RK_S_971, TQ_S_971, RO_S_971, EE_S_971⟩
set_option maxHeartbeats 4000000 in
theorem s_fc_23 (fu : Nat) (hfu : 1000000000000000000 ≤ fu) (a1 : Int32) (a2 : Int32) (a3 : Int32) (a4 : Int32) (a5 : Int32) (S : St) (I_S : Inv S) (RD_S : RD S) (RK_S : RK S) (TQ_S : TQ S) (RO_S : RO S) (EE_S : EE S) : Sf (fc_23 fu a1 a2 a3 a4 a5 S) (fun U r => Inv U ∧ Fr [(63, 1)] S U ∧ ((r.toInt = 1)) ∧ RD U ∧ RK U ∧ TQ U ∧ RO U ∧ EE U) := by
  unfold fc_23
  have F_S : Fr [(63, 1)] S S := Fr.refl _ _
  refine Sf.b (s_fL_cached fu hfu a1 a2 S I_S) (fun S_992 r_992 p_r_992 => ?_)
  obtain ⟨I_S_992, G_S_992, p_r_992⟩ := p_r_992
  have F_S_992 := Fr.tr F_S G_S_992 rfl
  have EE_S_992 := EE_fr (U := S_992) EE_S (G_S_992 49 4 rfl) (G_S_992 63 25 rfl)
  have RD_S_992 := RD_fr (U := S_992) RD_S (G_S_992 63 20 rfl) (fun b => G_S_992 76 b rfl) (fun b => G_S_992 77 b rfl)
  have RK_S_992 := RK_fr (U := S_992) RK_S (G_S_992 63 50 rfl) (fun b => G_S_992 92 b rfl) (fun b => G_S_992 93 b rfl) (fun b => G_S_992 94 b rfl)
  have RO_S_992 := RO_fr (U := S_992) RO_S (G_S_992 63 67 rfl) (G_S_992 63 62 rfl) (fun b => G_S_992 100 b rfl)
  have TQ_S_992 := TQ_fr (U := S_992) TQ_S (G_S_992 63 62 rfl) (G_S_992 63 65 rfl) (fun b => G_S_992 102 b rfl)
  refine Sf.b (s_fX12_cached fu hfu a1 a2 S_992 I_S_992) (fun S_1010 r_1010 p_r_1010 => ?_)
  obtain ⟨I_S_1010, G_S_1010, p_r_1010⟩ := p_r_1010
  have F_S_1010 := Fr.tr F_S_992 G_S_1010 rfl
  have EE_S_1010 := EE_fr (U := S_1010) EE_S_992 (G_S_1010 49 4 rfl) (G_S_1010 63 25 rfl)
  have RD_S_1010 := RD_fr (U := S_1010) RD_S_992 (G_S_1010 63 20 rfl) (fun b => G_S_1010 76 b rfl) (fun b => G_S_1010 77 b rfl)
  have RK_S_1010 := RK_fr (U := S_1010) RK_S_992 (G_S_1010 63 50 rfl) (fun b => G_S_1010 92 b rfl) (fun b => G_S_1010 93 b rfl) (fun b => G_S_1010 94 b rfl)
  have RO_S_1010 := RO_fr (U := S_1010) RO_S_992 (G_S_1010 63 67 rfl) (G_S_1010 63 62 rfl) (fun b => G_S_1010 100 b rfl)
  have TQ_S_1010 := TQ_fr (U := S_1010) TQ_S_992 (G_S_1010 63 62 rfl) (G_S_1010 63 65 rfl) (fun b => G_S_1010 102 b rfl)
  have h1 : ((1 : Int32)).toInt = 1 := li_1
  exact Sf.so ⟨I_S_1010, F_S_1010, by omega, RD_S_1010, RK_S_1010, TQ_S_1010, RO_S_1010, EE_S_1010⟩
set_option maxHeartbeats 4000000 in
theorem s_fc_24 (fu : Nat) (hfu : 1000000000000000000 ≤ fu) (a1 : Int32) (a2 : Int32) (a3 : Int32) (a4 : Int32) (a5 : Int32) (S : St) (I_S : Inv S) (RD_S : RD S) (RK_S : RK S) (TQ_S : TQ S) (RO_S : RO S) (EE_S : EE S) : Sf (fc_24 fu a1 a2 a3 a4 a5 S) (fun U r => Inv U ∧ Fr [(63, 1)] S U ∧ ((r.toInt = 1)) ∧ RD U ∧ RK U ∧ TQ U ∧ RO U ∧ EE U) := by
  unfold fc_24
  have F_S : Fr [(63, 1)] S S := Fr.refl _ _
  refine Sf.bp (s_fX11_count fu hfu a1 S I_S) (fun r_1025 p_r_1025 => ?_)
  refine Sf.b (s_fX12_count fu hfu a1 S I_S) (fun S_1036 r_1036 p_r_1036 => ?_)
  obtain ⟨I_S_1036, G_S_1036, p_r_1036⟩ := p_r_1036
  have F_S_1036 := Fr.tr F_S G_S_1036 rfl
  have EE_S_1036 := EE_fr (U := S_1036) EE_S (G_S_1036 49 4 rfl) (G_S_1036 63 25 rfl)
  have RD_S_1036 := RD_fr (U := S_1036) RD_S (G_S_1036 63 20 rfl) (fun b => G_S_1036 76 b rfl) (fun b => G_S_1036 77 b rfl)
  have RK_S_1036 := RK_fr (U := S_1036) RK_S (G_S_1036 63 50 rfl) (fun b => G_S_1036 92 b rfl) (fun b => G_S_1036 93 b rfl) (fun b => G_S_1036 94 b rfl)
  have RO_S_1036 := RO_fr (U := S_1036) RO_S (G_S_1036 63 67 rfl) (G_S_1036 63 62 rfl) (fun b => G_S_1036 100 b rfl)
  have TQ_S_1036 := TQ_fr (U := S_1036) TQ_S (G_S_1036 63 62 rfl) (G_S_1036 63 65 rfl) (fun b => G_S_1036 102 b rfl)
  have h1 : ((1 : Int32)).toInt = 1 := li_1
  exact Sf.so ⟨I_S_1036, F_S_1036, by omega, RD_S_1036, RK_S_1036, TQ_S_1036, RO_S_1036, EE_S_1036⟩
