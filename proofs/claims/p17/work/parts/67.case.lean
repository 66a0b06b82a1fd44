theorem Fr.w1 {M : List (Nat × Nat)} {S T : St} {q k : Nat} {v : Int32} (h : Fr M S T) (hm : inM M q k = true) : Fr M S (wI q k v T) := by
  intro a b hn
  rw [rdI]
  by_cases e : a = q
  · subst e
    by_cases e2 : b = k
    · subst e2; rw [hm] at hn; exact Bool.noConfusion hn
    · rw [if_pos rfl, if_neg e2]; exact h a b hn
  · rw [if_neg e]; exact h a b hn
theorem tick_c (fu : Nat) (x1 : Int32) (S : St) (I_S : Inv S) : Sf (fL_tick fu x1 S) (fun U r => Inv U ∧ Fr [(42, 9)] S U ∧ (r = 0 ∧ ¬ x1 < 0 ∧ x1 ≤ 100000 ∧ U.1 42 8 = S.1 42 8 + x1 ∧ U.2 106 0 = (S.1 42 8 + x1).toInt64 ∨ r = 1 ∧ (x1 < 0 ∨ ¬ x1 ≤ 100000) ∧ U.1 42 8 = S.1 42 8)) := by
  unfold fL_tick fX11_tick
  by_cases c1 : x1 < 0
  · rw [if_pos c1]
    exact ⟨S, 1, rfl, I_S, Fr.refl _ _, Or.inr ⟨rfl, Or.inl c1, rfl⟩⟩
  · rw [if_neg c1]
    by_cases c2 : x1 ≤ 100000
    · rw [if_pos c2]
      exact ⟨wJ 106 0 (S.1 42 8 + x1).toInt64 (wI 42 8 (S.1 42 8 + x1) S), 0, rfl, inv_w I_S (i32 _).1 (i32 _).2, Fr.w1 (Fr.refl _ _) rfl, Or.inl ⟨rfl, c1, c2, rfl, rfl⟩⟩
    · rw [if_neg c2]
      exact ⟨S, 1, rfl, I_S, Fr.refl _ _, Or.inr ⟨rfl, Or.inr c2, rfl⟩⟩
theorem tick_m (fu : Nat) (x1 : Int32) (S : St) (I_S : Inv S) : Sf (fX12_tick fu x1 S) (fun U r => Inv U ∧ Fr [(63, 1), (63, 52)] S U ∧ U.2 = S.2 ∧ (¬ x1 < 0 ∧ x1 ≤ 100000 ∧ U.1 63 0 = 0 ∧ r = S.1 63 51 + x1 ∧ U.1 63 51 = S.1 63 51 + x1 ∨ (x1 < 0 ∨ ¬ x1 ≤ 100000) ∧ U.1 63 0 = 1 ∧ U.1 63 51 = S.1 63 51)) := by
  have I0 : Inv (wI 63 0 0 S) := inv_w I_S (i32 _).1 (i32 _).2
  have F0' : Fr [(63, 1), (63, 52)] S (wI 63 0 0 S) := Fr.w1 (Fr.refl _ _) rfl
  have out : Sf (fX12_tick_21 fu x1 (1 : Int32) (wI 63 0 0 S)) (fun U r => Inv U ∧ Fr [(63, 1), (63, 52)] S U ∧ U.2 = S.2 ∧ U.1 63 0 = 1 ∧ U.1 63 51 = S.1 63 51) :=
    ⟨wI 63 0 1 (wI 63 0 0 S), 0, rfl, inv_w I0 (i32 _).1 (i32 _).2, Fr.w1 F0' rfl, rfl, rfl, rfl⟩
  unfold fX12_tick
  rw [sI_e]
  by_cases c1 : x1 < 0
  · rw [if_pos c1]
    exact Sf.mono out (fun U r h => ⟨h.1, h.2.1, h.2.2.1, Or.inr ⟨Or.inl c1, h.2.2.2.1, h.2.2.2.2⟩⟩)
  · rw [if_neg c1]
    by_cases c2 : x1 ≤ 100000
    · rw [if_pos c2]
      exact ⟨wI 63 51 (S.1 63 51 + x1) (wI 63 0 0 S), S.1 63 51 + x1, rfl, inv_w I0 (i32 _).1 (i32 _).2, Fr.w1 F0' rfl, rfl, Or.inl ⟨c1, c2, rfl, rfl, rfl⟩⟩
    · rw [if_neg c2]
      exact Sf.mono out (fun U r h => ⟨h.1, h.2.1, h.2.2.1, Or.inr ⟨Or.inr c2, h.2.2.2.1, h.2.2.2.2⟩⟩)
theorem s_fc_15 (fu : Nat) (hfu : 1000000000000000000 ≤ fu) (a1 a2 a3 a4 a5 : Int32) (S : St) (I_S : Inv S) (RD_S : RD S) (RK_S : RK S) (TQ_S : TQ S) (RO_S : RO S) (EE_S : EE S) : Sf (fc_15 fu a1 a2 a3 a4 a5 S) (fun U r => Inv U ∧ Fr [(42, 9), (63, 1), (63, 52)] S U ∧ ((r.toInt = 1)) ∧ RD U ∧ RK U ∧ TQ U ∧ RO U ∧ EE U) := by
  unfold fc_15
  refine Sf.b (tick_c fu a1 S I_S) (fun T k h => ?_)
  obtain ⟨I1, F1, h⟩ := h
  refine Sf.b (tick_m fu a1 T I1) (fun U r g => ?_)
  obtain ⟨I2, F2, l2, g⟩ := g
  have RD_U := RD_fr (U := U) (RD_fr (U := T) RD_S (F1 63 20 rfl) (fun b => F1 76 b rfl) (fun b => F1 77 b rfl)) (F2 63 20 rfl) (fun b => F2 76 b rfl) (fun b => F2 77 b rfl)
  have RK_U := RK_fr (U := U) (RK_fr (U := T) RK_S (F1 63 50 rfl) (fun b => F1 92 b rfl) (fun b => F1 93 b rfl) (fun b => F1 94 b rfl)) (F2 63 50 rfl) (fun b => F2 92 b rfl) (fun b => F2 93 b rfl) (fun b => F2 94 b rfl)
  have TQ_U := TQ_fr (U := U) (TQ_fr (U := T) TQ_S (F1 63 62 rfl) (F1 63 65 rfl) (fun b => F1 102 b rfl)) (F2 63 62 rfl) (F2 63 65 rfl) (fun b => F2 102 b rfl)
  have RO_U := RO_fr (U := U) (RO_fr (U := T) RO_S (F1 63 67 rfl) (F1 63 62 rfl) (fun b => F1 100 b rfl)) (F2 63 67 rfl) (F2 63 62 rfl) (fun b => F2 100 b rfl)
  have F3 : Fr [(42, 9), (63, 1), (63, 52)] S U := Fr.tr (Fr.tr (Fr.refl _ S) F1 rfl) F2 rfl
  have m1 : T.1 63 51 = S.1 63 51 := F1 63 51 rfl
  have m2 : U.1 42 8 = T.1 42 8 := F2 42 8 rfl
  have E : S.1 42 8 = S.1 63 51 := EE_S
  have L1 : ((1 : Int32)).toInt = 1 := li_1
  refine Sf.b (⟨U, U.1 63 0, rfl, rfl, rfl⟩ : Sf (fX12_thrown fu U) (fun V q => V = U ∧ q = U.1 63 0)) (fun V q e => ?_)
  obtain ⟨e1, e2⟩ := e
  subst e1
  subst e2
  rcases h with ⟨hk, c1, c2, hv, hj⟩ | ⟨hk, hc, hv⟩
  · rcases g with ⟨_, _, hz, hr, hw⟩ | ⟨hd, _, _⟩
    · subst hk
      have EE_U : EE V := by show V.1 42 8 = V.1 63 51; rw [m2, hv, hw, m1, E]
      refine Sf.it hz ?_
      refine Sf.it rfl ?_
      refine Sf.g (by decide) ?_
      refine Sf.it ?_ ?_
      · have e3 : V.2 106 ((0 : Int32)).toNatClampNeg = r.toInt64 := by
          show V.2 106 0 = r.toInt64
          rw [l2, hj, hr, m1, E]
        rw [e3]; exact lg_self _
      · exact Sf.so ⟨I2, F3, L1, RD_U, RK_U, TQ_U, RO_U, EE_U⟩
    · rcases hd with hd | hd
      · exact absurd hd c1
      · exact absurd c2 hd
  · rcases g with ⟨d1, d2, _, _, _⟩ | ⟨_, hz, hw⟩
    · rcases hc with hc | hc
      · exact absurd hc d1
      · exact absurd d2 hc
    · subst hk
      have EE_U : EE V := by show V.1 42 8 = V.1 63 51; rw [m2, hv, hw, m1, E]
      refine Sf.it hz ?_
      refine Sf.ie (by decide) ?_
      exact Sf.so ⟨I2, F3, L1, RD_U, RK_U, TQ_U, RO_U, EE_U⟩
