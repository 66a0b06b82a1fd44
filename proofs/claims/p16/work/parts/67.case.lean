theorem Fr.w1 {M : List (Nat × Nat)} {S T : St} {q k : Nat} {v : Int32} (h : Fr M S T) (hm : inM M q k = true) : Fr M S (wI q k v T) := by
  intro a b hn
  rw [rdI]
  by_cases e : a = q
  · subst e
    by_cases e2 : b = k
    · subst e2; rw [hm] at hn; exact Bool.noConfusion hn
    · rw [if_pos rfl, if_neg e2]; exact h a b hn
  · rw [if_neg e]; exact h a b hn
theorem hint_c (fu : Nat) (x1 : Int32) (S : St) (I_S : Inv S) : Sf (fX11_hint fu x1 S) (fun U r => Inv U ∧ Fr [(49, 5), (59, 0)] S U ∧ ((S.1 49 4).toInt < 4 ∧ r = S.1 49 4 + 1 ∧ U.1 49 4 = S.1 49 4 + 1 ∨ (S.1 49 4).toInt = 4 ∧ r = -1 ∧ U.1 49 4 = S.1 49 4)) := by
  have b := b_49_4 I_S
  unfold fX11_hint fX6_addHint
  by_cases c : S.1 49 4 < (4 : Int32)
  · have c' := lt_iv rfl li_4 c
    have ck1 : ck (S.1 49 4) 4 = true := ck_iv (by omega) (by omega)
    rw [if_pos c, gd_t ck1]
    have ea : (S.1 49 4 + (1 : Int32)).toInt = (S.1 49 4).toInt + 1 := add_iv rfl li_1 (by omega) (by omega)
    have I1 : Inv (wI 59 (S.1 49 4).toNatClampNeg x1 S) := inv_w I_S (i32 _).1 (i32 _).2
    refine ⟨wI 49 4 (S.1 49 4 + 1) (wI 59 (S.1 49 4).toNatClampNeg x1 S), S.1 49 4 + 1, rfl, inv_w I1 (show (0 : Int) ≤ _ by rw [ea]; omega) (show _ ≤ (4 : Int) by rw [ea]; omega), Fr.w1 (Fr.w1 (Fr.refl _ _) rfl) rfl, Or.inl ⟨c', rfl, rfl⟩⟩
  · have c' := nlt_iv rfl li_4 c
    rw [if_neg c]
    exact ⟨S, -1, rfl, I_S, Fr.refl _ _, Or.inr ⟨by omega, rfl, rfl⟩⟩
theorem hint_m (fu : Nat) (x1 : Int32) (S : St) (I_S : Inv S) : Sf (fX12_hint fu x1 S) (fun U r => Inv U ∧ Fr [(63, 1), (63, 26), (81, 0)] S U ∧ ((S.1 63 25).toInt < 4 ∧ r = S.1 63 25 + 1 ∧ U.1 63 25 = S.1 63 25 + 1 ∨ (S.1 63 25).toInt = 4 ∧ r = -1 ∧ U.1 63 25 = S.1 63 25)) := by
  have b := b_63_25 I_S
  have I0 : Inv (wI 63 0 0 S) := inv_w I_S (i32 _).1 (i32 _).2
  unfold fX12_hint
  rw [sI_e]
  have e0 : (wI 63 0 0 S).1 63 25 = S.1 63 25 := rfl
  by_cases c : (wI 63 0 0 S).1 63 25 = (4 : Int32)
  · rw [if_pos c]
    rw [e0] at c
    have c' := eq_iv rfl li_4 c
    exact ⟨wI 63 0 0 S, -1, rfl, I0, Fr.w1 (Fr.refl _ _) rfl, Or.inr ⟨c', rfl, rfl⟩⟩
  · rw [if_neg c]
    rw [e0] at c
    have c' := neq_iv rfl li_4 c
    have ck1 : ck (S.1 63 25) 4 = true := ck_iv (by omega) (by omega)
    rw [gd_t (show ck ((wI 63 0 0 S).1 63 25) 4 = true from ck1)]
    have ea : (S.1 63 25 + (1 : Int32)).toInt = (S.1 63 25).toInt + 1 := add_iv rfl li_1 (by omega) (by omega)
    have I1 : Inv (wI 81 (S.1 63 25).toNatClampNeg x1 (wI 63 0 0 S)) := inv_w I0 (i32 _).1 (i32 _).2
    refine ⟨wI 63 25 (S.1 63 25 + 1) (wI 81 (S.1 63 25).toNatClampNeg x1 (wI 63 0 0 S)), S.1 63 25 + 1, rfl, inv_w I1 (show (0 : Int) ≤ _ by rw [ea]; omega) (show _ ≤ (4 : Int) by rw [ea]; omega), Fr.w1 (Fr.w1 (Fr.w1 (Fr.refl _ _) rfl) rfl) rfl, Or.inl ⟨by omega, rfl, rfl⟩⟩
theorem s_fc_14 (fu : Nat) (hfu : 1000000000000000000 ≤ fu) (a1 a2 a3 a4 a5 : Int32) (S : St) (I_S : Inv S) (RD_S : RD S) (RK_S : RK S) (TQ_S : TQ S) (RO_S : RO S) (EE_S : EE S) : Sf (fc_14 fu a1 a2 a3 a4 a5 S) (fun U r => Inv U ∧ Fr [(49, 5), (59, 0), (63, 1), (63, 26), (81, 0)] S U ∧ ((r.toInt = 1)) ∧ RD U ∧ RK U ∧ TQ U ∧ RO U ∧ EE U) := by
  unfold fc_14
  refine Sf.b (hint_c fu a1 S I_S) (fun T k h => ?_)
  obtain ⟨I1, F1, h⟩ := h
  refine Sf.b (hint_m fu a1 T I1) (fun U r g => ?_)
  obtain ⟨I2, F2, g⟩ := g
  have RD_U := RD_fr (U := U) (RD_fr (U := T) RD_S (F1 63 20 rfl) (fun b => F1 76 b rfl) (fun b => F1 77 b rfl)) (F2 63 20 rfl) (fun b => F2 76 b rfl) (fun b => F2 77 b rfl)
  have RK_U := RK_fr (U := U) (RK_fr (U := T) RK_S (F1 63 50 rfl) (fun b => F1 92 b rfl) (fun b => F1 93 b rfl) (fun b => F1 94 b rfl)) (F2 63 50 rfl) (fun b => F2 92 b rfl) (fun b => F2 93 b rfl) (fun b => F2 94 b rfl)
  have TQ_U := TQ_fr (U := U) (TQ_fr (U := T) TQ_S (F1 63 62 rfl) (F1 63 65 rfl) (fun b => F1 102 b rfl)) (F2 63 62 rfl) (F2 63 65 rfl) (fun b => F2 102 b rfl)
  have RO_U := RO_fr (U := U) (RO_fr (U := T) RO_S (F1 63 67 rfl) (F1 63 62 rfl) (fun b => F1 100 b rfl)) (F2 63 67 rfl) (F2 63 62 rfl) (fun b => F2 100 b rfl)
  have F3 : Fr [(49, 5), (59, 0), (63, 1), (63, 26), (81, 0)] S U := Fr.tr (Fr.tr (Fr.refl _ S) F1 rfl) F2 rfl
  have m1 : T.1 63 25 = S.1 63 25 := F1 63 25 rfl
  have m2 : U.1 49 4 = T.1 49 4 := F2 49 4 rfl
  have E : S.1 49 4 = S.1 63 25 := EE_S
  have L1 : ((1 : Int32)).toInt = 1 := li_1
  rw [m1, ← E] at g
  have EK : EE U ∧ k = r := by
    rcases h with ⟨hc, hk, hv⟩ | ⟨hc, hk, hv⟩ <;> rcases g with ⟨gc, gk, gv⟩ | ⟨gc, gk, gv⟩
    · exact ⟨by show U.1 49 4 = U.1 63 25; rw [m2, hv, gv], by rw [hk, gk]⟩
    · exfalso; omega
    · exfalso; omega
    · exact ⟨by show U.1 49 4 = U.1 63 25; rw [m2, hv, gv], by rw [hk, gk]⟩
  obtain ⟨EE_U, ek⟩ := EK
  refine Sf.it ek ?_
  exact Sf.so ⟨I2, F3, L1, RD_U, RK_U, TQ_U, RO_U, EE_U⟩
