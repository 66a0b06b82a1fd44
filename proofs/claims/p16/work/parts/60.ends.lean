theorem s_fX12_ends (fu : Nat) (hfu : 1000000000000000000 ≤ fu) (x1 : Int32) (S : St) (I_S : Inv S) (TQ_S : TQ S) (g0 : (x1).toInt = 0 → (S.1 63 62).toInt ≤ 1 → 0 ≤ (setv fu S (S.1 97 0) (S.1 98 0)).toInt) : Sf (fX12_ends fu x1 S) (fun U r => Inv U ∧ Fr [(63, 63), (63, 64), (63, 72), (104, 0)] S U ∧ TQ U ∧ U.2 = S.2 ∧ ((S.1 63 62).toInt ≤ 1 ∧ (U.1 63 63).toInt = (x1).toInt ∧ (U.1 63 62).toInt = (S.1 63 62).toInt ∨ 1 < (S.1 63 62).toInt ∧ (U.1 63 63).toInt = (S.1 63 63).toInt ∧ (U.1 63 62).toInt = (S.1 63 62).toInt - 1)) := by
  unfold fX12_ends
  have F_S : Fr [(63, 63), (63, 64), (63, 72), (104, 0)] S S := Fr.refl _ _
  have hb := b_63_62 I_S
  refine Sf.i (fun c => ?_) (fun c => ?_)
  · have h1 := le_iv rfl li_1 c
    refine Sf.w I_S F_S rfl (i32 _).1 (i32 _).2 (fun S_21 I_S_21 F_S_21 v_S_21 f_S_21 l_S_21 => ?_)
    have e62 := ti_eq (f_S_21 63 62 (fun _ e => absurd e (by decide)))
    have e63 := eq_iv rfl rfl v_S_21
    have TQ1 : TQ S_21 := TQ_fr TQ_S (f_S_21 63 62 (fun _ e => absurd e (by decide))) (f_S_21 63 65 (fun _ e => absurd e (by decide))) (fun b => f_S_21 102 b (fun e => absurd e (by decide)))
    refine Sf.i (fun c2 => ?_) (fun c2 => ?_)
    · have h2 := eq_iv rfl li_0 c2
      refine Sf.g (by decide) ?_
      refine Sf.g (by decide) ?_
      have ag : AG S S_21 := ⟨fun b => f_S_21 64 b (fun e => absurd e (by decide)), fun b => f_S_21 91 b (fun e => absurd e (by decide)), fun b => f_S_21 92 b (fun e => absurd e (by decide)), fun b => f_S_21 93 b (fun e => absurd e (by decide)), f_S_21 63 50 (fun _ e => absurd e (by decide)), f_S_21 63 51 (fun _ e => absurd e (by decide)), l_S_21⟩
      obtain ⟨r, er, pr⟩ := s_fX12_set fu hfu (S_21.1 97 ((0 : Int32)).toNatClampNeg) (S_21.1 98 ((0 : Int32)).toNatClampNeg) S_21 I_S_21
      have hr : 0 ≤ r.toInt := by
        have q := setv_ag hfu I_S I_S_21 ag (S.1 97 0) (S.1 98 0)
        have e97 : S_21.1 97 ((0 : Int32)).toNatClampNeg = S.1 97 0 := f_S_21 97 0 (fun e => absurd e (by decide))
        have e98 : S_21.1 98 ((0 : Int32)).toNatClampNeg = S.1 98 0 := f_S_21 98 0 (fun e => absurd e (by decide))
        have q2 : setv fu S_21 (S.1 97 0) (S.1 98 0) = r := by
          have er2 := er
          rw [e97, e98] at er2
          unfold setv
          rw [er2]
        rw [← q2, q]
        exact g0 h2 h1
      have b50 := b_63_50 I_S_21
      rw [bd_e er]
      refine Sf.g (ck_iv hr (by omega)) ?_
      have a93 := a_93 I_S_21 (r.toNatClampNeg)
      refine Sf.w I_S_21 F_S_21 rfl (show (0 : Int) ≤ _ from a93.1) (show _ ≤ (10 : Int) from a93.2) (fun S_53 I_S_53 F_S_53 v_S_53 f_S_53 l_S_53 => ?_)
      have z0 : ((0 : Int32)).toInt = 0 := li_0
      refine Sf.mono (s_fX12_ends_58 fu hfu fu r (0 : Int32) S_53 I_S_53 (by omega) (by omega) (by omega) (by omega)) (fun U q p => ?_)
      obtain ⟨I_U, G_U, -, L_U⟩ := p
      have k62 : U.1 63 62 = S_21.1 63 62 := (G_U 63 62 rfl).trans (f_S_53 63 62 (fun _ e => absurd e (by decide)))
      have k63 : U.1 63 63 = S_21.1 63 63 := (G_U 63 63 rfl).trans (f_S_53 63 63 (fun _ e => absurd e (by decide)))
      have k65 : U.1 63 65 = S_21.1 63 65 := (G_U 63 65 rfl).trans (f_S_53 63 65 (fun _ e => absurd e (by decide)))
      refine ⟨I_U, Fr.tr F_S_53 G_U rfl, TQ_fr TQ1 k62 k65 (fun b => (G_U 102 b rfl).trans (f_S_53 102 b (fun e => absurd e (by decide)))), L_U.trans (l_S_53.trans l_S_21), Or.inl ⟨h1, ?_, ?_⟩⟩
      · rw [k63]; exact e63
      · rw [k62]; exact e62
    · exact Sf.so ⟨I_S_21, F_S_21, TQ1, l_S_21, Or.inl ⟨h1, e63, e62⟩⟩
  · have h1 := nle_iv rfl li_1 c
    have hs : ((S.1 63 62) - (1 : Int32)).toInt = (S.1 63 62).toInt - 1 := sub_iv rfl li_1 (by omega) (by omega)
    refine Sf.w I_S F_S rfl (show (0 : Int) ≤ ((S.1 63 62) - (1 : Int32)).toInt by omega) (show ((S.1 63 62) - (1 : Int32)).toInt ≤ (4 : Int) by omega) (fun S_15 I_S_15 F_S_15 v_S_15 f_S_15 l_S_15 => ?_)
    have e62 : (S_15.1 63 62).toInt = (S.1 63 62).toInt - 1 := by rw [v_S_15]; exact hs
    exact Sf.so ⟨I_S_15, F_S_15, TQ_le TQ_S (by omega) (f_S_15 63 65 (fun _ e => absurd e (by decide))) (fun b => f_S_15 102 b (fun e => absurd e (by decide))), l_S_15, Or.inr ⟨h1, ti_eq (f_S_15 63 63 (fun _ e => absurd e (by decide))), e62⟩⟩
/-- a FRAME ends: less is left to do -/
theorem EN_lt {γ : Int32 → Int32} {S U : St} (I : Inv S) (h4 : (S.1 63 63).toInt = 4) (h0 : (S.1 63 67).toInt = 0) (F : Fr [(63, 63), (63, 64), (63, 72), (104, 0)] S U) {x : Int} (hx : x ≠ 4) (h : (S.1 63 62).toInt ≤ 1 ∧ (U.1 63 63).toInt = x ∧ (U.1 63 62).toInt = (S.1 63 62).toInt ∨ 1 < (S.1 63 62).toInt ∧ (U.1 63 63).toInt = (S.1 63 63).toInt ∧ (U.1 63 62).toInt = (S.1 63 62).toInt - 1) : MM γ U < MM γ S ∧ ((U.1 63 63).toInt = 4 → 1 ≤ (U.1 63 62).toInt) ∧ (U.1 63 67).toInt = 0 := by
  have hb := b_63_62 I
  have ho : (U.1 63 67).toInt = 0 := by rw [F 63 67 rfl]; exact h0
  rcases h with ⟨a1, a2, a3⟩ | ⟨a1, a2, a3⟩
  · exact ⟨MM_stop h4 h0 (fun c => hx (by omega)), fun c => by omega, ho⟩
  · exact ⟨MM_pop h4 h0 a3 (by omega) hb.2 (fun f => PF_congr (F 97 f rfl) (F 99 f rfl) (F 100 f rfl) (fun k _ => F 103 _ rfl)), fun c => by omega, ho⟩
