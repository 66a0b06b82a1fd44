abbrev MK : List (Nat × Nat) := [(63, 63), (63, 64), (63, 72), (97, 0), (98, 0), (99, 0), (100, 0), (102, 0), (103, 0), (104, 0)]
/-- nothing was done, or less is left to do -/
def KQ (γ : Int32 → Int32) (S U : St) (r : Int32) : Prop := Inv U ∧ Fr MK S U ∧ TQ U ∧ U.2 = S.2 ∧ (r = 0 ∧ U = S ∨ r ≠ 0 ∧ MM γ U < MM γ S ∧ ((U.1 63 63).toInt = 4 → 1 ≤ (U.1 63 62).toInt) ∧ (U.1 63 67).toInt = 0)
theorem kn_end {fu : Nat} (hfu : 1000000000000000000 ≤ fu) {γ : Int32 → Int32} {S : St} (I_S : Inv S) (TQ_S : TQ S) (h4 : (S.1 63 63).toInt = 4) (h0 : (S.1 63 67).toInt = 0) {o : Int32} (ho : o.toInt ≠ 4) (g0 : (o).toInt = 0 → (S.1 63 62).toInt ≤ 1 → 0 ≤ (setv fu S (S.1 97 0) (S.1 98 0)).toInt) : Sf (bd (fX12_ends fu o S) fun S_70 _ => some (S_70, (1 : Int32))) (KQ γ S) := by
  refine Sf.b (s_fX12_ends fu hfu o S I_S TQ_S g0) (fun U r p => ?_)
  obtain ⟨I_U, G_U, TQ_U, L_U, EN_U⟩ := p
  exact Sf.so ⟨I_U, Fr.tr (Fr.refl MK S) G_U rfl, TQ_U, L_U, Or.inr ⟨by decide, EN_lt I_S h4 h0 G_U ho EN_U⟩⟩
theorem knows_76 {fu : Nat} (hfu : 1000000000000000000 ≤ fu) {γ : Int32 → Int32} {S : St} (I_S : Inv S) (RK_S : RK S) (TQ_S : TQ S) (h4 : (S.1 63 63).toInt = 4) (h0 : (S.1 63 67).toInt = 0) {x1 x2 : Int32} (hx : (x1).toInt = (S.1 63 62).toInt - 1) (h1 : 1 ≤ (S.1 63 62).toInt) (hk : (x2).toInt < (S.1 63 50).toInt) (ht : 0 ≤ (x2).toInt → (S.1 92 ((x2).toNatClampNeg)).toInt = 5 ∧ 0 < (S.1 93 ((x2).toNatClampNeg)).toInt) (hc : 0 ≤ (x2).toInt → (S.1 99 ((x1).toNatClampNeg)).toInt ≠ 8) : Sf (fX12_knows_76 fu x1 x2 S) (KQ γ S) := by
  unfold fX12_knows_76
  have hb := b_63_62 I_S
  have c1 := cl_iv (x := x1) (by omega)
  refine Sf.i (fun c => ?_) (fun c => ?_)
  · refine Sf.g (ck_iv (by omega) (by omega)) ?_
    refine Sf.bp (s_fX12_hasNothing fu hfu (S.1 97 (x1).toNatClampNeg) (0 : Int32) S I_S) (fun r p => ?_)
    refine Sf.i (fun c2 => ?_) (fun c2 => ?_)
    · refine Sf.g (ck_iv (by omega) (by omega)) ?_
      refine Sf.g (ck_iv (by omega) (by omega)) ?_
      refine Sf.bp (s_fX12_hasNothing fu hfu (S.1 97 (x1).toNatClampNeg) (S.1 98 (x1).toNatClampNeg) S I_S) (fun r p => ?_)
      refine Sf.i (fun c3 => ?_) (fun c3 => ?_)
      · exact Sf.so ⟨I_S, Fr.refl _ _, TQ_S, rfl, Or.inl ⟨rfl, rfl⟩⟩
      · exact kn_end hfu I_S TQ_S h4 h0 (by decide) (fun h => absurd h (by decide))
    · exact kn_end hfu I_S TQ_S h4 h0 (by decide) (fun h => absurd h (by decide))
  · have h2 := nlt_iv rfl li_0 c
    obtain ⟨t1, t2⟩ := ht h2
    have hc := hc h2
    have hr := RK_at0 RK_S I_S (x := x2) h2 hk (Or.inr t1) t2
    have b50 := b_63_50 I_S
    have e10 : ((10 : Int32) * x2).toInt = 10 * (x2).toInt := mul_iv li_10 rfl (by omega) (by omega)
    refine Sf.g (ck_iv (by omega) (by omega)) ?_
    refine Sf.g (ck_iv (by omega) (by omega)) ?_
    have F_S : Fr MK S S := Fr.refl _ _
    refine Sf.w I_S F_S rfl (show (0 : Int) ≤ _ from hr.1) (show _ ≤ (299 : Int) from hr.2) (fun S_94 I_S_94 F_S_94 v_S_94 f_S_94 l_S_94 => ?_)
    refine Sf.g (ck_iv (by omega) (by omega)) ?_
    refine Sf.g (ck_iv (by omega) (by omega)) ?_
    have e99 : (S_94.1 99 (x1).toNatClampNeg).toInt = (S.1 99 (x1).toNatClampNeg).toInt := ti_eq (f_S_94 99 _ (fun e => absurd e (by decide)))
    have a99 := a_99 I_S (x1.toNatClampNeg)
    have e991 : ((S_94.1 99 (x1).toNatClampNeg) + (1 : Int32)).toInt = (S.1 99 (x1).toNatClampNeg).toInt + 1 := add_iv e99 li_1 (by omega) (by omega)
    refine Sf.w I_S_94 F_S_94 rfl (show (0 : Int) ≤ ((S_94.1 99 (x1).toNatClampNeg) + (1 : Int32)).toInt by omega) (show ((S_94.1 99 (x1).toNatClampNeg) + (1 : Int32)).toInt ≤ (8 : Int) by omega) (fun S_104 I_S_104 F_S_104 v_S_104 f_S_104 l_S_104 => ?_)
    have TQ2 : TQ S_104 := TQ_fr (TQ_fr TQ_S (f_S_94 63 62 (fun e => absurd e (by decide))) (f_S_94 63 65 (fun e => absurd e (by decide))) (fun b => f_S_94 102 b (fun e => absurd e (by decide)))) (f_S_104 63 62 (fun e => absurd e (by decide))) (f_S_104 63 65 (fun e => absurd e (by decide))) (fun b => f_S_104 102 b (fun e => absurd e (by decide)))
    refine Sf.b (s_fX12_anew fu hfu x1 S_104 I_S_104 TQ2 (by omega) (by omega)) (fun S_107 r p => ?_)
    obtain ⟨I_S_107, G_S_107, -, TQ_S_107, L_S_107, AN_S_107⟩ := p
    have g : ∀ q b, q ≠ 97 → q ≠ 99 → q ≠ 102 → q ≠ 103 → S_107.1 q b = S.1 q b := fun q b n1 n2 n3 n4 => by
      have hm : inM [(102, 0), (103, 0)] q b = false := by simp [inM, Ne.symm n3, Ne.symm n4]
      rw [G_S_107 q b hm, f_S_104 q b (fun e => absurd e n2), f_S_94 q b (fun e => absurd e n1)]
    have k62 := ti_eq (g 63 62 (by decide) (by decide) (by decide) (by decide))
    have k63 := ti_eq (g 63 63 (by decide) (by decide) (by decide) (by decide))
    have k67 := ti_eq (g 63 67 (by decide) (by decide) (by decide) (by decide))
    have ec : (S_107.1 99 (x1).toNatClampNeg).toInt = (S.1 99 (x1).toNatClampNeg).toInt + 1 := by rw [G_S_107 99 _ rfl, v_S_104]; exact e991
    refine Sf.so ⟨I_S_107, Fr.tr F_S_104 G_S_107 rfl, TQ_S_107, L_S_107.trans (l_S_104.trans l_S_94), Or.inr ⟨by decide, ?_, fun _ => by omega, by omega⟩⟩
    refine MM_top (f := (x1).toNatClampNeg) h4 h0 k62 hb.2 (by omega) (fun j hj => ?_) ?_
    · refine PF_congr ?_ ?_ (g 100 j (by decide) (by decide) (by decide) (by decide)) (fun k hk2 => ?_)
      · rw [G_S_107 97 j rfl, f_S_104 97 j (fun e => absurd e (by decide)), f_S_94 97 j (fun _ e => hj e)]
      · rw [G_S_107 99 j rfl, f_S_104 99 j (fun _ e => hj e), f_S_94 99 j (fun e => absurd e (by decide))]
      · rw [AN_S_107 _ (by omega), f_S_104 103 _ (fun e => absurd e (by decide)), f_S_94 103 _ (fun e => absurd e (by decide))]
    · have n1 := cntZ_le (fun k => S_107.1 103 (300 * (x1).toNatClampNeg + k)) 300
      unfold PF
      split <;> split <;> omega
theorem knows_25 {fu : Nat} (hfu : 1000000000000000000 ≤ fu) {γ : Int32 → Int32} {S : St} (I_S : Inv S) (RK_S : RK S) (TQ_S : TQ S) (h4 : (S.1 63 63).toInt = 4) (h0 : (S.1 63 67).toInt = 0) {x1 t0 : Int32} (hx : (x1).toInt = (S.1 63 62).toInt - 1) (h1 : 1 ≤ (S.1 63 62).toInt) (hk : (t0).toInt < (S.1 63 50).toInt) (ht : 0 ≤ (t0).toInt → (S.1 92 ((t0).toNatClampNeg)).toInt = 5 ∧ 0 < (S.1 93 ((t0).toNatClampNeg)).toInt) : Sf (fX12_knows_25 fu x1 t0 S) (KQ γ S) := by
  unfold fX12_knows_25
  have hb := b_63_62 I_S
  have c1 := cl_iv (x := x1) (by omega)
  refine Sf.g (ck_iv (by omega) (by omega)) ?_
  refine Sf.g (ck_iv (by omega) (by omega)) ?_
  obtain ⟨r, er, pr⟩ := s_fX12_set fu hfu (S.1 97 (x1).toNatClampNeg) (S.1 98 (x1).toNatClampNeg) S I_S
  rw [bd_e er]
  refine Sf.i (fun c => ?_) (fun c => ?_)
  · refine Sf.i (fun c2 => ?_) (fun c2 => ?_)
    · have n1 := lt_iv rfl li_0 c2
      exact knows_76 hfu I_S RK_S TQ_S h4 h0 hx h1 hk ht (fun h => by omega)
    · refine Sf.g (ck_iv (by omega) (by omega)) ?_
      refine Sf.i (fun c3 => ?_) (fun c3 => ?_)
      · exact kn_end hfu I_S TQ_S h4 h0 (by decide) (fun h => absurd h (by decide))
      · have n1 := neq_iv rfl li_8 c3
        exact knows_76 hfu I_S RK_S TQ_S h4 h0 hx h1 hk ht (fun _ => n1)
  · have n1 := nlt_iv rfl li_0 c
    refine kn_end hfu I_S TQ_S h4 h0 (by decide) (fun _ hf => ?_)
    have z : (x1).toNatClampNeg = 0 := by omega
    rw [z] at er
    unfold setv
    rw [er]
    exact n1
theorem s_fX12_knows {fu : Nat} (hfu : 1000000000000000000 ≤ fu) {γ : Int32 → Int32} {S : St} (I_S : Inv S) (RK_S : RK S) (TQ_S : TQ S) (h4 : (S.1 63 63).toInt = 4) (h0 : (S.1 63 67).toInt = 0) {x1 : Int32} (hx : (x1).toInt = (S.1 63 62).toInt - 1) (h1 : 1 ≤ (S.1 63 62).toInt) : Sf (fX12_knows fu x1 S) (KQ γ S) := by
  unfold fX12_knows
  have hb := b_63_62 I_S
  have b50 := b_63_50 I_S
  refine Sf.g (ck_iv (by omega) (by omega)) ?_
  refine Sf.i (fun c => ?_) (fun c => ?_)
  · have z : ((-1 : Int32)).toInt = -1 := li_m1
    exact knows_25 hfu I_S RK_S TQ_S h4 h0 hx h1 (by omega) (fun h => by omega)
  · refine Sf.g (ck_iv (by omega) (by omega)) ?_
    refine Sf.bp (s_fX12_set fu hfu (S.1 97 (x1).toNatClampNeg) (5 : Int32) S I_S) (fun r p => ?_)
    obtain ⟨p1, p2, p3⟩ := p
    have z : ((5 : Int32)).toInt = 5 := li_5
    exact knows_25 hfu I_S RK_S TQ_S h4 h0 hx h1 p2 (fun h => ⟨by have := (p3 h).1; omega, (p3 h).2⟩)
