theorem Fr.w1 {M : List (Nat × Nat)} {S T : St} {q k : Nat} {v : Int32} (h : Fr M S T) (hm : inM M q k = true) : Fr M S (wI q k v T) := by
  intro a b hn
  rw [rdI]
  by_cases e : a = q
  · subst e
    by_cases e2 : b = k
    · subst e2; rw [hm] at hn; exact Bool.noConfusion hn
    · rw [if_pos rfl, if_neg e2]; exact h a b hn
  · rw [if_neg e]; exact h a b hn
def hasC (S : St) (x : Int32) (j : Int) : Prop := ∃ b : Nat, j ≤ (b : Int) ∧ (b : Int) < (S.1 23 4).toInt ∧ S.1 24 b = x
def hasM (S : St) (x : Int32) (j : Int) : Prop := ∃ b : Nat, j ≤ (b : Int) ∧ (b : Int) < (S.1 63 23).toInt ∧ S.1 79 b = x
theorem of_c (fu : Nat) : ∀ (n : Nat) (x1 x2 : Int32) (S : St), Inv S → 0 ≤ x2.toInt → (12 - x2.toInt).toNat < n → Sp (fX7_ofAddress_2 fu n x1 x2 S) S (fun r => r.toInt = -1 ∧ ¬ hasC S x1 x2.toInt ∨ 0 ≤ r.toInt ∧ hasC S x1 x2.toInt) := by
  intro n
  induction n with
  | zero => intro x1 x2 S _ _ h; exact absurd h (Nat.not_lt_zero _)
  | succ n ih =>
    intro x1 x2 S I h0 hm
    rw [fX7_ofAddress_2_s]
    have b := b_23_4 I
    have hc := cl_iv h0
    refine Sp.i (fun c => ?_) (fun c => ?_)
    · have c' := le_iv rfl rfl c
      exact Sp.so (Or.inl ⟨by decide, fun ⟨b, k1, k2, _⟩ => by omega⟩)
    · have c' := nle_iv rfl rfl c
      refine Sp.g (ck_iv h0 (by omega)) ?_
      refine Sp.i (fun d => ?_) (fun d => ?_)
      · exact Sp.so (Or.inr ⟨h0, x2.toNatClampNeg, by omega, by omega, d⟩)
      · have ea : (x2 + (1 : Int32)).toInt = x2.toInt + 1 := add_iv rfl li_1 (by omega) (by omega)
        refine Sp.mono (ih x1 (x2 + 1) S I (by rw [ea]; omega) (by rw [ea]; omega)) (fun r h => ?_)
        rw [ea] at h
        rcases h with ⟨h1, h2⟩ | ⟨h1, b, h2, h3, h4⟩
        · refine Or.inl ⟨h1, fun ⟨b, k1, k2, k3⟩ => ?_⟩
          by_cases e : (b : Int) = x2.toInt
          · have e2 : b = x2.toNatClampNeg := by omega
            exact d (by rw [← e2]; exact k3)
          · exact h2 ⟨b, by omega, k2, k3⟩
        · exact Or.inr ⟨h1, b, by omega, h3, h4⟩
theorem of_m (fu : Nat) : ∀ (n : Nat) (x1 x2 x3 : Int32) (S : St), Inv S → 0 ≤ x3.toInt → (12 - x3.toInt).toNat < n → Sp (fX12_serverOf_4 fu n x1 x2 x3 S) S (fun r => r = x2 ∧ ¬ hasM S x1 x3.toInt ∨ 0 ≤ r.toInt ∧ hasM S x1 x3.toInt) := by
  intro n
  induction n with
  | zero => intro x1 x2 x3 S _ _ h; exact absurd h (Nat.not_lt_zero _)
  | succ n ih =>
    intro x1 x2 x3 S I h0 hm
    rw [fX12_serverOf_4_s]
    have b := b_63_23 I
    have hc := cl_iv h0
    refine Sp.i (fun c => ?_) (fun c => ?_)
    · have c' := le_iv rfl rfl c
      exact Sp.so (Or.inl ⟨rfl, fun ⟨b, k1, k2, _⟩ => by omega⟩)
    · have c' := nle_iv rfl rfl c
      refine Sp.g (ck_iv h0 (by omega)) ?_
      have ea : (x3 + (1 : Int32)).toInt = x3.toInt + 1 := add_iv rfl li_1 (by omega) (by omega)
      refine Sp.i (fun d => ?_) (fun d => ?_)
      · unfold fX12_serverOf_24
        refine Sp.mono (ih x1 x3 (x3 + 1) S I (by rw [ea]; omega) (by rw [ea]; omega)) (fun r h => ?_)
        refine Or.inr ⟨?_, x3.toNatClampNeg, by omega, by omega, d⟩
        rcases h with ⟨h1, _⟩ | ⟨h1, _⟩
        · rw [h1]; exact h0
        · exact h1
      · unfold fX12_serverOf_24
        refine Sp.mono (ih x1 x2 (x3 + 1) S I (by rw [ea]; omega) (by rw [ea]; omega)) (fun r h => ?_)
        rw [ea] at h
        rcases h with ⟨h1, h2⟩ | ⟨h1, b, h2, h3, h4⟩
        · refine Or.inl ⟨h1, fun ⟨b, k1, k2, k3⟩ => ?_⟩
          by_cases e : (b : Int) = x3.toInt
          · have e2 : b = x3.toNatClampNeg := by omega
            exact d (by rw [← e2]; exact k3)
          · exact h2 ⟨b, by omega, k2, k3⟩
        · exact Or.inr ⟨h1, b, by omega, h3, h4⟩
theorem ad_su {x : Int32} (h0 : 0 ≤ x.toInt) (h1 : x.toInt ≤ 12) : (x + 1) - 1 = x := by
  have ea : (x + (1 : Int32)).toInt = x.toInt + 1 := add_iv rfl li_1 (by omega) (by omega)
  have eb : ((x + (1 : Int32)) - 1).toInt = (x.toInt + 1) - 1 := sub_iv ea li_1 (by omega) (by omega)
  exact Int32.toInt_inj.mp (by rw [eb]; omega)
theorem server_c (fu : Nat) (hfu : 1000000000000000000 ≤ fu) (x1 : Int32) (S : St) (I_S : Inv S) : Sf (fL_server fu x1 S) (fun U r => Inv U ∧ Fr [(23, 5), (24, 0), (25, 0)] S U ∧ (r = 1 ∧ hasC S x1 0 ∧ U.1 = S.1 ∨ r = 2 ∧ ¬ hasC S x1 0 ∧ (S.1 23 4).toInt = 12 ∧ U.1 = S.1 ∨ r = 0 ∧ ¬ hasC S x1 0 ∧ (S.1 23 4).toInt < 12 ∧ U.1 23 4 = S.1 23 4 + 1 ∧ U.2 106 0 = (S.1 23 4).toInt64 ∧ ∀ b : Nat, U.1 24 b = if b = (S.1 23 4).toNatClampNeg then x1 else S.1 24 b)) := by
  have b := b_23_4 I_S
  unfold fL_server fX11_server fX7_ofAddress
  obtain ⟨r, e, h⟩ := of_c fu fu x1 0 S I_S (by decide) (by rw [li_0]; omega)
  rw [li_0] at h
  rw [e, bdS]
  by_cases c : r = (-1 : Int32)
  · have hn : ¬ hasC S x1 0 := by
      rcases h with ⟨_, h⟩ | ⟨h, _⟩
      · exact h
      · subst c; exact absurd h (by decide)
    rw [if_pos c]
    unfold fX7_size
    rw [bdS]
    by_cases d : S.1 23 4 < (12 : Int32)
    · have d' := lt_iv rfl li_12 d
      have ck1 : ck (S.1 23 4) 12 = true := ck_iv (by omega) (by omega)
      have ea : (S.1 23 4 + (1 : Int32)).toInt = (S.1 23 4).toInt + 1 := add_iv rfl li_1 (by omega) (by omega)
      rw [if_pos d]
      unfold fX7_open
      rw [if_pos d, gd_t ck1, sI_e, gd_t (show ck ((wI 24 (S.1 23 4).toNatClampNeg x1 S).1 23 4) 12 = true from ck1)]
      refine ⟨wJ 106 0 (S.1 23 4).toInt64 (wI 23 4 (S.1 23 4 + 1) (wI 25 (S.1 23 4).toNatClampNeg 0 (wI 24 (S.1 23 4).toNatClampNeg x1 S))), 0, ?_, ?_, ?_, Or.inr (Or.inr ⟨rfl, hn, d', rfl, rfl, fun b => ?_⟩)⟩
      · show some (wJ 106 0 ((S.1 23 4 + 1) - 1).toInt64 (wI 23 4 (S.1 23 4 + 1) (wI 25 (S.1 23 4).toNatClampNeg 0 (wI 24 (S.1 23 4).toNatClampNeg x1 S))), (0 : Int32)) = _
        rw [ad_su b.1 b.2]
      · have I1 : Inv (wI 24 (S.1 23 4).toNatClampNeg x1 S) := inv_w I_S (i32 _).1 (i32 _).2
        have I2 : Inv (wI 25 (S.1 23 4).toNatClampNeg 0 (wI 24 (S.1 23 4).toNatClampNeg x1 S)) := inv_w I1 (i32 _).1 (i32 _).2
        exact inv_w I2 (show (0 : Int) ≤ _ by rw [ea]; omega) (show _ ≤ (12 : Int) by rw [ea]; omega)
      · exact Fr.w1 (Fr.w1 (Fr.w1 (Fr.refl _ _) rfl) rfl) rfl
      · rfl
    · have d' := nlt_iv rfl li_12 d
      rw [if_neg d]
      exact ⟨S, 2, rfl, I_S, Fr.refl _ _, Or.inr (Or.inl ⟨rfl, hn, by omega, rfl⟩)⟩
  · have hy : hasC S x1 0 := by
      rcases h with ⟨h, _⟩ | ⟨_, h⟩
      · exact absurd (Int32.toInt_inj.mp (h.trans (by decide))) c
      · exact h
    rw [if_neg c]
    exact ⟨S, 1, rfl, I_S, Fr.refl _ _, Or.inl ⟨rfl, hy, rfl⟩⟩
theorem server_m (fu : Nat) (hfu : 1000000000000000000 ≤ fu) (x1 : Int32) (S : St) (I_S : Inv S) : Sf (fX12_server fu x1 S) (fun U r => Inv U ∧ Fr [(63, 1), (63, 24), (79, 0)] S U ∧ U.2 = S.2 ∧ (U.1 63 0 = 1 ∧ hasM S x1 0 ∧ U.1 63 23 = S.1 63 23 ∧ U.1 79 = S.1 79 ∨ U.1 63 0 = 2 ∧ ¬ hasM S x1 0 ∧ (S.1 63 23).toInt = 12 ∧ U.1 63 23 = S.1 63 23 ∧ U.1 79 = S.1 79 ∨ U.1 63 0 = 0 ∧ ¬ hasM S x1 0 ∧ (S.1 63 23).toInt < 12 ∧ U.1 63 23 = S.1 63 23 + 1 ∧ r = S.1 63 23 ∧ ∀ b : Nat, U.1 79 b = if b = (S.1 63 23).toNatClampNeg then x1 else S.1 79 b)) := by
  have b := b_63_23 I_S
  have I0 : Inv (wI 63 0 0 S) := inv_w I_S (i32 _).1 (i32 _).2
  have F0' : Fr [(63, 1), (63, 24), (79, 0)] S (wI 63 0 0 S) := Fr.w1 (Fr.refl _ _) rfl
  unfold fX12_server fX12_serverOf
  rw [sI_e]
  obtain ⟨r, e, h⟩ := of_m fu fu x1 (-1) 0 (wI 63 0 0 S) I0 (by decide) (by rw [li_0]; omega)
  rw [li_0] at h
  rw [e, bdS]
  have hm : hasM (wI 63 0 0 S) x1 0 = hasM S x1 0 := rfl
  rw [hm] at h
  by_cases c : r < 0
  · have hn : ¬ hasM S x1 0 := by
      rcases h with ⟨_, h⟩ | ⟨h, _⟩
      · exact h
      · have c' := lt_iv rfl li_0 c
        exact absurd c' (by omega)
    rw [if_pos c]
    by_cases d : S.1 63 23 = (12 : Int32)
    · have d' := eq_iv rfl li_12 d
      have hh : fX12_server_19 fu x1 0 (wI 63 0 0 S) = fX12_server_41 fu x1 1 (wI 63 0 0 S) := by
        show (if S.1 63 23 = (12 : Int32) then fX12_server_41 fu x1 1 (wI 63 0 0 S) else fX12_server_41 fu x1 0 (wI 63 0 0 S)) = _
        rw [if_pos d]
      rw [hh]
      exact ⟨wI 63 0 2 (wI 63 0 0 S), 0, rfl, inv_w I0 (i32 _).1 (i32 _).2, Fr.w1 F0' rfl, rfl, Or.inr (Or.inl ⟨rfl, hn, d', rfl, rfl⟩)⟩
    · have d' := neq_iv rfl li_12 d
      have ck1 : ck (S.1 63 23) 12 = true := ck_iv (by omega) (by omega)
      have ea : (S.1 63 23 + (1 : Int32)).toInt = (S.1 63 23).toInt + 1 := add_iv rfl li_1 (by omega) (by omega)
      have hh : fX12_server_19 fu x1 0 (wI 63 0 0 S) = fX12_server_41 fu x1 0 (wI 63 0 0 S) := by
        show (if S.1 63 23 = (12 : Int32) then fX12_server_41 fu x1 1 (wI 63 0 0 S) else fX12_server_41 fu x1 0 (wI 63 0 0 S)) = _
        rw [if_neg d]
      have hg : fX12_server_41 fu x1 0 (wI 63 0 0 S) = gd (ck (S.1 63 23) 12) (some (wI 63 23 (S.1 63 23 + 1) (wI 79 (S.1 63 23).toNatClampNeg x1 (wI 63 0 0 S)), (S.1 63 23 + 1) - 1)) := rfl
      rw [hh, hg, gd_t ck1, ad_su b.1 b.2]
      refine ⟨_, _, rfl, ?_, ?_, rfl, Or.inr (Or.inr ⟨rfl, hn, by omega, rfl, rfl, fun b => rfl⟩)⟩
      · have I1 : Inv (wI 79 (S.1 63 23).toNatClampNeg x1 (wI 63 0 0 S)) := inv_w I0 (i32 _).1 (i32 _).2
        exact inv_w I1 (show (0 : Int) ≤ _ by rw [ea]; omega) (show _ ≤ (12 : Int) by rw [ea]; omega)
      · exact Fr.w1 (Fr.w1 F0' rfl) rfl
  · have hy : hasM S x1 0 := by
      rcases h with ⟨h, _⟩ | ⟨_, h⟩
      · subst h; exact absurd (show (-1 : Int32) < 0 by decide) c
      · exact h
    rw [if_neg c]
    exact ⟨wI 63 0 1 (wI 63 0 0 S), 0, rfl, inv_w I0 (i32 _).1 (i32 _).2, Fr.w1 F0' rfl, rfl, Or.inl ⟨rfl, hy, rfl, rfl⟩⟩
theorem has_eq {S T : St} {x : Int32} (e1 : S.1 23 4 = T.1 63 23) (e2 : ∀ b : Nat, (b : Int) < (T.1 63 23).toInt → S.1 24 b = T.1 79 b) : hasC S x 0 ↔ hasM T x 0 := by
  constructor
  · rintro ⟨b, h1, h2, h3⟩
    rw [e1] at h2
    exact ⟨b, h1, h2, by rw [← e2 b h2]; exact h3⟩
  · rintro ⟨b, h1, h2, h3⟩
    exact ⟨b, h1, by rw [e1]; exact h2, by rw [e2 b h2]; exact h3⟩
theorem s_fc_9 (fu : Nat) (hfu : 1000000000000000000 ≤ fu) (a1 a2 a3 a4 a5 : Int32) (S : St) (I_S : Inv S) (RD_S : RD S) (RK_S : RK S) (TQ_S : TQ S) (RO_S : RO S) (EE_S : EE S) : Sf (fc_9 fu a1 a2 a3 a4 a5 S) (fun U r => Inv U ∧ Fr [(23, 5), (24, 0), (25, 0), (63, 1), (63, 24), (79, 0)] S U ∧ ((r.toInt = 1)) ∧ RD U ∧ RK U ∧ TQ U ∧ RO U ∧ EE U) := by
  unfold fc_9
  refine Sf.b (server_c fu hfu a1 S I_S) (fun T k h => ?_)
  obtain ⟨I1, F1, h⟩ := h
  refine Sf.b (server_m fu hfu a1 T I1) (fun U r g => ?_)
  obtain ⟨I2, F2, l2, g⟩ := g
  have RD_U := RD_fr (U := U) (RD_fr (U := T) RD_S (F1 63 20 rfl) (fun b => F1 76 b rfl) (fun b => F1 77 b rfl)) (F2 63 20 rfl) (fun b => F2 76 b rfl) (fun b => F2 77 b rfl)
  have RK_U := RK_fr (U := U) (RK_fr (U := T) RK_S (F1 63 50 rfl) (fun b => F1 92 b rfl) (fun b => F1 93 b rfl) (fun b => F1 94 b rfl)) (F2 63 50 rfl) (fun b => F2 92 b rfl) (fun b => F2 93 b rfl) (fun b => F2 94 b rfl)
  have TQ_U := TQ_fr (U := U) (TQ_fr (U := T) TQ_S (F1 63 62 rfl) (F1 63 65 rfl) (fun b => F1 102 b rfl)) (F2 63 62 rfl) (F2 63 65 rfl) (fun b => F2 102 b rfl)
  have RO_U := RO_fr (U := U) (RO_fr (U := T) RO_S (F1 63 67 rfl) (F1 63 62 rfl) (fun b => F1 100 b rfl)) (F2 63 67 rfl) (F2 63 62 rfl) (fun b => F2 100 b rfl)
  have F3 : Fr [(23, 5), (24, 0), (25, 0), (63, 1), (63, 24), (79, 0)] S U := Fr.tr (Fr.tr (Fr.refl _ S) F1 rfl) F2 rfl
  have m1 : T.1 63 23 = S.1 63 23 := F1 63 23 rfl
  have m3 : ∀ b, T.1 79 b = S.1 79 b := fun b => F1 79 b rfl
  have m2 : U.1 23 4 = T.1 23 4 := F2 23 4 rfl
  have m4 : ∀ b, U.1 24 b = T.1 24 b := fun b => F2 24 b rfl
  obtain ⟨E, E2⟩ : S.1 23 4 = S.1 63 23 ∧ ∀ b : Nat, (b : Int) < (S.1 63 23).toInt → S.1 24 b = S.1 79 b := EE_S
  have hq : hasC S a1 0 ↔ hasM T a1 0 := has_eq (by rw [m1]; exact E) (fun b hb => by rw [m1] at hb; rw [m3]; exact E2 b hb)
  have L1 : ((1 : Int32)).toInt = 1 := li_1
  rw [m1, ← E] at g
  refine Sf.b (⟨U, U.1 63 0, rfl, rfl, rfl⟩ : Sf (fX12_thrown fu U) (fun V q => V = U ∧ q = U.1 63 0)) (fun V q e => ?_)
  obtain ⟨e1, e2⟩ := e
  subst e1
  subst e2
  rcases h with ⟨hk, hh, hu⟩ | ⟨hk, hh, hc, hu⟩ | ⟨hk, hh, hc, hv, hj, hw⟩
  · rcases g with ⟨gz, gh, gc, gw⟩ | ⟨gz, gh, _⟩ | ⟨gz, gh, _⟩
    · have EE_U : EE V := ⟨by rw [m2, hu, gc], fun b hb => by rw [gc, E] at hb; rw [m4, hu, gw, m3]; exact E2 b hb⟩
      subst hk
      refine Sf.it gz ?_
      refine Sf.ie (by decide) ?_
      exact Sf.so ⟨I2, F3, L1, RD_U, RK_U, TQ_U, RO_U, EE_U⟩
    · exact absurd (hq.mp hh) gh
    · exact absurd (hq.mp hh) gh
  · rcases g with ⟨gz, gh, _, _⟩ | ⟨gz, gh, _, gc, gw⟩ | ⟨gz, gh, gc, _⟩
    · exact absurd (hq.mpr gh) hh
    · have EE_U : EE V := ⟨by rw [m2, hu, gc], fun b hb => by rw [gc, E] at hb; rw [m4, hu, gw, m3]; exact E2 b hb⟩
      subst hk
      refine Sf.it gz ?_
      refine Sf.ie (by decide) ?_
      exact Sf.so ⟨I2, F3, L1, RD_U, RK_U, TQ_U, RO_U, EE_U⟩
    · exfalso; omega
  · rcases g with ⟨gz, gh, _, _⟩ | ⟨gz, gh, gc, _⟩ | ⟨gz, gh, _, gc, gr, gw⟩
    · exact absurd (hq.mpr gh) hh
    · exfalso; omega
    · have EE_U : EE V := by
        refine ⟨by rw [m2, hv, gc], fun b hb => ?_⟩
        have bb := b_23_4 I_S
        have ea : (S.1 23 4 + (1 : Int32)).toInt = (S.1 23 4).toInt + 1 := add_iv rfl li_1 (by omega) (by omega)
        have hcl := cl_iv bb.1
        rw [gc, ea] at hb
        rw [m4, hw, gw]
        by_cases e : b = (S.1 23 4).toNatClampNeg
        · rw [if_pos e, if_pos e]
        · rw [if_neg e, if_neg e, m3]
          exact E2 b (by rw [← E]; omega)
      subst hk
      refine Sf.it gz ?_
      refine Sf.it rfl ?_
      refine Sf.g (by decide) ?_
      refine Sf.it ?_ ?_
      · have e3 : V.2 106 ((0 : Int32)).toNatClampNeg = r.toInt64 := by
          show V.2 106 0 = r.toInt64
          rw [l2, hj, gr]
        rw [e3]; exact lg_self _
      · exact Sf.so ⟨I2, F3, L1, RD_U, RK_U, TQ_U, RO_U, EE_U⟩
