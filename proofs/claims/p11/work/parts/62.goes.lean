theorem sendsFor_2 {fu : Nat} (hfu : 1000000000000000000 ≤ fu) {γ : Int32 → Int32} (n : Nat) : ∀ (x1 x2 x3 : Int32) (S : St), Inv S → RK S → TQ S → (S.1 63 63).toInt = 4 → (S.1 63 67).toInt = 0 → (x1).toInt = (S.1 63 62).toInt - 1 → 1 ≤ (S.1 63 62).toInt → (x2).toInt < (S.1 63 50).toInt → (0 ≤ (x2).toInt → (S.1 92 ((x2).toNatClampNeg)).toInt = 2) → 0 ≤ (x3).toInt → (10 - (x3).toInt).toNat < n → Sf (fX12_sendsFor_2 fu n x1 x2 x3 S) (KQ γ S) := by
  induction n with
  | zero => intro x1 x2 x3 S _ _ _ _ _ _ _ _ _ _ hm; exact absurd hm (Nat.not_lt_zero _)
  | succ n ih =>
    intro x1 x2 x3 S I_S RK_S TQ_S h4 h0 hx h1 hk ht h3 hm
    rw [fX12_sendsFor_2_s]
    unfold fX12_sendsFor_96
    have hb := b_63_62 I_S
    have b50 := b_63_50 I_S
    have c1 := cl_iv (x := x1) (by omega)
    refine Sf.i (fun c => ?_) (fun c => ?_)
    · exact Sf.so ⟨I_S, Fr.refl _ _, TQ_S, rfl, Or.inl ⟨rfl, rfl⟩⟩
    · have h2 := nlt_iv rfl li_0 c
      have a93 := a_93 I_S (x2.toNatClampNeg)
      refine Sf.g (ck_iv (by omega) (by omega)) ?_
      refine Sf.i (fun c2 => ?_) (fun c2 => ?_)
      · exact Sf.so ⟨I_S, Fr.refl _ _, TQ_S, rfl, Or.inl ⟨rfl, rfl⟩⟩
      · have n3 := nle_iv rfl rfl c2
        have hr := RK_at RK_S I_S (x := x2) (y := x3) h2 hk (Or.inl (ht h2)) h3 n3
        have e10 : ((10 : Int32) * x2).toInt = 10 * (x2).toInt := mul_iv li_10 rfl (by omega) (by omega)
        have e10x : (((10 : Int32) * x2) + x3).toInt = 10 * (x2).toInt + (x3).toInt := add_iv e10 rfl (by omega) (by omega)
        have ex3 : (x3 + (1 : Int32)).toInt = (x3).toInt + 1 := add_iv rfl li_1 (by omega) (by omega)
        refine Sf.g (ck_iv (by omega) (by omega)) ?_
        generalize S.1 94 ((((10 : Int32) * x2) + x3)).toNatClampNeg = m at hr ⊢
        refine Sf.bp (s_fX12_set fu hfu m (1 : Int32) S I_S) (fun r p => ?_)
        refine Sf.i (fun c4 => ?_) (fun c4 => ?_)
        · exact ih x1 x2 (x3 + (1 : Int32)) S I_S RK_S TQ_S h4 h0 hx h1 hk ht (by omega) (by omega)
        · have e300 : ((300 : Int32) * x1).toInt = 300 * (x1).toInt := mul_iv li_300 rfl (by omega) (by omega)
          have e300m : (((300 : Int32) * x1) + m).toInt = 300 * (x1).toInt + (m).toInt := add_iv e300 rfl (by omega) (by omega)
          have c300 := cl_iv (x := ((300 : Int32) * x1) + m) (by omega)
          have cm := cl_iv (x := m) (by omega)
          have ix : (((300 : Int32) * x1) + m).toNatClampNeg = 300 * (x1).toNatClampNeg + (m).toNatClampNeg := by omega
          refine Sf.g (ck_iv (by omega) (by omega)) ?_
          refine Sf.i (fun c5 => ?_) (fun c5 => ?_)
          · refine Sf.i (fun c6 => ?_) (fun c6 => ?_)
            · exact kn_end hfu I_S TQ_S h4 h0 (by decide) (fun h => absurd h (by decide))
            · have n6 := neq_iv rfl li_4 c6
              refine Sf.g (ck_iv (by omega) (by omega)) ?_
              have F_S : Fr MK S S := Fr.refl _ _
              refine Sf.w I_S F_S rfl (show (0 : Int) ≤ _ from (vpb _).1) (show _ ≤ (1 : Int) from (vpb _).2) (fun S_86 I_S_86 F_S_86 v_S_86 f_S_86 l_S_86 => ?_)
              have k62 := ti_eq (f_S_86 63 62 (fun e => absurd e (by decide)))
              have TQ2 : TQ S_86 := TQ_fr TQ_S (f_S_86 63 62 (fun e => absurd e (by decide))) (f_S_86 63 65 (fun e => absurd e (by decide))) (fun b => f_S_86 102 b (fun e => absurd e (by decide)))
              refine Sf.b (s_fX12_opens fu hfu m (1 : Int32) S_86 I_S_86 TQ2 (by omega) (by omega) (by omega)) (fun U r2 p2 => ?_)
              obtain ⟨I_U, G_U, p62, TQ_U, L_U, OP_U⟩ := p2
              have k63 : U.1 63 63 = S.1 63 63 := (G_U 63 63 rfl).trans (f_S_86 63 63 (fun e => absurd e (by decide)))
              have k67 : U.1 63 67 = S.1 63 67 := (G_U 63 67 rfl).trans (f_S_86 63 67 (fun e => absurd e (by decide)))
              refine Sf.so ⟨I_U, Fr.tr F_S_86 G_U rfl, TQ_U, L_U.trans l_S_86, Or.inr ⟨by decide, ?_, fun _ => by omega, by rw [k67]; exact h0⟩⟩
              refine MM_push (f := (x1).toNatClampNeg) I_U h4 h0 (by omega) (by omega) (by omega) (fun j hj => ?_) ?_
              · obtain ⟨o1, o2, o3, o4⟩ := OP_U j (by omega)
                refine PF_congr ?_ ?_ ?_ (fun k hk2 => ?_)
                · rw [o1, f_S_86 97 j (fun e => absurd e (by decide))]
                · rw [o2, f_S_86 99 j (fun e => absurd e (by decide))]
                · rw [o3, f_S_86 100 j (fun e => absurd e (by decide))]
                · rw [o4 k hk2, f_S_86 103 _ (fun _ e => by omega)]
              · obtain ⟨o1, o2, o3, o4⟩ := OP_U (x1).toNatClampNeg (by omega)
                have q1 : U.1 97 (x1).toNatClampNeg = S.1 97 (x1).toNatClampNeg := by rw [o1, f_S_86 97 _ (fun e => absurd e (by decide))]
                have q2 : U.1 99 (x1).toNatClampNeg = S.1 99 (x1).toNatClampNeg := by rw [o2, f_S_86 99 _ (fun e => absurd e (by decide))]
                have q3 : U.1 100 (x1).toNatClampNeg = S.1 100 (x1).toNatClampNeg := by rw [o3, f_S_86 100 _ (fun e => absurd e (by decide))]
                have q4 := cntZ_mark (g := fun k => S.1 103 (300 * (x1).toNatClampNeg + k)) (g' := fun k => U.1 103 (300 * (x1).toNatClampNeg + k)) (i := (m).toNatClampNeg) (by show S.1 103 (300 * (x1).toNatClampNeg + (m).toNatClampNeg) = 0; rw [← ix]; exact c5) (by show ¬ U.1 103 (300 * (x1).toNatClampNeg + (m).toNatClampNeg) = 0; rw [o4 _ (by omega), ← ix, v_S_86]; decide) 300 (by omega) (fun k hk2 hne => by show U.1 103 (300 * (x1).toNatClampNeg + k) = S.1 103 (300 * (x1).toNatClampNeg + k); rw [o4 k hk2, f_S_86 103 _ (fun _ e => by omega)])
                unfold PF
                rw [q1, q2, q3]
                omega
          · exact ih x1 x2 (x3 + (1 : Int32)) S I_S RK_S TQ_S h4 h0 hx h1 hk ht (by omega) (by omega)
abbrev MG : List (Nat × Nat) := [(63, 63), (63, 64), (63, 65), (63, 66), (63, 67), (63, 68), (63, 69), (63, 70), (63, 72), (97, 0), (98, 0), (99, 0), (100, 0), (101, 0), (102, 0), (103, 0), (104, 0)]
/-- a QUERY that is out has a FRAME and a place -/
def RO (S : St) : Prop := (S.1 63 67).toInt = 1 → 1 ≤ (S.1 63 62).toInt ∧ 0 ≤ (S.1 100 (((S.1 63 62) - (1 : Int32))).toNatClampNeg).toInt
def GI (fu : Nat) (γ : Int32 → Int32) (S : St) : Prop := Inv S ∧ RK S ∧ TQ S ∧ ((S.1 63 63).toInt = 4 → 1 ≤ (S.1 63 62).toInt) ∧ RO S ∧ ∀ x : Int32, plc fu S fu x = γ x
def GQ (S U : St) (r : Int32) : Prop := Inv U ∧ Fr MG S U ∧ TQ U ∧ U.2 = S.2 ∧ RO U ∧ 0 ≤ r.toInt ∧ r.toInt ≤ 1
theorem AG_of {S U : St} (F : Fr MG S U) (L : U.2 = S.2) : AG S U := ⟨fun b => F 64 b rfl, fun b => F 91 b rfl, fun b => F 92 b rfl, fun b => F 93 b rfl, F 63 50 rfl, F 63 51 rfl, L⟩
theorem GI_of {fu : Nat} (hfu : 1000000000000000000 ≤ fu) {γ : Int32 → Int32} {S U : St} (h : GI fu γ S) (J : Inv U) (F : Fr MG S U) (T : TQ U) (L : U.2 = S.2) (h1 : (U.1 63 63).toInt = 4 → 1 ≤ (U.1 63 62).toInt) (h2 : RO U) : GI fu γ U := by
  obtain ⟨a, b, c, d, e, f⟩ := h
  exact ⟨J, RK_fr b (F 63 50 rfl) (fun q => F 92 q rfl) (fun q => F 93 q rfl) (fun q => F 94 q rfl), T, h1, h2, fun x => (plc_ag hfu a J (AG_of F L) fu x).trans (f x)⟩
theorem GQ_tr {S T : St} (F : Fr MG S T) (L : T.2 = S.2) : ∀ (U : St) (r : Int32), GQ T U r → GQ S U r := fun _ _ h => ⟨h.1, Fr.tr F h.2.1 rfl, h.2.2.1, h.2.2.2.1.trans L, h.2.2.2.2⟩
theorem goes90 {fu : Nat} (hfu : 1000000000000000000 ≤ fu) {γ : Int32 → Int32} {S : St} (h : GI fu γ S) (h4 : (S.1 63 63).toInt = 4) (h0 : (S.1 63 67).toInt = 0) {x1 x2 : Int32} (hx : x1 = (S.1 63 62) - (1 : Int32)) (hp : 0 ≤ (S.1 100 (x1).toNatClampNeg).toInt) {k : St → Option (St × Int32)} (hk : ∀ U : St, GI fu γ U → MM γ U < MM γ S → Sf (k U) (GQ U)) : Sf (fX12_goes_90 fu k x1 x2 S) (GQ S) := by
  have hS := h
  obtain ⟨I_S, RK_S, TQ_S, hf, hro, hg⟩ := h
  have h1 := hf h4
  have hb := b_63_62 I_S
  have ex1 : (x1).toInt = (S.1 63 62).toInt - 1 := by rw [hx]; exact sub_iv rfl li_1 (by omega) (by omega)
  unfold fX12_goes_90
  unfold fX12_goes_120
  refine Sf.bp (s_fX12_set fu hfu x2 (2 : Int32) S I_S) (fun r p => ?_)
  obtain ⟨p1, p2, p3⟩ := p
  have z2 : ((2 : Int32)).toInt = 2 := li_2
  have b50 := b_63_50 I_S
  refine Sf.b (s_fX12_tries fu hfu x1 r S I_S TQ_S (by omega) (by omega) (by omega) p1 p2) (fun S_100 r2 q => ?_)
  obtain ⟨J, G, ⟨q1, q2, q3⟩, T, L, E⟩ := q
  refine Sf.i (fun c => ?_) (fun c => ?_)
  · have e := E c
    subst e
    unfold fX12_sendsFor
    have z0 : ((0 : Int32)).toInt = 0 := li_0
    refine Sf.b (sendsFor_2 (γ := γ) hfu fu x1 r (0 : Int32) S_100 I_S RK_S TQ_S h4 h0 ex1 h1 p2 (fun h => by have := (p3 h).1; omega) (by omega) (by omega)) (fun S_109 r3 q => ?_)
    obtain ⟨J3, G3, T3, L3, K3⟩ := q
    refine Sf.i (fun c3 => ?_) (fun c3 => ?_)
    · rcases K3 with ⟨_, e⟩ | ⟨n, _⟩
      · subst e
        refine Sf.b (s_fX12_ends fu hfu (3 : Int32) S_109 I_S TQ_S (fun h => absurd h (by decide))) (fun U r4 q => ?_)
        obtain ⟨I_U, G_U, TQ_U, L_U, EN_U⟩ := q
        obtain ⟨m1, m2, m3⟩ := EN_lt (γ := γ) I_S h4 h0 G_U (by decide) EN_U
        have F : Fr MG S_109 U := Fr.tr (Fr.refl MG S_109) G_U rfl
        exact Sf.mono (hk U (GI_of hfu hS I_U F TQ_U L_U m2 (fun h => by omega)) m1) (GQ_tr F L_U)
      · exact absurd c3 n
    · rcases K3 with ⟨n, _⟩ | ⟨_, m1, m2, m3⟩
      · exact absurd n c3
      · have F : Fr MG S_100 S_109 := Fr.tr (Fr.refl MG S_100) G3 rfl
        exact Sf.mono (hk S_109 (GI_of hfu hS J3 F T3 L3 m2 (fun h => by omega)) m1) (GQ_tr F L3)
  · have n0 := neq_iv rfl li_0 c
    have F : Fr MG S S_100 := Fr.tr (Fr.refl MG S) G rfl
    have k62 : S_100.1 63 62 = S.1 63 62 := G 63 62 rfl
    have k62i := ti_eq k62
    have hs := q3 (by omega)
    have ro : RO S_100 := fun _ => ⟨by omega, by rw [k62, ← hx, G 100 _ rfl]; exact hp⟩
    refine Sf.mono (hk S_100 (GI_of hfu hS J F T L (fun _ => by omega) ro) (MM_stop h4 h0 (fun h => by omega))) (GQ_tr F L)
theorem goes5 {fu : Nat} (hfu : 1000000000000000000 ≤ fu) {γ : Int32 → Int32} (n : Nat) : ∀ S : St, GI fu γ S → MM γ S < n → Sf (fX12_goes_5 fu n S) (GQ S) := by
  induction n with
  | zero => intro S _ h; exact absurd h (Nat.not_lt_zero _)
  | succ n ih =>
    intro S h hm
    have hS := h
    obtain ⟨I_S, RK_S, TQ_S, hf, hro, hg⟩ := h
    have hb := b_63_62 I_S
    have z0 : ((0 : Int32)).toInt = 0 := li_0
    have z1 : ((1 : Int32)).toInt = 1 := li_1
    have fin : Sf (fX12_goes_123 fu S) (GQ S) := by
      unfold fX12_goes_123
      refine Sf.i (fun _ => ?_) (fun _ => ?_)
      · exact Sf.so ⟨I_S, Fr.refl _ _, TQ_S, rfl, hro, by omega, by omega⟩
      · exact Sf.so ⟨I_S, Fr.refl _ _, TQ_S, rfl, hro, by omega, by omega⟩
    rw [fX12_goes_5_s]
    refine Sf.i (fun c => ?_) (fun c => fin)
    refine Sf.i (fun c2 => ?_) (fun c2 => fin)
    have h4 := eq_iv rfl li_4 c
    have h0 := eq_iv rfl li_0 c2
    have h1 := hf h4
    have ex1 : ((S.1 63 62) - (1 : Int32)).toInt = (S.1 63 62).toInt - 1 := sub_iv rfl li_1 (by omega) (by omega)
    refine Sf.b (s_fX12_knows (γ := γ) hfu I_S RK_S TQ_S h4 h0 ex1 h1) (fun S_29 r q => ?_)
    obtain ⟨J, G, T, L, K⟩ := q
    refine Sf.i (fun c3 => ?_) (fun c3 => ?_)
    · rcases K with ⟨_, e⟩ | ⟨m, _⟩
      · subst e
        refine Sf.g (ck_iv (by omega) (by omega)) ?_
        have a97 := a_97 I_S (((S_29.1 63 62) - (1 : Int32))).toNatClampNeg
        rw [goes45 hfu _ _ I_S fu _ a97.1 a97.2 (by omega)]
        have pr := plc_rng (fu := fu) I_S fu (S_29.1 97 (((S_29.1 63 62) - (1 : Int32))).toNatClampNeg) a97.1 a97.2
        have pg := hg (S_29.1 97 (((S_29.1 63 62) - (1 : Int32))).toNatClampNeg)
        generalize plc fu S_29 fu (S_29.1 97 (((S_29.1 63 62) - (1 : Int32))).toNatClampNeg) = pl at pr pg ⊢
        unfold fX12_goes_68
        refine Sf.g (ck_iv (by omega) (by omega)) ?_
        refine Sf.i (fun c4 => ?_) (fun c4 => ?_)
        · exact goes90 hfu hS h4 h0 rfl (by rw [← c4]; exact pr.1) (fun U hU hl => ih U hU (by omega))
        · refine Sf.g (ck_iv (by omega) (by omega)) ?_
          have F0 : Fr MG S_29 S_29 := Fr.refl _ _
          refine Sf.w I_S F0 rfl (show (-1 : Int) ≤ pl.toInt by omega) (show pl.toInt ≤ (299 : Int) by omega) (fun S_84 I_S_84 F_S_84 v_S_84 f_S_84 l_S_84 => ?_)
          have k62 : S_84.1 63 62 = S_29.1 63 62 := f_S_84 63 62 (fun e => absurd e (by decide))
          have TQ2 : TQ S_84 := TQ_fr TQ_S k62 (f_S_84 63 65 (fun e => absurd e (by decide))) (fun b => f_S_84 102 b (fun e => absurd e (by decide)))
          refine Sf.b (s_fX12_anew fu hfu ((S_29.1 63 62) - (1 : Int32)) S_84 I_S_84 TQ2 (by omega) (by omega)) (fun S_87 r2 q => ?_)
          obtain ⟨I_87, G_87, -, T_87, L_87, AN_87⟩ := q
          have F : Fr MG S_29 S_87 := Fr.tr F_S_84 G_87 rfl
          have L2 : S_87.2 = S_29.2 := L_87.trans l_S_84
          have e62 : S_87.1 63 62 = S_29.1 63 62 := (G_87 63 62 rfl).trans k62
          have e63 : S_87.1 63 63 = S_29.1 63 63 := (G_87 63 63 rfl).trans (f_S_84 63 63 (fun e => absurd e (by decide)))
          have e67 : S_87.1 63 67 = S_29.1 63 67 := (G_87 63 67 rfl).trans (f_S_84 63 67 (fun e => absurd e (by decide)))
          have i62 := ti_eq e62
          have i63 := ti_eq e63
          have i67 := ti_eq e67
          have g87 : GI fu γ S_87 := GI_of hfu hS I_87 F T_87 L2 (fun _ => by omega) (fun h => by omega)
          have cx := cl_iv (x := (S_29.1 63 62) - (1 : Int32)) (by omega)
          have v100 : S_87.1 100 (((S_29.1 63 62) - (1 : Int32))).toNatClampNeg = pl := (G_87 100 _ rfl).trans v_S_84
          have e97 : ∀ j, S_87.1 97 j = S_29.1 97 j := fun j => (G_87 97 j rfl).trans (f_S_84 97 j (fun e => absurd e (by decide)))
          have e99 : ∀ j, S_87.1 99 j = S_29.1 99 j := fun j => (G_87 99 j rfl).trans (f_S_84 99 j (fun e => absurd e (by decide)))
          have hlt : MM γ S_87 < MM γ S_29 := by
            refine MM_top (f := (((S_29.1 63 62) - (1 : Int32))).toNatClampNeg) h4 h0 i62 hb.2 (by omega) (fun j hj => ?_) ?_
            · refine PF_congr (e97 j) (e99 j) ?_ (fun k hk2 => ?_)
              · rw [G_87 100 j rfl, f_S_84 100 j (fun _ e => hj e)]
              · rw [AN_87 _ (by omega), f_S_84 103 _ (fun e => absurd e (by decide))]
            · have n1 := cntZ_le (fun k => S_87.1 103 (300 * (((S_29.1 63 62) - (1 : Int32))).toNatClampNeg + k)) 300
              unfold PF
              rw [v100, e97, e99, if_pos pg, if_neg (fun e => c4 (by rw [e]; exact pg))]
              omega
          refine Sf.mono (goes90 hfu g87 (by omega) (by omega) (by rw [e62]) (by rw [v100]; exact pr.1) (fun U hU hl => ih U hU (by omega))) (GQ_tr F L2)
      · exact absurd c3 m
    · rcases K with ⟨m, _⟩ | ⟨_, m1, m2, m3⟩
      · exact absurd m c3
      · have F : Fr MG S S_29 := Fr.tr (Fr.refl MG S) G rfl
        exact Sf.mono (ih S_29 (GI_of hfu hS J F T L m2 (fun h => by omega)) (by omega)) (GQ_tr F L)
theorem goes_all {fu : Nat} (hfu : 1000000000000000000 ≤ fu) {S : St} (I_S : Inv S) (RK_S : RK S) (TQ_S : TQ S) (hf : (S.1 63 63).toInt = 4 → 1 ≤ (S.1 63 62).toInt) : Sf (fX12_goes fu S) (GQ S) := by
  unfold fX12_goes
  have F0 : Fr MG S S := Fr.refl _ _
  refine Sf.w I_S F0 rfl (show (0 : Int) ≤ ((0 : Int32)).toInt by rw [li_0]; omega) (show ((0 : Int32)).toInt ≤ (1 : Int) by rw [li_0]; omega) (fun S_2 I_S_2 F_S_2 v_S_2 f_S_2 l_S_2 => ?_)
  have v0 := eq_iv rfl li_0 v_S_2
  have e62 := ti_eq (f_S_2 63 62 (fun _ e => absurd e (by decide)))
  have e63 := ti_eq (f_S_2 63 63 (fun _ e => absurd e (by decide)))
  have T2 : TQ S_2 := TQ_fr TQ_S (f_S_2 63 62 (fun _ e => absurd e (by decide))) (f_S_2 63 65 (fun _ e => absurd e (by decide))) (fun b => f_S_2 102 b (fun e => absurd e (by decide)))
  have R2 : RK S_2 := RK_fr RK_S (f_S_2 63 50 (fun _ e => absurd e (by decide))) (fun b => f_S_2 92 b (fun e => absurd e (by decide))) (fun b => f_S_2 93 b (fun e => absurd e (by decide))) (fun b => f_S_2 94 b (fun e => absurd e (by decide)))
  have g2 : GI fu (fun x => plc fu S_2 fu x) S_2 := ⟨I_S_2, R2, T2, fun h => by have := hf (by omega); omega, fun h => by omega, fun _ => rfl⟩
  have hb := MM_big (γ := fun x => plc fu S_2 fu x) I_S_2
  exact Sf.mono (goes5 hfu fu S_2 g2 (by omega)) (GQ_tr F_S_2 l_S_2)
theorem RO_fr {S U : St} (h : RO S) (e1 : U.1 63 67 = S.1 63 67) (e2 : U.1 63 62 = S.1 63 62) (e3 : ∀ b, U.1 100 b = S.1 100 b) : RO U := by
  unfold RO
  rw [e1, e2, e3]
  exact h
theorem TQ_zero {S : St} (h : (S.1 63 62).toInt = 0) : TQ S := fun f hf => by omega
