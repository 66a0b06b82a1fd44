/-! ===== the seeking ends: a measure ===== -/
def cntZ (g : Nat → Int32) : Nat → Nat
  | 0 => 0
  | k + 1 => cntZ g k + (if g k = 0 then 1 else 0)
theorem cntZ_le (g : Nat → Int32) (n : Nat) : cntZ g n ≤ n := by
  induction n with
  | zero => exact Nat.le_refl 0
  | succ k ih =>
    show cntZ g k + (if g k = 0 then 1 else 0) ≤ k + 1
    split <;> omega
theorem cntZ_congr {g g' : Nat → Int32} (n : Nat) (h : ∀ k, k < n → g' k = g k) : cntZ g' n = cntZ g n := by
  induction n with
  | zero => rfl
  | succ k ih =>
    show cntZ g' k + (if g' k = 0 then 1 else 0) = cntZ g k + (if g k = 0 then 1 else 0)
    rw [ih (fun j hj => h j (by omega)), h k (by omega)]
theorem cntZ_mark {g g' : Nat → Int32} {i : Nat} (h0 : g i = 0) (h1 : ¬ g' i = 0) (n : Nat) (hi : i < n) (h : ∀ k, k < n → k ≠ i → g' k = g k) : cntZ g' n + 1 = cntZ g n := by
  induction n with
  | zero => exact absurd hi (Nat.not_lt_zero _)
  | succ k ih =>
    show cntZ g' k + (if g' k = 0 then 1 else 0) + 1 = cntZ g k + (if g k = 0 then 1 else 0)
    by_cases e : k = i
    · subst e
      rw [if_neg h1, if_pos h0, cntZ_congr k (fun j hj => h j (by omega) (by omega))]
    · have h2 := ih (by omega) (fun j hj hn => h j (by omega) hn)
      rw [h k (by omega) e]
      omega
/-- where two states agree in what the cache is asked for -/
def AG (S U : St) : Prop := (∀ b, U.1 64 b = S.1 64 b) ∧ (∀ b, U.1 91 b = S.1 91 b) ∧ (∀ b, U.1 92 b = S.1 92 b) ∧ (∀ b, U.1 93 b = S.1 93 b) ∧ U.1 63 50 = S.1 63 50 ∧ U.1 63 51 = S.1 63 51 ∧ U.2 = S.2
theorem AG.tr {S T U : St} (h : AG S T) (k : AG T U) : AG S U := ⟨fun b => (k.1 b).trans (h.1 b), fun b => (k.2.1 b).trans (h.2.1 b), fun b => (k.2.2.1 b).trans (h.2.2.1 b), fun b => (k.2.2.2.1 b).trans (h.2.2.2.1 b), k.2.2.2.2.1.trans h.2.2.2.2.1, k.2.2.2.2.2.1.trans h.2.2.2.2.2.1, k.2.2.2.2.2.2.trans h.2.2.2.2.2.2⟩
theorem AG.refl (S : St) : AG S S := ⟨fun _ => rfl, fun _ => rfl, fun _ => rfl, fun _ => rfl, rfl, rfl, rfl⟩
theorem find_ag {fu : Nat} {S U : St} (h : AG S U) (x1 x2 : Int32) (n : Nat) : ∀ (x3 x4 : Int32), (fX12_find_5 fu n x1 x2 x3 x4 U).map Prod.snd = (fX12_find_5 fu n x1 x2 x3 x4 S).map Prod.snd := by
  obtain ⟨h64, h91, h92, h93, h50, h51, hL⟩ := h
  induction n with
  | zero => intro x3 x4; rfl
  | succ n ih =>
    intro x3 x4
    rw [fX12_find_5_s, fX12_find_5_s, h50, h91, h92, h51, hL]
    unfold fX12_find_55
    by_cases c1 : S.1 63 50 ≤ x4
    · rw [if_pos c1, if_pos c1]; rfl
    · rw [if_neg c1, if_neg c1]
      by_cases c2 : ck x4 100 = true
      · simp only [gd_t c2]
        split
        · split
          · split
            · exact ih _ _
            · exact ih _ _
          · exact ih _ _
        · exact ih _ _
      · simp [gd, c2]
noncomputable def setv (fu : Nat) (S : St) (x t : Int32) : Int32 := match fX12_set fu x t S with
  | some y => y.2
  | none => 0
theorem setv_ag {fu : Nat} (hfu : 1000000000000000000 ≤ fu) {S U : St} (I : Inv S) (J : Inv U) (h : AG S U) (x t : Int32) : setv fu U x t = setv fu S x t := by
  obtain ⟨r, e, -⟩ := s_fX12_find fu hfu x t S I
  obtain ⟨r', e', -⟩ := s_fX12_find fu hfu x t U J
  have q : r' = r := by
    have q := find_ag (fu := fu) h x t fu (-1) 0
    have e2 : fX12_find_5 fu fu x t (-1) 0 S = some (S, r) := e
    have e3 : fX12_find_5 fu fu x t (-1) 0 U = some (U, r') := e'
    rw [e2, e3] at q
    exact Option.some.inj q
  unfold setv fX12_set
  rw [bd_e e, bd_e e', q]
  by_cases c1 : r < 0
  · rw [if_pos c1, if_pos c1]
  · rw [if_neg c1, if_neg c1]
    by_cases c2 : ck r 100 = true
    · rw [gd_t c2, gd_t c2, h.2.2.2.1]
      by_cases c3 : S.1 93 (r).toNatClampNeg ≤ 0
      · rw [if_pos c3, if_pos c3]
      · rw [if_neg c3, if_neg c3]
    · simp [gd, c2]
noncomputable def plc (fu : Nat) (S : St) : Nat → Int32 → Int32
  | 0, x => x
  | n + 1, x => if x ≤ 0 then x else if 0 ≤ setv fu S x 2 then x else plc fu S n (S.1 64 (x).toNatClampNeg)
theorem plc_ag {fu : Nat} (hfu : 1000000000000000000 ≤ fu) {S U : St} (I : Inv S) (J : Inv U) (h : AG S U) (n : Nat) : ∀ x : Int32, plc fu U n x = plc fu S n x := by
  induction n with
  | zero => intro x; rfl
  | succ n ih =>
    intro x
    show (if x ≤ 0 then x else if 0 ≤ setv fu U x 2 then x else plc fu U n (U.1 64 (x).toNatClampNeg)) = (if x ≤ 0 then x else if 0 ≤ setv fu S x 2 then x else plc fu S n (S.1 64 (x).toNatClampNeg))
    rw [setv_ag hfu I J h x 2, ih, h.1]
theorem plc_rng {fu : Nat} {S : St} (I : Inv S) (n : Nat) : ∀ x : Int32, 0 ≤ x.toInt → x.toInt ≤ 299 → 0 ≤ (plc fu S n x).toInt ∧ (plc fu S n x).toInt ≤ 299 := by
  induction n with
  | zero => intro x h0 h1; exact ⟨h0, h1⟩
  | succ n ih =>
    intro x h0 h1
    show 0 ≤ (if x ≤ 0 then x else if 0 ≤ setv fu S x 2 then x else plc fu S n (S.1 64 (x).toNatClampNeg)).toInt ∧ (if x ≤ 0 then x else if 0 ≤ setv fu S x 2 then x else plc fu S n (S.1 64 (x).toNatClampNeg)).toInt ≤ 299
    by_cases c1 : x ≤ 0
    · rw [if_pos c1]; exact ⟨h0, h1⟩
    · rw [if_neg c1]
      by_cases c2 : 0 ≤ setv fu S x 2
      · rw [if_pos c2]; exact ⟨h0, h1⟩
      · rw [if_neg c2]
        have h2 := a_64 I (x.toNatClampNeg)
        have h3 := cl_iv h0
        exact ih _ (by omega) (by omega)
theorem goes45 {fu : Nat} (hfu : 1000000000000000000 ≤ fu) (k : St → Option (St × Int32)) (x1 : Int32) {S : St} (I : Inv S) (n : Nat) : ∀ x2 : Int32, 0 ≤ x2.toInt → x2.toInt ≤ 299 → x2.toInt.toNat < n → fX12_goes_45 fu k n x1 x2 S = fX12_goes_68 fu k x1 (plc fu S n x2) S := by
  induction n with
  | zero => intro x2 _ _ h; exact absurd h (Nat.not_lt_zero _)
  | succ n ih =>
    intro x2 h0 h1 hm
    rw [fX12_goes_45_s]
    have hp : plc fu S (n + 1) x2 = (if x2 ≤ 0 then x2 else if 0 ≤ setv fu S x2 2 then x2 else plc fu S n (S.1 64 (x2).toNatClampNeg)) := rfl
    rw [hp]
    by_cases c1 : x2 ≤ 0
    · rw [if_pos c1, if_pos c1]
    · rw [if_neg c1, if_neg c1]
      obtain ⟨r, e, -⟩ := s_fX12_set fu hfu x2 2 S I
      have hs : setv fu S x2 2 = r := by unfold setv; rw [e]
      rw [bd_e e, hs]
      by_cases c2 : 0 ≤ r
      · rw [if_pos c2, if_pos c2]
      · rw [if_neg c2, if_neg c2, gd_t (ck_iv h0 (by omega))]
        have h2 := a_64 I (x2.toNatClampNeg)
        have h3 := cl_iv h0
        have c3 := nle_iv rfl li_0 c1
        exact ih _ (by omega) (by omega) (by omega)
/-- what a FRAME may still do -/
noncomputable def PF (γ : Int32 → Int32) (S : St) (f : Nat) : Nat := 1 + 1000 * (8 - (S.1 99 f).toInt).toNat + (if S.1 100 f = γ (S.1 97 f) then 0 else 400) + cntZ (fun k => S.1 103 (300 * f + k)) 300
theorem PF_pos (γ : Int32 → Int32) (S : St) (f : Nat) : 1 ≤ PF γ S f := by unfold PF; omega
theorem PF_le {γ : Int32 → Int32} {S : St} (I : Inv S) (f : Nat) : PF γ S f ≤ 9000 := by
  unfold PF
  have h1 := a_99 I f
  have h2 := cntZ_le (fun k => S.1 103 (300 * f + k)) 300
  split <;> omega
theorem PF_congr {γ : Int32 → Int32} {S U : St} {f : Nat} (h1 : U.1 97 f = S.1 97 f) (h2 : U.1 99 f = S.1 99 f) (h3 : U.1 100 f = S.1 100 f) (h4 : ∀ k, k < 300 → U.1 103 (300 * f + k) = S.1 103 (300 * f + k)) : PF γ U f = PF γ S f := by
  unfold PF
  rw [h1, h2, h3, cntZ_congr (g' := fun k => U.1 103 (300 * f + k)) (g := fun k => S.1 103 (300 * f + k)) 300 h4]
def mm (fr : Int) (p0 p1 p2 p3 : Nat) : Nat := (if 0 < fr then 1000000000000 * p0 else 0) + (if 1 < fr then 100000000 * p1 else 0) + (if 2 < fr then 10000 * p2 else 0) + (if 3 < fr then p3 else 0)
noncomputable def MM (γ : Int32 → Int32) (S : St) : Nat := if (S.1 63 63).toInt = 4 ∧ (S.1 63 67).toInt = 0 then 1 + mm (S.1 63 62).toInt (PF γ S 0) (PF γ S 1) (PF γ S 2) (PF γ S 3) else 0
theorem MM_on {γ : Int32 → Int32} {S : St} (h : (S.1 63 63).toInt = 4) (h2 : (S.1 63 67).toInt = 0) : MM γ S = 1 + mm (S.1 63 62).toInt (PF γ S 0) (PF γ S 1) (PF γ S 2) (PF γ S 3) := if_pos ⟨h, h2⟩
theorem MM_off {γ : Int32 → Int32} {S : St} (h : ¬ ((S.1 63 63).toInt = 4 ∧ (S.1 63 67).toInt = 0)) : MM γ S = 0 := if_neg h
theorem mm_1 (p0 p1 p2 p3 : Nat) : mm 1 p0 p1 p2 p3 = 1000000000000 * p0 := by
  unfold mm
  rw [if_pos (by decide), if_neg (by decide), if_neg (by decide), if_neg (by decide)]
  simp only [Nat.add_zero]
theorem mm_2 (p0 p1 p2 p3 : Nat) : mm 2 p0 p1 p2 p3 = 1000000000000 * p0 + 100000000 * p1 := by
  unfold mm
  rw [if_pos (by decide), if_pos (by decide), if_neg (by decide), if_neg (by decide)]
  simp only [Nat.add_zero]
theorem mm_3 (p0 p1 p2 p3 : Nat) : mm 3 p0 p1 p2 p3 = 1000000000000 * p0 + 100000000 * p1 + 10000 * p2 := by
  unfold mm
  rw [if_pos (by decide), if_pos (by decide), if_pos (by decide), if_neg (by decide), Nat.add_zero]
theorem mm_4 (p0 p1 p2 p3 : Nat) : mm 4 p0 p1 p2 p3 = 1000000000000 * p0 + 100000000 * p1 + 10000 * p2 + p3 := by
  unfold mm
  rw [if_pos (by decide), if_pos (by decide), if_pos (by decide), if_pos (by decide)]
theorem MM_big {γ : Int32 → Int32} {S : St} (I : Inv S) : MM γ S < 1000000000000000000 := by
  unfold MM
  split
  · have h0 := PF_le (γ := γ) I 0
    have h1 := PF_le (γ := γ) I 1
    have h2 := PF_le (γ := γ) I 2
    have h3 := PF_le (γ := γ) I 3
    unfold mm
    split <;> split <;> split <;> split <;> omega
  · omega
/-- the uppermost FRAME is gone -/
theorem MM_pop {γ : Int32 → Int32} {S U : St} (h4 : (S.1 63 63).toInt = 4) (h0 : (S.1 63 67).toInt = 0) (hf : (U.1 63 62).toInt = (S.1 63 62).toInt - 1) (h2 : 2 ≤ (S.1 63 62).toInt) (hl : (S.1 63 62).toInt ≤ 4) (hp : ∀ f : Nat, PF γ U f = PF γ S f) : MM γ U < MM γ S := by
  rw [MM_on h4 h0]
  by_cases c : (U.1 63 63).toInt = 4 ∧ (U.1 63 67).toInt = 0
  · rw [MM_on c.1 c.2, hp 0, hp 1, hp 2, hp 3, hf]
    have q0 := PF_pos γ S 0
    have q1 := PF_pos γ S 1
    have q2 := PF_pos γ S 2
    have q3 := PF_pos γ S 3
    rcases (show (S.1 63 62).toInt = 2 ∨ (S.1 63 62).toInt = 3 ∨ (S.1 63 62).toInt = 4 by omega) with h | h | h
    · rw [h, show (2 : Int) - 1 = 1 from rfl, mm_1, mm_2]; omega
    · rw [h, show (3 : Int) - 1 = 2 from rfl, mm_2, mm_3]; omega
    · rw [h, show (4 : Int) - 1 = 3 from rfl, mm_3, mm_4]; omega
  · rw [MM_off c]; omega
/-- it stops -/
theorem MM_stop {γ : Int32 → Int32} {S U : St} (h4 : (S.1 63 63).toInt = 4) (h0 : (S.1 63 67).toInt = 0) (hs : ¬ ((U.1 63 63).toInt = 4 ∧ (U.1 63 67).toInt = 0)) : MM γ U < MM γ S := by
  rw [MM_on h4 h0, MM_off hs]; omega
/-- the uppermost FRAME may do less -/
theorem MM_top {γ : Int32 → Int32} {S U : St} {f : Nat} (h4 : (S.1 63 63).toInt = 4) (h0 : (S.1 63 67).toInt = 0) (hf : (U.1 63 62).toInt = (S.1 63 62).toInt) (hl : (S.1 63 62).toInt ≤ 4) (hff : (S.1 63 62).toInt = (f : Int) + 1) (hp : ∀ g : Nat, g ≠ f → PF γ U g = PF γ S g) (hd : PF γ U f < PF γ S f) : MM γ U < MM γ S := by
  rw [MM_on h4 h0]
  by_cases c : (U.1 63 63).toInt = 4 ∧ (U.1 63 67).toInt = 0
  · rw [MM_on c.1 c.2, hf]
    rcases (show f = 0 ∨ f = 1 ∨ f = 2 ∨ f = 3 by omega) with h | h | h | h
    · subst h
      rw [show (S.1 63 62).toInt = 1 by omega, mm_1, mm_1]; omega
    · subst h
      rw [show (S.1 63 62).toInt = 2 by omega, mm_2, mm_2, hp 0 (by decide)]; omega
    · subst h
      rw [show (S.1 63 62).toInt = 3 by omega, mm_3, mm_3, hp 0 (by decide), hp 1 (by decide)]; omega
    · subst h
      rw [show (S.1 63 62).toInt = 4 by omega, mm_4, mm_4, hp 0 (by decide), hp 1 (by decide), hp 2 (by decide)]; omega
  · rw [MM_off c]; omega
/-- a FRAME more, and the one below may do less -/
theorem MM_push {γ : Int32 → Int32} {S U : St} {f : Nat} (J : Inv U) (h4 : (S.1 63 63).toInt = 4) (h0 : (S.1 63 67).toInt = 0) (hf : (U.1 63 62).toInt = (S.1 63 62).toInt + 1) (hl : (S.1 63 62).toInt ≤ 3) (hff : (S.1 63 62).toInt = (f : Int) + 1) (hp : ∀ g : Nat, g < f → PF γ U g = PF γ S g) (hd : PF γ U f < PF γ S f) : MM γ U < MM γ S := by
  rw [MM_on h4 h0]
  by_cases c : (U.1 63 63).toInt = 4 ∧ (U.1 63 67).toInt = 0
  · rw [MM_on c.1 c.2, hf]
    have q1 := PF_le (γ := γ) J 1
    have q2 := PF_le (γ := γ) J 2
    have q3 := PF_le (γ := γ) J 3
    rcases (show f = 0 ∨ f = 1 ∨ f = 2 by omega) with h | h | h
    · subst h
      rw [show (S.1 63 62).toInt = 1 by omega, show (1 : Int) + 1 = 2 from rfl, mm_1, mm_2]; omega
    · subst h
      rw [show (S.1 63 62).toInt = 2 by omega, show (2 : Int) + 1 = 3 from rfl, mm_2, mm_3, hp 0 (by decide)]; omega
    · subst h
      rw [show (S.1 63 62).toInt = 3 by omega, show (3 : Int) + 1 = 4 from rfl, mm_3, mm_4, hp 0 (by decide), hp 1 (by decide)]; omega
  · rw [MM_off c]; omega
/-- the addresses that were tried are not more than the queries -/
def TQ (S : St) : Prop := ∀ f : Nat, (f : Int) < (S.1 63 62).toInt → (S.1 102 f).toInt ≤ (S.1 63 65).toInt
theorem TQ_fr {S U : St} (h : TQ S) (e : U.1 63 62 = S.1 63 62) (e1 : U.1 63 65 = S.1 63 65) (e2 : ∀ b, U.1 102 b = S.1 102 b) : TQ U := by
  intro f hf
  rw [e] at hf
  rw [e1, e2]
  exact h f hf
theorem TQ_le {S U : St} (h : TQ S) (e : (U.1 63 62).toInt ≤ (S.1 63 62).toInt) (e1 : U.1 63 65 = S.1 63 65) (e2 : ∀ b, U.1 102 b = S.1 102 b) : TQ U := by
  intro f hf
  rw [e1, e2]
  exact h f (by omega)
theorem TQ_w {S U : St} (h : TQ S) {i : Nat} (f : ∀ a b : Nat, (a = 102 → b = i → False) → U.1 a b = S.1 a b) (hv : (U.1 102 i).toInt ≤ (S.1 63 65).toInt) : TQ U := by
  intro j hj
  rw [f 63 62 (fun e => absurd e (by decide))] at hj
  rw [f 63 65 (fun e => absurd e (by decide))]
  by_cases e : j = i
  · subst e; exact hv
  · rw [f 102 j (fun _ e2 => e e2)]; exact h j hj
theorem TQ_inc {S U : St} (h : TQ S) (f : ∀ a b : Nat, (a = 63 → b = 62 → False) → U.1 a b = S.1 a b) (hv : (U.1 63 62).toInt = (S.1 63 62).toInt + 1) {i : Nat} (hi : (i : Int) = (S.1 63 62).toInt) (h0 : (S.1 102 i).toInt ≤ (S.1 63 65).toInt) : TQ U := by
  intro j hj
  rw [f 63 65 (fun _ e => absurd e (by decide)), f 102 j (fun e => absurd e (by decide))]
  by_cases e : j = i
  · subst e; exact h0
  · exact h j (by omega)
theorem TQ_send {S U : St} {i : Nat} (h : TQ S) (e62 : U.1 63 62 = S.1 63 62) (e65 : (U.1 63 65).toInt = (S.1 63 65).toInt + 1) (e102 : ∀ b, b ≠ i → U.1 102 b = S.1 102 b) (ei : (U.1 102 i).toInt ≤ (S.1 102 i).toInt + 1) (hi : (i : Int) < (S.1 63 62).toInt) : TQ U := by
  intro j hj
  rw [e62] at hj
  by_cases e : j = i
  · subst e
    have := h j hj
    omega
  · rw [e102 j e]
    have := h j hj
    omega
def AN (x : Int) (S U : St) : Prop := ∀ b : Nat, ((b : Int) < 300 * x ∨ 300 * x + 300 ≤ (b : Int)) → U.1 103 b = S.1 103 b
theorem AN_step {x : Int} {S T U : St} {i : Nat} (f : ∀ a b : Nat, (a = 103 → b = i → False) → T.1 a b = S.1 a b) (h1 : 300 * x ≤ (i : Int)) (h2 : (i : Int) < 300 * x + 300) (h : AN x T U) : AN x S U := by
  intro b hb
  rw [h b hb, f 103 b (fun _ e => by omega)]
theorem AN_pre {x : Int} {S T U : St} {q i : Nat} (hq : q ≠ 103) (f : ∀ a b : Nat, (a = q → b = i → False) → T.1 a b = S.1 a b) (h : AN x T U) : AN x S U := by
  intro b hb
  rw [h b hb, f 103 b (fun e => absurd e.symm hq)]
/-- the FRAMES below stay -/
def OP (S U : St) : Prop := ∀ g : Nat, (g : Int) < (S.1 63 62).toInt → U.1 97 g = S.1 97 g ∧ U.1 99 g = S.1 99 g ∧ U.1 100 g = S.1 100 g ∧ ∀ k, k < 300 → U.1 103 (300 * g + k) = S.1 103 (300 * g + k)
