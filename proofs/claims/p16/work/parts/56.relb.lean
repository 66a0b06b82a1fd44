/-! ===== dropping records ===== -/
def DD (l k : Int) (S : St) : Prop := (∀ j : Nat, (j : Int) < l → phN (S.1 76 j).toInt (S.1 77 j).toInt) ∧ (∀ j : Nat, k ≤ (j : Int) → (j : Int) < (S.1 63 20).toInt → phN (S.1 76 j).toInt (S.1 77 j).toInt)
theorem DD_fr {l k : Int} {S U : St} (h : DD l k S) (e : U.1 63 20 = S.1 63 20) (e1 : ∀ b, U.1 76 b = S.1 76 b) (e2 : ∀ b, U.1 77 b = S.1 77 b) : DD l k U := by
  refine ⟨fun j hj => ?_, fun j hj hr => ?_⟩
  · rw [e1, e2]; exact h.1 j hj
  · rw [e] at hr
    rw [e1, e2]; exact h.2 j hj hr
theorem DD_start {l k : Int} {S : St} (h : RD S) (hl : l = 0) : DD l k S := ⟨fun j hj => by omega, fun j _ hr => h j hr⟩
theorem DD_skip {l k k' : Int} {S : St} (h : DD l k S) (hk : k ≤ k') : DD l k' S := ⟨h.1, fun j hj hr => h.2 j (by omega) hr⟩
theorem DD_copy {l k l' k' : Int} {T U V : St} {li ki : Nat} (h : DD l k T) (hl : (li : Int) = l) (hk : (ki : Int) = k) (hlk : l ≤ k) (hr : k < (T.1 63 20).toInt) (v1 : U.1 76 li = T.1 76 ki) (f1 : ∀ a b : Nat, (a = 76 → b = li → False) → U.1 a b = T.1 a b) (v2 : V.1 77 li = U.1 77 ki) (f2 : ∀ a b : Nat, (a = 77 → b = li → False) → V.1 a b = U.1 a b) (hl' : l' = l + 1) (hk' : k' = k + 1) : DD l' k' V := by
  have g76 : ∀ j, j ≠ li → V.1 76 j = T.1 76 j := fun j hj => by rw [f2 76 j (fun e => absurd e (by decide)), f1 76 j (fun _ e => hj e)]
  have g77 : ∀ j, j ≠ li → V.1 77 j = T.1 77 j := fun j hj => by rw [f2 77 j (fun _ e => hj e), f1 77 j (fun e => absurd e (by decide))]
  have g20 : V.1 63 20 = T.1 63 20 := by rw [f2 63 20 (fun e => absurd e (by decide)), f1 63 20 (fun e => absurd e (by decide))]
  refine ⟨fun j hj => ?_, fun j hj hr2 => ?_⟩
  · by_cases e : j = li
    · subst e
      rw [f2 76 j (fun e => absurd e (by decide)), v1, v2, f1 77 ki (fun e => absurd e (by decide))]
      exact h.2 ki (by omega) (by omega)
    · rw [g76 j e, g77 j e]; exact h.1 j (by omega)
  · rw [g20] at hr2
    have e : j ≠ li := fun e => by subst e; omega
    rw [g76 j e, g77 j e]; exact h.2 j (by omega) hr2
theorem DD_end {l k : Int} {T U : St} (h : DD l k T) (hv : (U.1 63 20).toInt ≤ l) (f : ∀ a b : Nat, (a = 63 → b = 20 → False) → U.1 a b = T.1 a b) : RD U := by
  intro j hj
  rw [f 76 j (fun e => absurd e (by decide)), f 77 j (fun e => absurd e (by decide))]
  exact h.1 j (by omega)
/-! ===== the cache's DATA that are NAMES ===== -/
def okk (S : St) (k : Nat) : Prop := ((S.1 92 k).toInt = 2 ∨ (S.1 92 k).toInt = 5) → ∀ d : Nat, (d : Int) < (S.1 93 k).toInt → 0 ≤ (S.1 94 (10 * k + d)).toInt ∧ (S.1 94 (10 * k + d)).toInt ≤ 299
def RK (S : St) : Prop := ∀ k : Nat, (k : Int) < (S.1 63 50).toInt → okk S k
theorem okk_fr {S U : St} {k : Nat} (h : okk S k) (e1 : U.1 92 k = S.1 92 k) (e2 : U.1 93 k = S.1 93 k) (e3 : ∀ d : Nat, (d : Int) < (S.1 93 k).toInt → U.1 94 (10 * k + d) = S.1 94 (10 * k + d)) : okk U k := by
  intro ht d hd
  rw [e1] at ht
  rw [e2] at hd
  rw [e3 d hd]
  exact h ht d hd
theorem RK_fr {S U : St} (h : RK S) (e : U.1 63 50 = S.1 63 50) (e1 : ∀ b, U.1 92 b = S.1 92 b) (e2 : ∀ b, U.1 93 b = S.1 93 b) (e3 : ∀ b, U.1 94 b = S.1 94 b) : RK U := by
  intro k hk
  rw [e] at hk
  exact okk_fr (h k hk) (e1 k) (e2 k) (fun d _ => e3 _)
theorem RK_at {S : St} (h : RK S) (I : Inv S) {x y : Int32} (h0 : 0 ≤ x.toInt) (h1 : x.toInt < (S.1 63 50).toInt) (ht : (S.1 92 (x.toNatClampNeg)).toInt = 2 ∨ (S.1 92 (x.toNatClampNeg)).toInt = 5) (h2 : 0 ≤ y.toInt) (h3 : y.toInt < (S.1 93 (x.toNatClampNeg)).toInt) : 0 ≤ (S.1 94 ((((10 : Int32) * x) + y)).toNatClampNeg).toInt ∧ (S.1 94 ((((10 : Int32) * x) + y)).toNatClampNeg).toInt ≤ 299 := by
  have b1 := b_63_50 I
  have b2 := a_93 I (x.toNatClampNeg)
  have c1 := cl_iv h0
  have c2 := cl_iv h2
  have e1 : ((10 : Int32) * x).toInt = 10 * x.toInt := mul_iv li_10 rfl (by omega) (by omega)
  have e2 : (((10 : Int32) * x) + y).toInt = 10 * x.toInt + y.toInt := add_iv e1 rfl (by omega) (by omega)
  have c3 := cl_iv (x := ((10 : Int32) * x) + y) (by omega)
  have e3 : (((10 : Int32) * x) + y).toNatClampNeg = 10 * x.toNatClampNeg + y.toNatClampNeg := by omega
  rw [e3]
  exact h _ (by omega) ht _ (by omega)
theorem RK_at0 {S : St} (h : RK S) (I : Inv S) {x : Int32} (h0 : 0 ≤ x.toInt) (h1 : x.toInt < (S.1 63 50).toInt) (ht : (S.1 92 (x.toNatClampNeg)).toInt = 2 ∨ (S.1 92 (x.toNatClampNeg)).toInt = 5) (h3 : 0 < (S.1 93 (x.toNatClampNeg)).toInt) : 0 ≤ (S.1 94 (((10 : Int32) * x)).toNatClampNeg).toInt ∧ (S.1 94 (((10 : Int32) * x)).toNatClampNeg).toInt ≤ 299 := by
  have b1 := b_63_50 I
  have c1 := cl_iv h0
  have e1 : ((10 : Int32) * x).toInt = 10 * x.toInt := mul_iv li_10 rfl (by omega) (by omega)
  have c3 := cl_iv (x := (10 : Int32) * x) (by omega)
  have e3 : ((10 : Int32) * x).toNatClampNeg = 10 * x.toNatClampNeg + 0 := by omega
  rw [e3]
  exact h _ (by omega) ht _ (by omega)
def DK (x : Int) (S : St) : Prop := ∀ j : Nat, (j : Int) ≤ (S.1 63 50).toInt → (j : Int) ≠ x → okk S j
theorem DK_fr {x : Int} {S U : St} (h : DK x S) (e : U.1 63 50 = S.1 63 50) (e1 : ∀ b, U.1 92 b = S.1 92 b) (e2 : ∀ b, U.1 93 b = S.1 93 b) (e3 : ∀ b, U.1 94 b = S.1 94 b) : DK x U := by
  intro k hk hn
  rw [e] at hk
  exact okk_fr (h k hk hn) (e1 k) (e2 k) (fun d _ => e3 _)
theorem DK_start {x : Int} {S U : St} (h : RK S) (f : ∀ a b : Nat, (a = 63 → b = 50 → False) → U.1 a b = S.1 a b) (hv : (U.1 63 50).toInt = (S.1 63 50).toInt - 1) : DK x U := by
  intro j hj _
  exact okk_fr (h j (by omega)) (f 92 j (fun e => absurd e (by decide))) (f 93 j (fun e => absurd e (by decide))) (fun d _ => f 94 _ (fun e => absurd e (by decide)))
theorem DK_end {x : Int} {S : St} (h : DK x S) (hx : (S.1 63 50).toInt ≤ x) : RK S := fun j hj => h j (by omega) (by omega)
/-- a write of the row's item x itself -/
theorem DK_w {x : Int} {S U : St} {q i : Nat} (h : DK x S) (hi : (i : Int) = x) (hq : q = 92 ∨ q = 93) (f : ∀ a b : Nat, (a = q → b = i → False) → U.1 a b = S.1 a b) : DK x U := by
  intro j hj hn
  have hji : j ≠ i := fun e => by subst e; omega
  rw [f 63 50 (fun e => by rcases hq with h | h <;> omega)] at hj
  exact okk_fr (h j hj hn) (f 92 j (fun _ e => hji e)) (f 93 j (fun _ e => hji e)) (fun d _ => f 94 _ (fun e => by rcases hq with h | h <;> omega))
def DI (x y : Int) (S : St) : Prop := DK x S ∧ ∃ i : Nat, (i : Int) = x ∧ S.1 92 i = S.1 92 (i + 1) ∧ S.1 93 i = S.1 93 (i + 1) ∧ ∀ d : Nat, (d : Int) < y → S.1 94 (10 * i + d) = S.1 94 (10 * (i + 1) + d)
theorem DI_fr {x y : Int} {S U : St} (h : DI x y S) (e : U.1 63 50 = S.1 63 50) (e1 : ∀ b, U.1 92 b = S.1 92 b) (e2 : ∀ b, U.1 93 b = S.1 93 b) (e3 : ∀ b, U.1 94 b = S.1 94 b) : DI x y U := by
  obtain ⟨h1, i, h2, h3, h4, h5⟩ := h
  exact ⟨DK_fr h1 e e1 e2 e3, i, h2, by rw [e1, e1]; exact h3, by rw [e2, e2]; exact h4, fun d hd => by rw [e3, e3]; exact h5 d hd⟩
theorem DI_start {x : Int} {T U V : St} {i i1 : Nat} (h : DK x T) (hi : (i : Int) = x) (h1 : (i1 : Int) = x + 1) (v1 : U.1 92 i = T.1 92 i1) (f1 : ∀ a b : Nat, (a = 92 → b = i → False) → U.1 a b = T.1 a b) (v2 : V.1 93 i = U.1 93 i1) (f2 : ∀ a b : Nat, (a = 93 → b = i → False) → V.1 a b = U.1 a b) {y : Int} (hy : y = 0) : DI x y V := by
  have e : i1 = i + 1 := by omega
  subst e
  refine ⟨DK_w (DK_w h hi (Or.inl rfl) f1) hi (Or.inr rfl) f2, i, hi, ?_, ?_, fun d hd => by omega⟩
  · rw [f2 92 i (fun e => absurd e (by decide)), v1, f2 92 (i + 1) (fun e => absurd e (by decide)), f1 92 (i + 1) (fun _ e => by omega)]
  · rw [v2, f2 93 (i + 1) (fun _ e => by omega)]
theorem DI_step {x y y' : Int} {S U : St} {p p1 : Nat} (I : Inv S) (h : DI x y S) (h0 : 0 ≤ x) (hy : 0 ≤ y) (hy2 : y < 10) (hp : (p : Int) = 10 * x + y) (hp1 : (p1 : Int) = 10 * (x + 1) + y) (v : U.1 94 p = S.1 94 p1) (f : ∀ a b : Nat, (a = 94 → b = p → False) → U.1 a b = S.1 a b) (hy' : y' = y + 1) : DI x y' U := by
  obtain ⟨h1, i, h2, h3, h4, h5⟩ := h
  refine ⟨?_, i, h2, ?_, ?_, ?_⟩
  · intro j hj hn
    rw [f 63 50 (fun e => absurd e (by decide))] at hj
    refine okk_fr (h1 j hj hn) (f 92 j (fun e => absurd e (by decide))) (f 93 j (fun e => absurd e (by decide))) (fun d hd => f 94 _ (fun _ e => ?_))
    have := a_93 I j
    omega
  · rw [f 92 i (fun e => absurd e (by decide)), f 92 (i + 1) (fun e => absurd e (by decide))]; exact h3
  · rw [f 93 i (fun e => absurd e (by decide)), f 93 (i + 1) (fun e => absurd e (by decide))]; exact h4
  · intro d hd
    by_cases e : (d : Int) = y
    · have e1 : 10 * i + d = p := by omega
      have e2 : 10 * (i + 1) + d = p1 := by omega
      rw [e1, e2, v, f 94 p1 (fun _ e => by omega)]
    · rw [f 94 (10 * i + d) (fun _ e => by omega), f 94 (10 * (i + 1) + d) (fun _ e => by omega)]
      exact h5 d (by omega)
theorem DK_of_DI {x y x' : Int} {S : St} (I : Inv S) (h : DI x y S) (h0 : 0 ≤ x) (hy : 10 ≤ y) (hx : x < (S.1 63 50).toInt) (hx' : x' = x + 1) : DK x' S := by
  obtain ⟨h1, i, h2, h3, h4, h5⟩ := h
  intro j hj hn
  by_cases e : (j : Int) = x
  · have e1 : j = i := by omega
    subst e1
    have ho : okk S (j + 1) := h1 (j + 1) (by omega) (by omega)
    intro ht d hd
    have := a_93 I j
    rw [h5 d (by omega)]
    rw [h3] at ht
    rw [h4] at hd
    exact ho ht d hd
  · exact h1 j hj e
/-- the one that is put in, up to its DATA y -/
def PI (y : Int) (S : St) : Prop := RK S ∧ (S.1 93 ((S.1 63 50)).toNatClampNeg).toInt = (S.1 63 53).toInt ∧ SM (S.1 92 ((S.1 63 50)).toNatClampNeg).toInt S ∧ ∀ d : Nat, (d : Int) < y → S.1 94 (10 * ((S.1 63 50)).toNatClampNeg + d) = S.1 96 d
theorem PI_fr {y : Int} {S U : St} (h : PI y S) (e : U.1 63 50 = S.1 63 50) (e0 : U.1 63 53 = S.1 63 53) (e1 : ∀ b, U.1 92 b = S.1 92 b) (e2 : ∀ b, U.1 93 b = S.1 93 b) (e3 : ∀ b, U.1 94 b = S.1 94 b) (e4 : ∀ b, U.1 96 b = S.1 96 b) : PI y U := by
  obtain ⟨h1, h2, h3, h4⟩ := h
  refine ⟨RK_fr h1 e e1 e2 e3, by rw [e, e2, e0]; exact h2, by rw [e, e1]; exact SM_fr h3 e0 e4, fun d hd => by rw [e, e3, e4]; exact h4 d hd⟩
/-- a write at the count, of the type or of the number of DATA -/
theorem RK_w {S U : St} {q i : Nat} (h : RK S) (hi : (S.1 63 50).toInt ≤ (i : Int)) (hq : q = 92 ∨ q = 93) (f : ∀ a b : Nat, (a = q → b = i → False) → U.1 a b = S.1 a b) : RK U := by
  intro j hj
  rw [f 63 50 (fun e => by rcases hq with h | h <;> omega)] at hj
  have hji : j ≠ i := fun e => by subst e; omega
  exact okk_fr (h j hj) (f 92 j (fun _ e => hji e)) (f 93 j (fun _ e => hji e)) (fun d _ => f 94 _ (fun e => by rcases hq with h | h <;> omega))
theorem PI_start {S : St} (h : RK S) {t : Int} (hs : SM t S) (h1 : (S.1 92 ((S.1 63 50)).toNatClampNeg).toInt = t) (h2 : (S.1 93 ((S.1 63 50)).toNatClampNeg).toInt = (S.1 63 53).toInt) {y : Int} (hy : y = 0) : PI y S := ⟨h, h2, by rw [h1]; exact hs, fun d hd => by omega⟩
theorem PI_step {y y' : Int} {S U : St} {p e : Nat} (I : Inv S) (h : PI y S) (hy : 0 ≤ y) (hp : (p : Int) = 10 * (S.1 63 50).toInt + y) (he : (e : Int) = y) (v : U.1 94 p = S.1 96 e) (f : ∀ a b : Nat, (a = 94 → b = p → False) → U.1 a b = S.1 a b) (hy' : y' = y + 1) : PI y' U := by
  obtain ⟨h1, h2, h3, h4⟩ := h
  have b1 := b_63_50 I
  have c1 := cl_iv b1.1
  have g : U.1 63 50 = S.1 63 50 := f 63 50 (fun e => absurd e (by decide))
  refine ⟨?_, ?_, ?_, ?_⟩
  · intro j hj
    rw [g] at hj
    refine okk_fr (h1 j hj) (f 92 j (fun e => absurd e (by decide))) (f 93 j (fun e => absurd e (by decide))) (fun d hd => f 94 _ (fun _ e => ?_))
    have := a_93 I j
    omega
  · rw [g, f 93 _ (fun e => absurd e (by decide)), f 63 53 (fun e => absurd e (by decide))]; exact h2
  · rw [g, f 92 _ (fun e => absurd e (by decide))]
    exact SM_fr h3 (f 63 53 (fun e => absurd e (by decide))) (fun b => f 96 b (fun e => absurd e (by decide)))
  · intro d hd
    rw [g]
    by_cases hd2 : (d : Int) = y
    · have e1 : 10 * ((S.1 63 50)).toNatClampNeg + d = p := by omega
      have e2 : d = e := by omega
      rw [e1, v, e2, f 96 e (fun e => absurd e (by decide))]
    · rw [f 94 _ (fun _ e => by omega), f 96 d (fun e => absurd e (by decide))]
      exact h4 d (by omega)
theorem PI_end {y : Int} {S U : St} (I : Inv S) (h : PI y S) (hy : (S.1 63 53).toInt ≤ y) (f : ∀ a b : Nat, (a = 63 → b = 50 → False) → U.1 a b = S.1 a b) (hv : (U.1 63 50).toInt = (S.1 63 50).toInt + 1) : RK U := by
  obtain ⟨h1, h2, h3, h4⟩ := h
  have b1 := b_63_50 I
  have c1 := cl_iv b1.1
  intro j hj
  have fr : ∀ q b, q ≠ 63 → U.1 q b = S.1 q b := fun q b hq => f q b (fun e => absurd e hq)
  by_cases e : (j : Int) < (S.1 63 50).toInt
  · exact okk_fr (h1 j e) (fr 92 j (by decide)) (fr 93 j (by decide)) (fun d _ => fr 94 _ (by decide))
  · have e1 : j = ((S.1 63 50)).toNatClampNeg := by omega
    subst e1
    intro ht d hd
    rw [fr 92 _ (by decide)] at ht
    rw [fr 93 _ (by decide)] at hd
    rw [fr 94 _ (by decide), h4 d (by omega)]
    exact h3 ht d (by omega)
theorem SM_one {t : Int} {S : St} (h : (S.1 63 53).toInt = 1) (h0 : 0 ≤ (S.1 96 0).toInt ∧ (S.1 96 0).toInt ≤ 299) : SM t S := by
  intro _ d hd
  have : d = 0 := by omega
  subst this
  exact h0
