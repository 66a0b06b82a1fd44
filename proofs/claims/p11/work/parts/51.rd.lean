/-! ===== one call at the first state ===== -/
def okb (x : Option (St × Int32)) : Bool := match x with
  | none => false
  | some y => decide (y.2 = 1)
theorem okb_e {x : Option (St × Int32)} (h : okb x = true) : ∃ S', x = some (S', (1 : Int32)) := by
  cases x with
  | none => exact Bool.noConfusion h
  | some y =>
    have h2 : y.2 = 1 := of_decide_eq_true h
    exact ⟨y.1, by rw [← h2]⟩
theorem okS (S : St) : okb (some (S, (1 : Int32))) = true := rfl
theorem bdS {α β : Type} (S : St) (r : β) (k : St → β → Option α) : bd (some (S, r)) k = k S r := rfl
theorem gdt {α : Type} (x : Option α) : gd true x = x := rfl
theorem bx0 (S : St) (r : Int32) (K : St → Int32 → Option (St × Ot)) : bx (some (S, ((0 : Nat), r))) K = K S r := rfl
theorem bc0 {α : Type} (S : St) (r : Int32) (K : St → Int32 → Option α) (X : St → Nat → Option α) : bc (some (S, ((0 : Nat), r))) K X = K S r := rfl
theorem bx1 (S : St) (r : Int32) (K : St → Int32 → Option (St × Ot)) : bx (some (S, ((1 : Nat), r))) K = some (S, ((1 : Nat), r)) := rfl
theorem bc1 {α : Type} (S : St) (r : Int32) (K : St → Int32 → Option α) (X : St → Nat → Option α) : bc (some (S, ((1 : Nat), r))) K X = X S 1 := rfl
theorem bx2 (S : St) (r : Int32) (K : St → Int32 → Option (St × Ot)) : bx (some (S, ((2 : Nat), r))) K = some (S, ((2 : Nat), r)) := rfl
theorem bc2 {α : Type} (S : St) (r : Int32) (K : St → Int32 → Option α) (X : St → Nat → Option α) : bc (some (S, ((2 : Nat), r))) K X = X S 2 := rfl
theorem bx3 (S : St) (r : Int32) (K : St → Int32 → Option (St × Ot)) : bx (some (S, ((3 : Nat), r))) K = some (S, ((3 : Nat), r)) := rfl
theorem bc3 {α : Type} (S : St) (r : Int32) (K : St → Int32 → Option α) (X : St → Nat → Option α) : bc (some (S, ((3 : Nat), r))) K X = X S 3 := rfl
theorem bx4 (S : St) (r : Int32) (K : St → Int32 → Option (St × Ot)) : bx (some (S, ((4 : Nat), r))) K = some (S, ((4 : Nat), r)) := rfl
theorem bc4 {α : Type} (S : St) (r : Int32) (K : St → Int32 → Option α) (X : St → Nat → Option α) : bc (some (S, ((4 : Nat), r))) K X = X S 4 := rfl
theorem bx5 (S : St) (r : Int32) (K : St → Int32 → Option (St × Ot)) : bx (some (S, ((5 : Nat), r))) K = some (S, ((5 : Nat), r)) := rfl
theorem bc5 {α : Type} (S : St) (r : Int32) (K : St → Int32 → Option α) (X : St → Nat → Option α) : bc (some (S, ((5 : Nat), r))) K X = X S 5 := rfl
theorem rdI (q k : Nat) (v : Int32) (S : St) (a b : Nat) : (wI q k v S).1 a b = if a = q then (if b = k then v else S.1 q b) else S.1 a b := by
  by_cases h : a = q <;> simp [wI, va_up, upd, h]
theorem rdJ (q k : Nat) (v : Int64) (S : St) (a b : Nat) : (wJ q k v S).2 a b = if a = q then (if b = k then v else S.2 q b) else S.2 a b := by
  by_cases h : a = q <;> simp [wJ, va_up, vp_updL, h]
theorem S0r (a b : Nat) : S0.1 a b = if a = 3 then (if b = 3 then 1 else 0) else if a = 49 then (if b = 5 then 5 else 0) else if a = 63 then (if b = 5 then 1 else if b = 63 then 5 else if b = 64 then 1 else 0) else 0 := by
  unfold S0
  by_cases h1 : a = 3
  · subst h1; rfl
  · by_cases h2 : a = 49
    · subst h2; rfl
    · by_cases h3 : a = 63
      · subst h3; rfl
      · simp [h1, h2, h3]
theorem S0r2 (a b : Nat) : S0.2 a b = 0 := rfl
theorem lg_self (x : Int64) : lg_cmp x x = 0 := by unfold lg_cmp; simp
theorem tn0 : (0 : Int32).toNatClampNeg = 0 := rfl
theorem ck_0_1 : ck (0 : Int32) 1 = true := by decide
theorem ck_0_4 : ck (0 : Int32) 4 = true := by decide
theorem ck_0_5 : ck (0 : Int32) 5 = true := by decide
theorem ck_0_12 : ck (0 : Int32) 12 = true := by decide
theorem ck_0_10 : ck (0 : Int32) 10 = true := by decide
theorem ck_0_300 : ck (0 : Int32) 300 = true := by decide

