/-! ===== the pure part: reading what was written; numbers ===== -/
theorem rI (q k : Nat) (v : Int32) (S : St) (a : Nat) : (wI q k v S).1 a = if a = q then upd (S.1 q) k v else S.1 a := by
  by_cases h : a = q <;> simp [wI, va_up, h]
theorem rI2 (q k : Nat) (v : Int32) (S : St) : (wI q k v S).2 = S.2 := rfl
theorem rJ (q k : Nat) (v : Int64) (S : St) (a : Nat) : (wJ q k v S).2 a = if a = q then vp_updL (S.2 q) k v else S.2 a := by
  by_cases h : a = q <;> simp [wJ, va_up, h]
theorem rJ1 (q k : Nat) (v : Int64) (S : St) : (wJ q k v S).1 = S.1 := rfl
theorem ru (f : Nat → Int32) (k j : Nat) (x : Int32) : upd f k x j = if j = k then x else f j := rfl
theorem ruL (f : Nat → Int64) (k j : Nat) (x : Int64) : vp_updL f k x j = if j = k then x else f j := rfl
theorem gd_t {α : Type} {b : Bool} {x : Option α} (h : b = true) : gd b x = x := by simp [gd, h]
theorem bd_e {α β : Type} {x : Option (St × β)} {S : St} {r : β} {k : St → β → Option α} (h : x = some (S, r)) : bd x k = k S r := by rw [h]; rfl
theorem bx_e {x : Option (St × Ot)} {S : St} {r : Int32} {K : St → Int32 → Option (St × Ot)} (h : x = some (S, (0, r))) : bx x K = K S r := by rw [h]; rfl
theorem bx_x {x : Option (St × Ot)} {S : St} {k : Nat} {r : Int32} {K : St → Int32 → Option (St × Ot)} (h : x = some (S, (k + 1, r))) : bx x K = some (S, (k + 1, r)) := by rw [h]; rfl
theorem bc_e {α : Type} {x : Option (St × Ot)} {S : St} {r : Int32} {K : St → Int32 → Option α} {X : St → Nat → Option α} (h : x = some (S, (0, r))) : bc x K X = K S r := by rw [h]; rfl
theorem bc_x {α : Type} {x : Option (St × Ot)} {S : St} {k : Nat} {r : Int32} {K : St → Int32 → Option α} {X : St → Nat → Option α} (h : x = some (S, (k + 1, r))) : bc x K X = X S (k + 1) := by rw [h]; rfl
theorem sI_e {α : Type} (q k : Nat) (v : Int32) (S : St) (K : St → Option α) : sI q k v S K = K (wI q k v S) := rfl
theorem sJ_e {α : Type} (q k : Nat) (v : Int64) (S : St) (K : St → Option α) : sJ q k v S K = K (wJ q k v S) := rfl
theorem ck_nI {i n : Nat} (h : i < n) (hn : n < 2 ^ 31) : ck (nI i) n = true := by
  have h1 : (nI i).toNatClampNeg = i := nI_clamp (by omega)
  have h2 : ¬ nI i < 0 := nI_pos (by omega)
  simp [ck, h1, h2, h]
theorem ck_of {x : Int32} {n : Nat} (h0 : ¬ x < 0) (h1 : x.toNatClampNeg < n) : ck x n = true := by simp [ck, h0, h1]
/-- an int that isn't negative is its number -/
theorem int_nn {x : Int32} (h : ¬ x < 0) : ∃ i : Nat, i < 2 ^ 31 ∧ x = nI i := nI_of h
theorem lt_nI {x : Int32} {n : Nat} (hn : n < 2 ^ 31) (h0 : ¬ x < 0) (h : x < nI n) : ∃ i, i < n ∧ x = nI i := by
  obtain ⟨i, hi, rfl⟩ := nI_of h0
  exact ⟨i, (nI_ltI hi hn).mp h, rfl⟩
theorem le_nI {x : Int32} {n : Nat} (hn : n < 2 ^ 31) (h0 : ¬ x < 0) (h : x ≤ nI n) : ∃ i, i ≤ n ∧ x = nI i := by
  obtain ⟨i, hi, rfl⟩ := nI_of h0
  exact ⟨i, (nI_leI hi hn).mp h, rfl⟩
theorem nI_lit (n : Nat) : (OfNat.ofNat n : Int32) = nI n := rfl
theorem isB_0 : isB (0 : Int32) = true := rfl
theorem isB_1 : isB (1 : Int32) = true := rfl
def isBy (x : Int32) : Prop := x.toInt8.toInt32 = x
theorem fb_tw (x : Int32) : x.toInt8.toInt32.toInt8.toInt32 = x.toInt8.toInt32 := by simp
theorem isBy_nar (x : Int32) : isBy (vp_nar .byte x) := by rw [isBy, vp_nar_byte]; exact fb_tw x
