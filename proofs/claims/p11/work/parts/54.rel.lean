theorem dv_iv {x : Int32} (h0 : 0 ≤ x.toInt) (h1 : x.toInt < 20) : 0 ≤ (x / (4 : Int32)).toInt ∧ (x / (4 : Int32)).toInt ≤ 4 := by
  have hn : ¬ x < 0 := fun c => by
    have := lt_iv rfl li_0 c
    omega
  obtain ⟨k, hk, rfl⟩ := nI_of hn
  rw [nI_toInt hk] at h1
  rcases (show k = 0 ∨ k = 1 ∨ k = 2 ∨ k = 3 ∨ k = 4 ∨ k = 5 ∨ k = 6 ∨ k = 7 ∨ k = 8 ∨ k = 9 ∨ k = 10 ∨ k = 11 ∨ k = 12 ∨ k = 13 ∨ k = 14 ∨ k = 15 ∨ k = 16 ∨ k = 17 ∨ k = 18 ∨ k = 19 by omega) with rfl | rfl | rfl | rfl | rfl | rfl | rfl | rfl | rfl | rfl | rfl | rfl | rfl | rfl | rfl | rfl | rfl | rfl | rfl | rfl <;> decide
theorem two_iv (x y : Int32) : 0 ≤ (((x &&& (255 : Int32)) <<< ((8 : Int32) &&& 31)) ||| (y &&& (255 : Int32))).toInt ∧ (((x &&& (255 : Int32)) <<< ((8 : Int32) &&& 31)) ||| (y &&& (255 : Int32))).toInt ≤ 65535 := by
  obtain ⟨j, hj, e1⟩ := pk_andE x (m := 255) 8 (by decide)
  obtain ⟨k, hk, e2⟩ := pk_andE y (m := 255) 8 (by decide)
  rw [e1, e2, pk_shlN ((8 : Int32) &&& 31) 8 (by decide) (by omega)]
  have h1 : (nI (j * 2 ^ 8) ||| nI k).toBitVec.toNat = (j * 2 ^ 8) ||| k := by
    rw [Int32.toBitVec_or, BitVec.toNat_or, pk_tn (by omega), pk_tn (by omega)]
  have h2 : (j * 2 ^ 8) ||| k < 2 ^ 16 := Nat.or_lt_two_pow (by omega) (by omega)
  have h3 : (nI (j * 2 ^ 8) ||| nI k).toInt = (((j * 2 ^ 8) ||| k : Nat) : Int) := by
    show (nI (j * 2 ^ 8) ||| nI k).toBitVec.toInt = _
    rw [BitVec.toInt_eq_toNat_of_lt (by rw [h1]; omega), h1]
  rw [h3]; omega
/-! ===== what is kept of two rows below a count ===== -/
def RG (c a1 a2 : Nat) (φ : Int → Int → Prop) (S : St) : Prop := ∀ k : Nat, (k : Int) < (S.1 63 c).toInt → φ (S.1 a1 k).toInt (S.1 a2 k).toInt
theorem RG_fr {c a1 a2 : Nat} {φ : Int → Int → Prop} {S U : St} (h : RG c a1 a2 φ S) (e : U.1 63 c = S.1 63 c) (e1 : ∀ b, U.1 a1 b = S.1 a1 b) (e2 : ∀ b, U.1 a2 b = S.1 a2 b) : RG c a1 a2 φ U := by
  intro k hk
  rw [e] at hk
  rw [e1, e2]
  exact h k hk
/-- a write at or behind the count -/
theorem RG_w {c a1 a2 : Nat} {φ : Int → Int → Prop} {S U : St} (h : RG c a1 a2 φ S) {q i : Nat} (hq : q ≠ 63) (hi : (S.1 63 c).toInt ≤ (i : Int)) (f : ∀ a b : Nat, (a = q → b = i → False) → U.1 a b = S.1 a b) : RG c a1 a2 φ U := by
  intro k hk
  rw [f 63 c (fun e => absurd e.symm hq)] at hk
  have hn : k ≠ i := fun e => by subst e; omega
  rw [f a1 k (fun _ e => hn e), f a2 k (fun _ e => hn e)]
  exact h k hk
/-- one more -/
theorem RG_inc {c a1 a2 : Nat} {φ : Int → Int → Prop} {S U : St} (h : RG c a1 a2 φ S) (h1 : a1 ≠ 63) (h2 : a2 ≠ 63) (f : ∀ a b : Nat, (a = 63 → b = c → False) → U.1 a b = S.1 a b) (hv : (U.1 63 c).toInt ≤ (S.1 63 c).toInt + 1) (h0 : 0 ≤ (S.1 63 c).toInt) (hp : φ (S.1 a1 ((S.1 63 c)).toNatClampNeg).toInt (S.1 a2 ((S.1 63 c)).toNatClampNeg).toInt) : RG c a1 a2 φ U := by
  intro k hk
  rw [f a1 k (fun e => absurd e h1), f a2 k (fun e => absurd e h2)]
  by_cases hc : (k : Int) < (S.1 63 c).toInt
  · exact h k hc
  · have h3 := cl_iv h0
    have : k = ((S.1 63 c)).toNatClampNeg := by omega
    subst this
    exact hp
theorem RG_zero {c a1 a2 : Nat} {φ : Int → Int → Prop} {U : St} (hv : (U.1 63 c).toInt = 0) : RG c a1 a2 φ U := fun k hk => by omega
def phN (x y : Int) : Prop := (x = 2 ∨ x = 5) → 0 ≤ y ∧ y ≤ 299
def phP (x y : Int) : Prop := x + y ≤ 1000
abbrev PX : St → Prop := RG 8 68 69 phP
abbrev RD : St → Prop := RG 20 76 77 phN
abbrev RR : St → Prop := RG 42 87 88 phN
theorem PX_fr {S U : St} (h : PX S) (e : U.1 63 8 = S.1 63 8) (e1 : ∀ b, U.1 68 b = S.1 68 b) (e2 : ∀ b, U.1 69 b = S.1 69 b) : PX U := RG_fr h e e1 e2
theorem RD_fr {S U : St} (h : RD S) (e : U.1 63 20 = S.1 63 20) (e1 : ∀ b, U.1 76 b = S.1 76 b) (e2 : ∀ b, U.1 77 b = S.1 77 b) : RD U := RG_fr h e e1 e2
theorem RR_fr {S U : St} (h : RR S) (e : U.1 63 42 = S.1 63 42) (e1 : ∀ b, U.1 87 b = S.1 87 b) (e2 : ∀ b, U.1 88 b = S.1 88 b) : RR U := RG_fr h e e1 e2
theorem PX_at {S : St} (h : PX S) {x : Int32} (h0 : 0 ≤ x.toInt) (h1 : x.toInt < (S.1 63 8).toInt) : (S.1 68 (x).toNatClampNeg).toInt + (S.1 69 (x).toNatClampNeg).toInt ≤ 1000 := h _ (by rw [cl_iv h0]; exact h1)
theorem RD_at {S : St} (h : RD S) {x : Int32} (h0 : 0 ≤ x.toInt) (h1 : x.toInt < (S.1 63 20).toInt) : ((S.1 76 (x).toNatClampNeg).toInt = 2 ∨ (S.1 76 (x).toNatClampNeg).toInt = 5) → 0 ≤ (S.1 77 (x).toNatClampNeg).toInt ∧ (S.1 77 (x).toNatClampNeg).toInt ≤ 299 := h _ (by rw [cl_iv h0]; exact h1)
theorem RR_at {S : St} (h : RR S) {x : Int32} (h0 : 0 ≤ x.toInt) (h1 : x.toInt < (S.1 63 42).toInt) : ((S.1 87 (x).toNatClampNeg).toInt = 2 ∨ (S.1 87 (x).toNatClampNeg).toInt = 5) → 0 ≤ (S.1 88 (x).toNatClampNeg).toInt ∧ (S.1 88 (x).toNatClampNeg).toInt ≤ 299 := h _ (by rw [cl_iv h0]; exact h1)
/-- what was gathered for a TYPE that has NAMES -/
def SM (t : Int) (S : St) : Prop := (t = 2 ∨ t = 5) → ∀ d : Nat, (d : Int) < (S.1 63 53).toInt → 0 ≤ (S.1 96 d).toInt ∧ (S.1 96 d).toInt ≤ 299
theorem SM_zero {t : Int} {U : St} (hv : (U.1 63 53).toInt = 0) : SM t U := fun _ d hd => by omega
theorem SM_fr {t : Int} {S U : St} (h : SM t S) (e : U.1 63 53 = S.1 63 53) (e1 : ∀ b, U.1 96 b = S.1 96 b) : SM t U := by
  intro ht d hd
  rw [e] at hd
  rw [e1]
  exact h ht d hd
theorem SM_w {t : Int} {S U : St} (h : SM t S) {i : Nat} (hi : (S.1 63 53).toInt ≤ (i : Int)) (f : ∀ a b : Nat, (a = 96 → b = i → False) → U.1 a b = S.1 a b) : SM t U := by
  intro ht d hd
  rw [f 63 53 (fun e => absurd e (by decide))] at hd
  have hn : d ≠ i := fun e => by subst e; omega
  rw [f 96 d (fun _ e => hn e)]
  exact h ht d hd
theorem SM_inc {t : Int} {S U : St} (h : SM t S) (f : ∀ a b : Nat, (a = 63 → b = 53 → False) → U.1 a b = S.1 a b) (hv : (U.1 63 53).toInt ≤ (S.1 63 53).toInt + 1) (h0 : 0 ≤ (S.1 63 53).toInt) (hp : (t = 2 ∨ t = 5) → 0 ≤ (S.1 96 ((S.1 63 53)).toNatClampNeg).toInt ∧ (S.1 96 ((S.1 63 53)).toNatClampNeg).toInt ≤ 299) : SM t U := by
  intro ht d hd
  rw [f 96 d (fun e => absurd e (by decide))]
  by_cases hc : (d : Int) < (S.1 63 53).toInt
  · exact h ht d hc
  · have h3 := cl_iv h0
    have : d = ((S.1 63 53)).toNatClampNeg := by omega
    subst this
    exact hp ht
