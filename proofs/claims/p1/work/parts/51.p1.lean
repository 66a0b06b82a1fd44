/-! ===== one call at the first state ===== -/
def okb (x : Option (St × Int32)) : Bool := match x with
  | none => false
  | some y => decide (y.2 = 1)
theorem okb_e {x : Option (St × Int32)} (h : okb x = true) : ∃ S', x = some (S', (1 : Int32)) := by
  cases x with
  | none => exact Bool.noConfusion h
  | some y =>
    have h2 : y.2 = 1 := of_decide_eq_true h
    exact ⟨y.1, by rw [← h2]⟩
theorem okS (S : St) : okb (some (S, (1 : Int32))) = true := rfl
theorem bdS {α β : Type} (S : St) (r : β) (k : St → β → Option α) : bd (some (S, r)) k = k S r := rfl
theorem gdt {α : Type} (x : Option α) : gd true x = x := rfl
theorem bx0 (S : St) (r : Int32) (K : St → Int32 → Option (St × Ot)) : bx (some (S, ((0 : Nat), r))) K = K S r := rfl
theorem bc0 {α : Type} (S : St) (r : Int32) (K : St → Int32 → Option α) (X : St → Nat → Option α) : bc (some (S, ((0 : Nat), r))) K X = K S r := rfl
theorem bx1 (S : St) (r : Int32) (K : St → Int32 → Option (St × Ot)) : bx (some (S, ((1 : Nat), r))) K = some (S, ((1 : Nat), r)) := rfl
theorem bc1 {α : Type} (S : St) (r : Int32) (K : St → Int32 → Option α) (X : St → Nat → Option α) : bc (some (S, ((1 : Nat), r))) K X = X S 1 := rfl
theorem bx2 (S : St) (r : Int32) (K : St → Int32 → Option (St × Ot)) : bx (some (S, ((2 : Nat), r))) K = some (S, ((2 : Nat), r)) := rfl
theorem bc2 {α : Type} (S : St) (r : Int32) (K : St → Int32 → Option α) (X : St → Nat → Option α) : bc (some (S, ((2 : Nat), r))) K X = X S 2 := rfl
theorem bx3 (S : St) (r : Int32) (K : St → Int32 → Option (St × Ot)) : bx (some (S, ((3 : Nat), r))) K = some (S, ((3 : Nat), r)) := rfl
theorem bc3 {α : Type} (S : St) (r : Int32) (K : St → Int32 → Option α) (X : St → Nat → Option α) : bc (some (S, ((3 : Nat), r))) K X = X S 3 := rfl
theorem bx4 (S : St) (r : Int32) (K : St → Int32 → Option (St × Ot)) : bx (some (S, ((4 : Nat), r))) K = some (S, ((4 : Nat), r)) := rfl
theorem bc4 {α : Type} (S : St) (r : Int32) (K : St → Int32 → Option α) (X : St → Nat → Option α) : bc (some (S, ((4 : Nat), r))) K X = X S 4 := rfl
theorem bx5 (S : St) (r : Int32) (K : St → Int32 → Option (St × Ot)) : bx (some (S, ((5 : Nat), r))) K = some (S, ((5 : Nat), r)) := rfl
theorem bc5 {α : Type} (S : St) (r : Int32) (K : St → Int32 → Option α) (X : St → Nat → Option α) : bc (some (S, ((5 : Nat), r))) K X = X S 5 := rfl
theorem rdI (q k : Nat) (v : Int32) (S : St) (a b : Nat) : (wI q k v S).1 a b = if a = q then (if b = k then v else S.1 q b) else S.1 a b := by
  by_cases h : a = q <;> simp [wI, va_up, upd, h]
theorem rdJ (q k : Nat) (v : Int64) (S : St) (a b : Nat) : (wJ q k v S).2 a b = if a = q then (if b = k then v else S.2 q b) else S.2 a b := by
  by_cases h : a = q <;> simp [wJ, va_up, vp_updL, h]
theorem S0r (a b : Nat) : S0.1 a b = if a = 3 then (if b = 3 then 1 else 0) else if a = 49 then (if b = 5 then 5 else 0) else if a = 63 then (if b = 5 then 1 else if b = 63 then 5 else if b = 64 then 1 else 0) else 0 := by
  unfold S0
  by_cases h1 : a = 3
  · subst h1; rfl
  · by_cases h2 : a = 49
    · subst h2; rfl
    · by_cases h3 : a = 63
      · subst h3; rfl
      · simp [h1, h2, h3]
theorem S0r2 (a b : Nat) : S0.2 a b = 0 := rfl
theorem lg_self (x : Int64) : lg_cmp x x = 0 := by unfold lg_cmp; simp
theorem tn0 : (0 : Int32).toNatClampNeg = 0 := rfl
theorem ck_0_1 : ck (0 : Int32) 1 = true := by decide
theorem ck_0_4 : ck (0 : Int32) 4 = true := by decide
theorem ck_0_5 : ck (0 : Int32) 5 = true := by decide
theorem ck_0_12 : ck (0 : Int32) 12 = true := by decide
theorem ck_0_10 : ck (0 : Int32) 10 = true := by decide
theorem ck_0_300 : ck (0 : Int32) 300 = true := by decide

theorem add_ok (fu q : Nat) (x : Int32) (S : St) (u : Nat) (h : S.1 q 1 = nI u) (hu : u < 1000) : ∃ S', fX0_add fu q x S = some (S', (0 : Int32)) ∧ S'.1 q 1 = nI (u + 1) ∧ (∀ c, c ≠ q → c ≠ q + 1 → S'.1 c = S.1 c) ∧ S'.2 = S.2 := by
  unfold fX0_add
  have e1 : S.1 q 1 < (1000 : Int32) := by rw [h]; exact (nI_ltI (a := u) (b := 1000) (by omega) (by omega)).mpr hu
  have e2 : ck (S.1 q 1) 1000 = true := by rw [h]; exact ck_nI hu (by omega)
  rw [if_pos e1, gd_t e2, sI_e, sI_e]
  refine ⟨_, rfl, ?_, ?_, rfl⟩
  · rw [rdI, if_pos rfl, if_pos rfl, rdI, if_neg (by omega), h]; exact nI_add u 1
  · intro c h1 h2
    rw [rI, if_neg h1, rI, if_neg h2]
theorem addFour_ok (fu q : Nat) (x : Int32) (S : St) (u : Nat) (h : S.1 q 1 = nI u) (hu : u + 4 ≤ 1000) : ∃ S', fX0_addFour fu q x S = some (S', (0 : Int32)) ∧ S'.1 q 1 = nI (u + 4) ∧ (∀ c, c ≠ q → c ≠ q + 1 → S'.1 c = S.1 c) ∧ S'.2 = S.2 := by
  unfold fX0_addFour
  obtain ⟨S1, a1, b1, c1, d1⟩ := add_ok fu q (x >>> ((24 : Int32) &&& 31)) S u h (by omega)
  rw [bd_e a1]
  obtain ⟨S2, a2, b2, c2, d2⟩ := add_ok fu q (x >>> ((16 : Int32) &&& 31)) S1 (u + 1) b1 (by omega)
  rw [bd_e a2]
  obtain ⟨S3, a3, b3, c3, d3⟩ := add_ok fu q (x >>> ((8 : Int32) &&& 31)) S2 (u + 2) b2 (by omega)
  rw [bd_e a3]
  obtain ⟨S4, a4, b4, c4, d4⟩ := add_ok fu q x S3 (u + 3) b3 (by omega)
  rw [bd_e a4]
  exact ⟨S4, rfl, b4, fun c h1 h2 => by rw [c4 c h1 h2, c3 c h1 h2, c2 c h1 h2, c1 c h1 h2], by rw [d4, d3, d2, d1]⟩
theorem feed12_ok (fu : Nat) (u : Nat) (hu : u + 20 ≤ 1000) : ∀ (d k n : Nat) (S : St), k + d = 20 → S.1 63 10 = nI u → ∃ S', fX12_feed_60 fu (n + d + 1) (nI k) S = some (S', nI (u + 20)) := by
  intro d
  induction d with
  | zero =>
    intro k n S hk h
    obtain rfl : k = 20 := by omega
    refine ⟨wI 63 10 (S.1 63 10 + (20 : Int32)) S, ?_⟩
    rw [fX12_feed_60_s, if_pos (show (20 : Int32) ≤ nI 20 by decide), sI_e, rdI, if_pos rfl, if_pos rfl, h]
    rw [show nI u + (20 : Int32) = nI (u + 20) from nI_add u 20]
  | succ d ih =>
    intro k n S hk h
    have e1 : ¬ (20 : Int32) ≤ nI k := fun c => by
      have := (nI_leI (a := 20) (b := k) (by omega) (by omega)).mp c
      omega
    have e2 : ck (nI k / (4 : Int32)) 5 = true := by
      have hk2 : k < 20 := by omega
      rcases (show k = 0 ∨ k = 1 ∨ k = 2 ∨ k = 3 ∨ k = 4 ∨ k = 5 ∨ k = 6 ∨ k = 7 ∨ k = 8 ∨ k = 9 ∨ k = 10 ∨ k = 11 ∨ k = 12 ∨ k = 13 ∨ k = 14 ∨ k = 15 ∨ k = 16 ∨ k = 17 ∨ k = 18 ∨ k = 19 by omega) with rfl | rfl | rfl | rfl | rfl | rfl | rfl | rfl | rfl | rfl | rfl | rfl | rfl | rfl | rfl | rfl | rfl | rfl | rfl | rfl <;> decide
    have e3 : ck (S.1 63 10 + nI k) 1040 = true := by rw [h, nI_add]; exact ck_nI (by omega) (by omega)
    rw [show n + (d + 1) + 1 = (n + d + 1) + 1 by omega, fX12_feed_60_s, if_neg e1, gd_t e2, gd_t e3, sI_e, show nI k + (1 : Int32) = nI (k + 1) from nI_add k 1]
    exact ih (k + 1) n _ (by omega) (by rw [rdI, if_neg (by decide)]; exact h)
theorem c1_0 (a1 a2 a3 a4 a5 : Int32) : okb (fc_0 1000 a1 a2 a3 a4 a5 S0) = true := by
  have z : S0.1 1 1 = nI 0 := rfl
  obtain ⟨S1, e1, b1, c1, -⟩ := addFour_ok 1000 1 a1 S0 0 z (by omega)
  obtain ⟨S2, e2, b2, c2, -⟩ := addFour_ok 1000 1 a2 S1 4 b1 (by omega)
  obtain ⟨S3, e3, b3, c3, -⟩ := addFour_ok 1000 1 a3 S2 8 b2 (by omega)
  obtain ⟨S4, e4, b4, c4, -⟩ := addFour_ok 1000 1 a4 S3 12 b3 (by omega)
  obtain ⟨S5, e5, b5, c5, -⟩ := addFour_ok 1000 1 a5 S4 16 b4 (by omega)
  have t5 : S5.1 63 = S0.1 63 := by rw [c5 63 (by decide) (by decide), c4 63 (by decide) (by decide), c3 63 (by decide) (by decide), c2 63 (by decide) (by decide), c1 63 (by decide) (by decide)]
  have hA : fX11_feed 1000 a1 a2 a3 a4 a5 S0 = some (S5, nI 20) := by
    unfold fX11_feed
    rw [show fX0_size 1000 1 S0 = some (S0, nI 0) from rfl, bdS, if_pos (show nI 0 + (20 : Int32) ≤ (1000 : Int32) by decide), bd_e e1, bd_e e2, bd_e e3, bd_e e4, bd_e e5]
    show bd (some (S5, S5.1 1 1)) _ = _
    rw [bdS, b5]
  have hB : ∃ S', fX12_feed 1000 a1 a2 a3 a4 a5 S5 = some (S', nI 20) := by
    unfold fX12_feed
    rw [sI_e, if_pos (show (wI 63 0 (0 : Int32) S5).1 63 10 + (20 : Int32) ≤ (1000 : Int32) by rw [rdI, if_pos rfl, if_neg (by decide), t5]; decide)]
    rw [gd_t (by decide), sI_e, gd_t (by decide), sI_e, gd_t (by decide), sI_e, gd_t (by decide), sI_e, gd_t (by decide), sI_e]
    refine feed12_ok 1000 0 (by omega) 20 0 979 _ rfl ?_
    rw [rdI, if_neg (by decide), rdI, if_neg (by decide), rdI, if_neg (by decide), rdI, if_neg (by decide), rdI, if_neg (by decide), rdI, if_pos rfl, if_neg (by decide), t5]
    rfl
  obtain ⟨S6, hB⟩ := hB
  unfold fc_0
  rw [bd_e hA, bd_e hB, if_pos rfl]
  rfl
theorem c1_1a (a1 a2 a3 a4 a5 : Int32) (h : a1 < 0) : okb (fc_1 1000 (a1) (a2) (a3) (a4) (a5) S0) = true := by
  simp [fc_1, fX11_end, fX0_cutTo, fX12_end, bdS, gdt, bx0, bc0, bx1, bc1, bx2, bc2, bx3, bc3, bx4, bc4, bx5, bc5, sI_e, sJ_e, rdI, rdJ, rI2, rJ1, S0r, S0r2, okS, isB_0, isB_1, lg_self, tn0, fX12_thrown, ck_0_1, ck_0_4, ck_0_5, ck_0_12, ck_0_10, ck_0_300, h]
theorem c1_1b (a1 a2 a3 a4 a5 : Int32) (h : ¬ a1 < 0)  (h2 : a1 ≤ 0) : okb (fc_1 1000 (a1) (a2) (a3) (a4) (a5) S0) = true := by
  simp [fc_1, fX11_end, fX0_cutTo, fX12_end, bdS, gdt, bx0, bc0, bx1, bc1, bx2, bc2, bx3, bc3, bx4, bc4, bx5, bc5, sI_e, sJ_e, rdI, rdJ, rI2, rJ1, S0r, S0r2, okS, isB_0, isB_1, lg_self, tn0, fX12_thrown, ck_0_1, ck_0_4, ck_0_5, ck_0_12, ck_0_10, ck_0_300, h, h2]
theorem c1_1c (a1 a2 a3 a4 a5 : Int32) (h : ¬ a1 < 0)  (h2 : ¬ a1 ≤ 0) : okb (fc_1 1000 (a1) (a2) (a3) (a4) (a5) S0) = true := by
  simp [fc_1, fX11_end, fX0_cutTo, fX12_end, bdS, gdt, bx0, bc0, bx1, bc1, bx2, bc2, bx3, bc3, bx4, bc4, bx5, bc5, sI_e, sJ_e, rdI, rdJ, rI2, rJ1, S0r, S0r2, okS, isB_0, isB_1, lg_self, tn0, fX12_thrown, ck_0_1, ck_0_4, ck_0_5, ck_0_12, ck_0_10, ck_0_300, h, h2]
theorem c1_2a (a1 a2 a3 a4 a5 : Int32) (h : a1 < 0) : okb (fc_2 1000 (a1) (a2) (a3) (a4) (a5) S0) = true := by
  simp [fc_2, fX11_turn, fX0_set, fX12_turn, bdS, gdt, bx0, bc0, bx1, bc1, bx2, bc2, bx3, bc3, bx4, bc4, bx5, bc5, sI_e, sJ_e, rdI, rdJ, rI2, rJ1, S0r, S0r2, okS, isB_0, isB_1, lg_self, tn0, fX12_thrown, ck_0_1, ck_0_4, ck_0_5, ck_0_12, ck_0_10, ck_0_300, h]
theorem c1_2b (a1 a2 a3 a4 a5 : Int32) (h : ¬ a1 < 0) : okb (fc_2 1000 (a1) (a2) (a3) (a4) (a5) S0) = true := by
  simp [fc_2, fX11_turn, fX0_set, fX12_turn, bdS, gdt, bx0, bc0, bx1, bc1, bx2, bc2, bx3, bc3, bx4, bc4, bx5, bc5, sI_e, sJ_e, rdI, rdJ, rI2, rJ1, S0r, S0r2, okS, isB_0, isB_1, lg_self, tn0, fX12_thrown, ck_0_1, ck_0_4, ck_0_5, ck_0_12, ck_0_10, ck_0_300, h]
theorem c1_3 (a1 a2 a3 a4 a5 : Int32) : okb (fc_3 1000 a1 a2 a3 a4 a5 S0) = true := by
  have h : fc_3 1000 a1 a2 a3 a4 a5 S0 = fc_3 1000 0 0 0 0 0 S0 := by simp only [fc_3, fc_3_332]
  rw [h]; decide +kernel
theorem c1_4a (a1 a2 a3 a4 a5 : Int32) (h : a1 < 0) : okb (fc_4 1000 (a1) (a2) (a3) (a4) (a5) S0) = true := by
  simp [fc_4, fc_4_400, fL_look, fX11_look, fX12_look, fX11_needName, fX3_has, fX12_noName, fX12_noName_12, fX12_throwsIf, bdS, gdt, bx0, bc0, bx1, bc1, bx2, bc2, bx3, bc3, bx4, bc4, bx5, bc5, sI_e, sJ_e, rdI, rdJ, rI2, rJ1, S0r, S0r2, okS, isB_0, isB_1, lg_self, tn0, fX12_thrown, ck_0_1, ck_0_4, ck_0_5, ck_0_12, ck_0_10, ck_0_300, h]
theorem c1_4b (a1 a2 a3 a4 a5 : Int32) (h : ¬ a1 < 0)  (h2 : (1 : Int32) ≤ a1)  (h3 : ¬ a1 < 1) : okb (fc_4 1000 (a1) (a2) (a3) (a4) (a5) S0) = true := by
  simp [fc_4, fc_4_400, fL_look, fX11_look, fX12_look, fX11_needName, fX3_has, fX12_noName, fX12_noName_12, fX12_throwsIf, bdS, gdt, bx0, bc0, bx1, bc1, bx2, bc2, bx3, bc3, bx4, bc4, bx5, bc5, sI_e, sJ_e, rdI, rdJ, rI2, rJ1, S0r, S0r2, okS, isB_0, isB_1, lg_self, tn0, fX12_thrown, ck_0_1, ck_0_4, ck_0_5, ck_0_12, ck_0_10, ck_0_300, h, h2, h3]
theorem c1_4z0 (a1 a2 a3 a4 a5 : Int32) : okb (fc_4 1000 (0) (0) (a3) (a4) (a5) S0) = true := by
  have h : fc_4 1000 (0) (0) (a3) (a4) (a5) S0 = fc_4 1000 (0) (0) (0) (0) (0) S0 := by simp only [fc_4, fc_4_400]
  rw [h]; decide +kernel
theorem c1_4z1 (a1 a2 a3 a4 a5 : Int32) : okb (fc_4 1000 (0) (1) (a3) (a4) (a5) S0) = true := by
  have h : fc_4 1000 (0) (1) (a3) (a4) (a5) S0 = fc_4 1000 (0) (1) (0) (0) (0) S0 := by simp only [fc_4, fc_4_400]
  rw [h]; decide +kernel
theorem c1_4z2 (a1 a2 a3 a4 a5 : Int32) : okb (fc_4 1000 (0) (2) (a3) (a4) (a5) S0) = true := by
  have h : fc_4 1000 (0) (2) (a3) (a4) (a5) S0 = fc_4 1000 (0) (2) (0) (0) (0) S0 := by simp only [fc_4, fc_4_400]
  rw [h]; decide +kernel
theorem c1_4y (a1 a2 a3 a4 a5 : Int32) (h : ¬ a2 = 0)  (h2 : ¬ a2 = 1)  (h3 : ¬ a2 = 2) : okb (fc_4 1000 (0) (a2) (a3) (a4) (a5) S0) = true := by
  simp [fc_4, fc_4_400, fL_look, fX11_look, fX12_look, fX11_needName, fX3_has, fX12_noName, fX12_noName_12, fX12_throwsIf, bdS, gdt, bx0, bc0, bx1, bc1, bx2, bc2, bx3, bc3, bx4, bc4, bx5, bc5, sI_e, sJ_e, rdI, rdJ, rI2, rJ1, S0r, S0r2, okS, isB_0, isB_1, lg_self, tn0, fX12_thrown, ck_0_1, ck_0_4, ck_0_5, ck_0_12, ck_0_10, ck_0_300, h, h2, h3]
theorem c1_5a (a1 a2 a3 a4 a5 : Int32) (h : a1 < 0) : okb (fc_5 1000 (a1) (a2) (a3) (a4) (a5) S0) = true := by
  simp [fc_5, fc_5_468, fL_text, fX11_text, fX12_text, fX11_needName, fX3_has, fX12_noName, fX12_noName_12, fX12_throwsIf, bdS, gdt, bx0, bc0, bx1, bc1, bx2, bc2, bx3, bc3, bx4, bc4, bx5, bc5, sI_e, sJ_e, rdI, rdJ, rI2, rJ1, S0r, S0r2, okS, isB_0, isB_1, lg_self, tn0, fX12_thrown, ck_0_1, ck_0_4, ck_0_5, ck_0_12, ck_0_10, ck_0_300, h]
theorem c1_5b (a1 a2 a3 a4 a5 : Int32) (h : ¬ a1 < 0)  (h2 : (1 : Int32) ≤ a1)  (h3 : ¬ a1 < 1) : okb (fc_5 1000 (a1) (a2) (a3) (a4) (a5) S0) = true := by
  simp [fc_5, fc_5_468, fL_text, fX11_text, fX12_text, fX11_needName, fX3_has, fX12_noName, fX12_noName_12, fX12_throwsIf, bdS, gdt, bx0, bc0, bx1, bc1, bx2, bc2, bx3, bc3, bx4, bc4, bx5, bc5, sI_e, sJ_e, rdI, rdJ, rI2, rJ1, S0r, S0r2, okS, isB_0, isB_1, lg_self, tn0, fX12_thrown, ck_0_1, ck_0_4, ck_0_5, ck_0_12, ck_0_10, ck_0_300, h, h2, h3]
theorem c1_5z (a1 a2 a3 a4 a5 : Int32) : okb (fc_5 1000 (0) (0) (a3) (a4) (a5) S0) = true := by
  have h : fc_5 1000 (0) (0) (a3) (a4) (a5) S0 = fc_5 1000 (0) (0) (0) (0) (0) S0 := by simp only [fc_5, fc_5_468]
  rw [h]; decide +kernel
theorem c1_5x (a1 a2 a3 a4 a5 : Int32) (h : a2 < 0) : okb (fc_5 1000 (0) (a2) (a3) (a4) (a5) S0) = true := by
  simp [fc_5, fc_5_468, fL_text, fX11_text, fX12_text, fX3_textByte, fX3_textSize, fX12_textSize, fX11_needName, fX3_has, fX12_noName, fX12_noName_12, fX12_throwsIf, bdS, gdt, bx0, bc0, bx1, bc1, bx2, bc2, bx3, bc3, bx4, bc4, bx5, bc5, sI_e, sJ_e, rdI, rdJ, rI2, rJ1, S0r, S0r2, okS, isB_0, isB_1, lg_self, tn0, fX12_thrown, ck_0_1, ck_0_4, ck_0_5, ck_0_12, ck_0_10, ck_0_300, h]
theorem c1_5y (a1 a2 a3 a4 a5 : Int32) (h : ¬ a2 < 0)  (h2 : ¬ a2 < 1) : okb (fc_5 1000 (0) (a2) (a3) (a4) (a5) S0) = true := by
  simp [fc_5, fc_5_468, fL_text, fX11_text, fX12_text, fX3_textByte, fX3_textSize, fX12_textSize, fX11_needName, fX3_has, fX12_noName, fX12_noName_12, fX12_throwsIf, bdS, gdt, bx0, bc0, bx1, bc1, bx2, bc2, bx3, bc3, bx4, bc4, bx5, bc5, sI_e, sJ_e, rdI, rdJ, rI2, rJ1, S0r, S0r2, okS, isB_0, isB_1, lg_self, tn0, fX12_thrown, ck_0_1, ck_0_4, ck_0_5, ck_0_12, ck_0_10, ck_0_300, h, h2]
theorem c1_6a (a1 a2 a3 a4 a5 : Int32) (h : a1 < 0) : okb (fc_6 1000 (a1) (a2) (a3) (a4) (a5) S0) = true := by
  simp [fc_6, fc_6_536, fL_zone, fX11_zone, fX12_zone, fX11_needName, fX3_has, fX12_noName, fX12_noName_12, fX12_throwsIf, bdS, gdt, bx0, bc0, bx1, bc1, bx2, bc2, bx3, bc3, bx4, bc4, bx5, bc5, sI_e, sJ_e, rdI, rdJ, rI2, rJ1, S0r, S0r2, okS, isB_0, isB_1, lg_self, tn0, fX12_thrown, ck_0_1, ck_0_4, ck_0_5, ck_0_12, ck_0_10, ck_0_300, h]
theorem c1_6b (a1 a2 a3 a4 a5 : Int32) (h : ¬ a1 < 0)  (h2 : (1 : Int32) ≤ a1)  (h3 : ¬ a1 < 1) : okb (fc_6 1000 (a1) (a2) (a3) (a4) (a5) S0) = true := by
  simp [fc_6, fc_6_536, fL_zone, fX11_zone, fX12_zone, fX11_needName, fX3_has, fX12_noName, fX12_noName_12, fX12_throwsIf, bdS, gdt, bx0, bc0, bx1, bc1, bx2, bc2, bx3, bc3, bx4, bc4, bx5, bc5, sI_e, sJ_e, rdI, rdJ, rI2, rJ1, S0r, S0r2, okS, isB_0, isB_1, lg_self, tn0, fX12_thrown, ck_0_1, ck_0_4, ck_0_5, ck_0_12, ck_0_10, ck_0_300, h, h2, h3]
theorem oa0 (x : Int32) (S : St) (h : S.1 10 3 = 0) : fX10_ofApex 1000 x S = some (S, (-1 : Int32)) := by
  show fX10_ofApex_2 1000 (999 + 1) x 0 S = _
  rw [fX10_ofApex_2_s, h, if_pos (by decide)]
theorem zn0 (x1 x2 x3 : Int32) (S : St) (h : S.1 63 14 = 0) : fX12_zone_28 1000 1000 x1 x2 x3 0 S = if x3 = 0 then fX12_zone_74 1000 x1 x2 (1 : Int32) S else fX12_zone_74 1000 x1 x2 (0 : Int32) S := by
  show fX12_zone_28 1000 (999 + 1) x1 x2 x3 0 S = _
  rw [fX12_zone_28_s, h, if_pos (by decide)]
theorem sa0 (x : Int32) (S : St) (h : S.1 23 4 = 0) : fX7_ofAddress 1000 x S = some (S, (-1 : Int32)) := by
  show fX7_ofAddress_2 1000 (999 + 1) x 0 S = _
  rw [fX7_ofAddress_2_s, h, if_pos (by decide)]
theorem sv0 (x : Int32) (S : St) (h : S.1 63 23 = 0) : fX12_serverOf 1000 x S = some (S, (-1 : Int32)) := by
  show fX12_serverOf_4 1000 (999 + 1) x (-1) 0 S = _
  rw [fX12_serverOf_4_s, h, if_pos (by decide)]
theorem so0 (x y : Int32) (S : St) (h : S.1 42 6 = 0) : fX1_slotOf 1000 x y S = some (S, (-1 : Int32)) := by
  show fX1_slotOf_2 1000 (999 + 1) x y 0 S = _
  rw [fX1_slotOf_2_s, h, if_pos (by decide)]
theorem fi0 (x y : Int32) (S : St) (h : S.1 63 50 = 0) : fX12_find 1000 x y S = some (S, (-1 : Int32)) := by
  show fX12_find_5 1000 (999 + 1) x y (-1) 0 S = _
  rw [fX12_find_5_s, h, if_pos (by decide)]
theorem c1_6x (a1 a2 a3 a4 a5 : Int32) (h : a2 < 1) : okb (fc_6 1000 (0) (a2) (a3) (a4) (a5) S0) = true := by
  simp [fc_6, fc_6_536, fL_zone, fX11_zone, fX11_zone_24, fX12_zone, fX12_zone_74, fX12_zone_96, fX11_isLife, fX12_isLife, oa0, zn0, fX10_size, fX10_open, fX11_needName, fX3_has, fX12_noName, fX12_noName_12, fX12_throwsIf, bdS, gdt, bx0, bc0, bx1, bc1, bx2, bc2, bx3, bc3, bx4, bc4, bx5, bc5, sI_e, sJ_e, rdI, rdJ, rI2, rJ1, S0r, S0r2, okS, isB_0, isB_1, lg_self, tn0, fX12_thrown, ck_0_1, ck_0_4, ck_0_5, ck_0_12, ck_0_10, ck_0_300, h]
theorem c1_6y (a1 a2 a3 a4 a5 : Int32) (h : ¬ a2 < 1)  (h2 : 100000 < a2) : okb (fc_6 1000 (0) (a2) (a3) (a4) (a5) S0) = true := by
  simp [fc_6, fc_6_536, fL_zone, fX11_zone, fX11_zone_24, fX12_zone, fX12_zone_74, fX12_zone_96, fX11_isLife, fX12_isLife, oa0, zn0, fX10_size, fX10_open, fX11_needName, fX3_has, fX12_noName, fX12_noName_12, fX12_throwsIf, bdS, gdt, bx0, bc0, bx1, bc1, bx2, bc2, bx3, bc3, bx4, bc4, bx5, bc5, sI_e, sJ_e, rdI, rdJ, rI2, rJ1, S0r, S0r2, okS, isB_0, isB_1, lg_self, tn0, fX12_thrown, ck_0_1, ck_0_4, ck_0_5, ck_0_12, ck_0_10, ck_0_300, h, h2]
theorem c1_6z (a1 a2 a3 a4 a5 : Int32) (h : ¬ a2 < 1)  (h2 : ¬ 100000 < a2) : okb (fc_6 1000 (0) (a2) (a3) (a4) (a5) S0) = true := by
  simp [fc_6, fc_6_536, fL_zone, fX11_zone, fX11_zone_24, fX12_zone, fX12_zone_74, fX12_zone_96, fX11_isLife, fX12_isLife, oa0, zn0, fX10_size, fX10_open, fX11_needName, fX3_has, fX12_noName, fX12_noName_12, fX12_throwsIf, bdS, gdt, bx0, bc0, bx1, bc1, bx2, bc2, bx3, bc3, bx4, bc4, bx5, bc5, sI_e, sJ_e, rdI, rdJ, rI2, rJ1, S0r, S0r2, okS, isB_0, isB_1, lg_self, tn0, fX12_thrown, ck_0_1, ck_0_4, ck_0_5, ck_0_12, ck_0_10, ck_0_300, h, h2]
theorem c1_7a (a1 a2 a3 a4 a5 : Int32) (h : a1 < 0) : okb (fc_7 1000 (a1) (a2) (a3) (a4) (a5) S0) = true := by
  simp [fc_7, fc_7_640, fL_record, fX11_record, fX11_needZone, fX10_has, fX12_record, fX12_record_22, fX12_record_27, fX12_noZone, fX12_noZone_12, fX12_throwsIf, bdS, gdt, bx0, bc0, bx1, bc1, bx2, bc2, bx3, bc3, bx4, bc4, bx5, bc5, sI_e, sJ_e, rdI, rdJ, rI2, rJ1, S0r, S0r2, okS, isB_0, isB_1, lg_self, tn0, fX12_thrown, ck_0_1, ck_0_4, ck_0_5, ck_0_12, ck_0_10, ck_0_300, h]
theorem c1_8a (a1 a2 a3 a4 a5 : Int32) (h : a1 < 0) : okb (fc_8 1000 (a1) (a2) (a3) (a4) (a5) S0) = true := by
  simp [fc_8, fc_8_720, fL_drop, fX11_drop, fX11_needZone, fX10_has, fX12_drop, fX12_drop_22, fX12_drop_27, fX12_noZone, fX12_noZone_12, fX12_throwsIf, bdS, gdt, bx0, bc0, bx1, bc1, bx2, bc2, bx3, bc3, bx4, bc4, bx5, bc5, sI_e, sJ_e, rdI, rdJ, rI2, rJ1, S0r, S0r2, okS, isB_0, isB_1, lg_self, tn0, fX12_thrown, ck_0_1, ck_0_4, ck_0_5, ck_0_12, ck_0_10, ck_0_300, h]
theorem c1_7b (a1 a2 a3 a4 a5 : Int32) (h : ¬ a1 < 0)  (h2 : (0 : Int32) ≤ a1) : okb (fc_7 1000 (a1) (a2) (a3) (a4) (a5) S0) = true := by
  simp [fc_7, fc_7_640, fL_record, fX11_record, fX11_needZone, fX10_has, fX12_record, fX12_record_22, fX12_record_27, fX12_noZone, fX12_noZone_12, fX12_throwsIf, bdS, gdt, bx0, bc0, bx1, bc1, bx2, bc2, bx3, bc3, bx4, bc4, bx5, bc5, sI_e, sJ_e, rdI, rdJ, rI2, rJ1, S0r, S0r2, okS, isB_0, isB_1, lg_self, tn0, fX12_thrown, ck_0_1, ck_0_4, ck_0_5, ck_0_12, ck_0_10, ck_0_300, h, h2]
theorem c1_8b (a1 a2 a3 a4 a5 : Int32) (h : ¬ a1 < 0)  (h2 : (0 : Int32) ≤ a1) : okb (fc_8 1000 (a1) (a2) (a3) (a4) (a5) S0) = true := by
  simp [fc_8, fc_8_720, fL_drop, fX11_drop, fX11_needZone, fX10_has, fX12_drop, fX12_drop_22, fX12_drop_27, fX12_noZone, fX12_noZone_12, fX12_throwsIf, bdS, gdt, bx0, bc0, bx1, bc1, bx2, bc2, bx3, bc3, bx4, bc4, bx5, bc5, sI_e, sJ_e, rdI, rdJ, rI2, rJ1, S0r, S0r2, okS, isB_0, isB_1, lg_self, tn0, fX12_thrown, ck_0_1, ck_0_4, ck_0_5, ck_0_12, ck_0_10, ck_0_300, h, h2]
theorem c1_9 (a1 a2 a3 a4 a5 : Int32) : okb (fc_9 1000 (a1) (a2) (a3) (a4) (a5) S0) = true := by
  simp [fc_9, fc_9_776, fL_server, fX11_server, sa0, fX7_size, fX7_open, fX12_server, sv0, fX12_server_19, fX12_server_41, fX12_throwsIf, bdS, gdt, bx0, bc0, bx1, bc1, bx2, bc2, bx3, bc3, bx4, bc4, bx5, bc5, sI_e, sJ_e, rdI, rdJ, rI2, rJ1, S0r, S0r2, okS, isB_0, isB_1, lg_self, tn0, fX12_thrown, ck_0_1, ck_0_4, ck_0_5, ck_0_12, ck_0_10, ck_0_300]
theorem c1_10ap (a1 a2 a3 a4 a5 : Int32) (h : a1 < 0)  (g : a3 = 0) : okb (fc_10 1000 (a1) (a2) (a3) (a4) (a5) S0) = true := by
  simp [fc_10, fc_10_806, fc_10_839, fc_10_873, fc_10_879, fL_serve, fX11_serve, fX11_needServer, fX7_has, fX12_serve, fX12_serve_22, fX12_serve_27, fX12_noServer, fX12_noServer_12, fX12_throwsIf, bdS, gdt, bx0, bc0, bx1, bc1, bx2, bc2, bx3, bc3, bx4, bc4, bx5, bc5, sI_e, sJ_e, rdI, rdJ, rI2, rJ1, S0r, S0r2, okS, isB_0, isB_1, lg_self, tn0, fX12_thrown, ck_0_1, ck_0_4, ck_0_5, ck_0_12, ck_0_10, ck_0_300, h, g]
theorem c1_10aq (a1 a2 a3 a4 a5 : Int32) (h : a1 < 0)  (g : ¬ a3 = 0) : okb (fc_10 1000 (a1) (a2) (a3) (a4) (a5) S0) = true := by
  simp [fc_10, fc_10_806, fc_10_839, fc_10_873, fc_10_879, fL_serve, fX11_serve, fX11_needServer, fX7_has, fX12_serve, fX12_serve_22, fX12_serve_27, fX12_noServer, fX12_noServer_12, fX12_throwsIf, bdS, gdt, bx0, bc0, bx1, bc1, bx2, bc2, bx3, bc3, bx4, bc4, bx5, bc5, sI_e, sJ_e, rdI, rdJ, rI2, rJ1, S0r, S0r2, okS, isB_0, isB_1, lg_self, tn0, fX12_thrown, ck_0_1, ck_0_4, ck_0_5, ck_0_12, ck_0_10, ck_0_300, h, g]
theorem c1_11a (a1 a2 a3 a4 a5 : Int32) (h : a1 < 0) : okb (fc_11 1000 (a1) (a2) (a3) (a4) (a5) S0) = true := by
  simp [fc_11, fc_11_959, fL_say, fX11_say, fX11_needServer, fX7_has, fX12_say, fX12_say_22, fX12_say_27, fX12_noServer, fX12_noServer_12, fX12_throwsIf, bdS, gdt, bx0, bc0, bx1, bc1, bx2, bc2, bx3, bc3, bx4, bc4, bx5, bc5, sI_e, sJ_e, rdI, rdJ, rI2, rJ1, S0r, S0r2, okS, isB_0, isB_1, lg_self, tn0, fX12_thrown, ck_0_1, ck_0_4, ck_0_5, ck_0_12, ck_0_10, ck_0_300, h]
theorem c1_13a (a1 a2 a3 a4 a5 : Int32) (h : a1 < 0) : okb (fc_13 1000 (a1) (a2) (a3) (a4) (a5) S0) = true := by
  simp [fc_13, fc_13_1040, fL_parsed, fX11_parsed, fX5_has, fX12_parsed, fX12_parsed_27, fX12_parsed_32, fX12_throwsIf, bdS, gdt, bx0, bc0, bx1, bc1, bx2, bc2, bx3, bc3, bx4, bc4, bx5, bc5, sI_e, sJ_e, rdI, rdJ, rI2, rJ1, S0r, S0r2, okS, isB_0, isB_1, lg_self, tn0, fX12_thrown, ck_0_1, ck_0_4, ck_0_5, ck_0_12, ck_0_10, ck_0_300, h]
theorem c1_10bp (a1 a2 a3 a4 a5 : Int32) (h : ¬ a1 < 0)  (h2 : (0 : Int32) ≤ a1)  (g : a3 = 0) : okb (fc_10 1000 (a1) (a2) (a3) (a4) (a5) S0) = true := by
  simp [fc_10, fc_10_806, fc_10_839, fc_10_873, fc_10_879, fL_serve, fX11_serve, fX11_needServer, fX7_has, fX12_serve, fX12_serve_22, fX12_serve_27, fX12_noServer, fX12_noServer_12, fX12_throwsIf, bdS, gdt, bx0, bc0, bx1, bc1, bx2, bc2, bx3, bc3, bx4, bc4, bx5, bc5, sI_e, sJ_e, rdI, rdJ, rI2, rJ1, S0r, S0r2, okS, isB_0, isB_1, lg_self, tn0, fX12_thrown, ck_0_1, ck_0_4, ck_0_5, ck_0_12, ck_0_10, ck_0_300, h, h2, g]
theorem c1_10bq (a1 a2 a3 a4 a5 : Int32) (h : ¬ a1 < 0)  (h2 : (0 : Int32) ≤ a1)  (g : ¬ a3 = 0) : okb (fc_10 1000 (a1) (a2) (a3) (a4) (a5) S0) = true := by
  simp [fc_10, fc_10_806, fc_10_839, fc_10_873, fc_10_879, fL_serve, fX11_serve, fX11_needServer, fX7_has, fX12_serve, fX12_serve_22, fX12_serve_27, fX12_noServer, fX12_noServer_12, fX12_throwsIf, bdS, gdt, bx0, bc0, bx1, bc1, bx2, bc2, bx3, bc3, bx4, bc4, bx5, bc5, sI_e, sJ_e, rdI, rdJ, rI2, rJ1, S0r, S0r2, okS, isB_0, isB_1, lg_self, tn0, fX12_thrown, ck_0_1, ck_0_4, ck_0_5, ck_0_12, ck_0_10, ck_0_300, h, h2, g]
theorem c1_11b (a1 a2 a3 a4 a5 : Int32) (h : ¬ a1 < 0)  (h2 : (0 : Int32) ≤ a1) : okb (fc_11 1000 (a1) (a2) (a3) (a4) (a5) S0) = true := by
  simp [fc_11, fc_11_959, fL_say, fX11_say, fX11_needServer, fX7_has, fX12_say, fX12_say_22, fX12_say_27, fX12_noServer, fX12_noServer_12, fX12_throwsIf, bdS, gdt, bx0, bc0, bx1, bc1, bx2, bc2, bx3, bc3, bx4, bc4, bx5, bc5, sI_e, sJ_e, rdI, rdJ, rI2, rJ1, S0r, S0r2, okS, isB_0, isB_1, lg_self, tn0, fX12_thrown, ck_0_1, ck_0_4, ck_0_5, ck_0_12, ck_0_10, ck_0_300, h, h2]
theorem c1_13b (a1 a2 a3 a4 a5 : Int32) (h : ¬ a1 < 0)  (h2 : (0 : Int32) ≤ a1) : okb (fc_13 1000 (a1) (a2) (a3) (a4) (a5) S0) = true := by
  simp [fc_13, fc_13_1040, fL_parsed, fX11_parsed, fX5_has, fX12_parsed, fX12_parsed_27, fX12_parsed_32, fX12_throwsIf, bdS, gdt, bx0, bc0, bx1, bc1, bx2, bc2, bx3, bc3, bx4, bc4, bx5, bc5, sI_e, sJ_e, rdI, rdJ, rI2, rJ1, S0r, S0r2, okS, isB_0, isB_1, lg_self, tn0, fX12_thrown, ck_0_1, ck_0_4, ck_0_5, ck_0_12, ck_0_10, ck_0_300, h, h2]
theorem c1_12 (a1 a2 a3 a4 a5 : Int32) : okb (fc_12 1000 a1 a2 a3 a4 a5 S0) = true := by
  have h : fc_12 1000 a1 a2 a3 a4 a5 S0 = fc_12 1000 0 0 0 0 0 S0 := by simp only [fc_12]
  rw [h]; decide +kernel
theorem c1_14 (a1 a2 a3 a4 a5 : Int32) : okb (fc_14 1000 (a1) (a2) (a3) (a4) (a5) S0) = true := by
  simp [fc_14, fX11_hint, fX6_addHint, fX12_hint, bdS, gdt, bx0, bc0, bx1, bc1, bx2, bc2, bx3, bc3, bx4, bc4, bx5, bc5, sI_e, sJ_e, rdI, rdJ, rI2, rJ1, S0r, S0r2, okS, isB_0, isB_1, lg_self, tn0, fX12_thrown, ck_0_1, ck_0_4, ck_0_5, ck_0_12, ck_0_10, ck_0_300]
theorem c1_15a (a1 a2 a3 a4 a5 : Int32) (h : a1 < 0) : okb (fc_15 1000 (a1) (a2) (a3) (a4) (a5) S0) = true := by
  simp [fc_15, fc_15_1121, fL_tick, fX11_tick, fX11_tick_11, fX1_goOn, fX12_tick, fX12_tick_16, fX12_tick_21, fX12_throwsIf, bdS, gdt, bx0, bc0, bx1, bc1, bx2, bc2, bx3, bc3, bx4, bc4, bx5, bc5, sI_e, sJ_e, rdI, rdJ, rI2, rJ1, S0r, S0r2, okS, isB_0, isB_1, lg_self, tn0, fX12_thrown, ck_0_1, ck_0_4, ck_0_5, ck_0_12, ck_0_10, ck_0_300, h]
theorem c1_15b (a1 a2 a3 a4 a5 : Int32) (h : ¬ a1 < 0)  (h2 : a1 ≤ 100000) : okb (fc_15 1000 (a1) (a2) (a3) (a4) (a5) S0) = true := by
  simp [fc_15, fc_15_1121, fL_tick, fX11_tick, fX11_tick_11, fX1_goOn, fX12_tick, fX12_tick_16, fX12_tick_21, fX12_throwsIf, bdS, gdt, bx0, bc0, bx1, bc1, bx2, bc2, bx3, bc3, bx4, bc4, bx5, bc5, sI_e, sJ_e, rdI, rdJ, rI2, rJ1, S0r, S0r2, okS, isB_0, isB_1, lg_self, tn0, fX12_thrown, ck_0_1, ck_0_4, ck_0_5, ck_0_12, ck_0_10, ck_0_300, h, h2]
theorem c1_15c (a1 a2 a3 a4 a5 : Int32) (h : ¬ a1 < 0)  (h2 : ¬ a1 ≤ 100000) : okb (fc_15 1000 (a1) (a2) (a3) (a4) (a5) S0) = true := by
  simp [fc_15, fc_15_1121, fL_tick, fX11_tick, fX11_tick_11, fX1_goOn, fX12_tick, fX12_tick_16, fX12_tick_21, fX12_throwsIf, bdS, gdt, bx0, bc0, bx1, bc1, bx2, bc2, bx3, bc3, bx4, bc4, bx5, bc5, sI_e, sJ_e, rdI, rdJ, rI2, rJ1, S0r, S0r2, okS, isB_0, isB_1, lg_self, tn0, fX12_thrown, ck_0_1, ck_0_4, ck_0_5, ck_0_12, ck_0_10, ck_0_300, h, h2]
theorem c1_16a (a1 a2 a3 a4 a5 : Int32) (h : a1 < 0) : okb (fc_16 1000 (a1) (a2) (a3) (a4) (a5) S0) = true := by
  simp [fc_16, fc_16_1189, fL_ask, fX11_ask, fX12_ask, fX11_needName, fX3_has, fX12_noName, fX12_noName_12, fX12_throwsIf, bdS, gdt, bx0, bc0, bx1, bc1, bx2, bc2, bx3, bc3, bx4, bc4, bx5, bc5, sI_e, sJ_e, rdI, rdJ, rI2, rJ1, S0r, S0r2, okS, isB_0, isB_1, lg_self, tn0, fX12_thrown, ck_0_1, ck_0_4, ck_0_5, ck_0_12, ck_0_10, ck_0_300, h]
theorem c1_16b (a1 a2 a3 a4 a5 : Int32) (h : ¬ a1 < 0)  (h2 : (1 : Int32) ≤ a1)  (h3 : ¬ a1 < 1) : okb (fc_16 1000 (a1) (a2) (a3) (a4) (a5) S0) = true := by
  simp [fc_16, fc_16_1189, fL_ask, fX11_ask, fX12_ask, fX11_needName, fX3_has, fX12_noName, fX12_noName_12, fX12_throwsIf, bdS, gdt, bx0, bc0, bx1, bc1, bx2, bc2, bx3, bc3, bx4, bc4, bx5, bc5, sI_e, sJ_e, rdI, rdJ, rI2, rJ1, S0r, S0r2, okS, isB_0, isB_1, lg_self, tn0, fX12_thrown, ck_0_1, ck_0_4, ck_0_5, ck_0_12, ck_0_10, ck_0_300, h, h2, h3]
theorem c1_16z1 (a1 a2 a3 a4 a5 : Int32) : okb (fc_16 1000 (0) (1) (a3) (a4) (a5) S0) = true := by
  have h : fc_16 1000 (0) (1) (a3) (a4) (a5) S0 = fc_16 1000 (0) (1) (0) (0) (0) S0 := by simp only [fc_16, fc_16_1189]
  rw [h]; decide +kernel
theorem c1_16z2 (a1 a2 a3 a4 a5 : Int32) : okb (fc_16 1000 (0) (2) (a3) (a4) (a5) S0) = true := by
  have h : fc_16 1000 (0) (2) (a3) (a4) (a5) S0 = fc_16 1000 (0) (2) (0) (0) (0) S0 := by simp only [fc_16, fc_16_1189]
  rw [h]; decide +kernel
theorem c1_16z5 (a1 a2 a3 a4 a5 : Int32) : okb (fc_16 1000 (0) (5) (a3) (a4) (a5) S0) = true := by
  have h : fc_16 1000 (0) (5) (a3) (a4) (a5) S0 = fc_16 1000 (0) (5) (0) (0) (0) S0 := by simp only [fc_16, fc_16_1189]
  rw [h]; decide +kernel
theorem c1_16z16 (a1 a2 a3 a4 a5 : Int32) : okb (fc_16 1000 (0) (16) (a3) (a4) (a5) S0) = true := by
  have h : fc_16 1000 (0) (16) (a3) (a4) (a5) S0 = fc_16 1000 (0) (16) (0) (0) (0) S0 := by simp only [fc_16, fc_16_1189]
  rw [h]; decide +kernel
theorem c1_16y (a1 a2 a3 a4 a5 : Int32) (h : ¬ a2 = 1)  (h2 : ¬ a2 = 2)  (h3 : ¬ a2 = 5)  (h4 : ¬ a2 = 16) : okb (fc_16 1000 (0) (a2) (a3) (a4) (a5) S0) = true := by
  simp [fc_16, fc_16_1189, fL_ask, fX11_ask, fX12_ask, fX12_ask_32, fX12_ask_52, fX6_state, fX11_isKept, fX12_isType, fX11_needName, fX3_has, fX12_noName, fX12_noName_12, fX12_throwsIf, bdS, gdt, bx0, bc0, bx1, bc1, bx2, bc2, bx3, bc3, bx4, bc4, bx5, bc5, sI_e, sJ_e, rdI, rdJ, rI2, rJ1, S0r, S0r2, okS, isB_0, isB_1, lg_self, tn0, fX12_thrown, ck_0_1, ck_0_4, ck_0_5, ck_0_12, ck_0_10, ck_0_300, h, h2, h3, h4]
theorem c1_17 (a1 a2 a3 a4 a5 : Int32) : okb (fc_17 1000 a1 a2 a3 a4 a5 S0) = true := by
  have h : fc_17 1000 a1 a2 a3 a4 a5 S0 = fc_17 1000 0 0 0 0 0 S0 := by simp only [fc_17_1233, fc_17]
  rw [h]; decide +kernel
theorem c1_18 (a1 a2 a3 a4 a5 : Int32) : okb (fc_18 1000 a1 a2 a3 a4 a5 S0) = true := by
  have h : fc_18 1000 a1 a2 a3 a4 a5 S0 = fc_18 1000 0 0 0 0 0 S0 := by simp only [fc_18_1277, fc_18]
  rw [h]; decide +kernel
theorem c1_19 (a1 a2 a3 a4 a5 : Int32) : okb (fc_19 1000 a1 a2 a3 a4 a5 S0) = true := by
  have h : fc_19 1000 a1 a2 a3 a4 a5 S0 = fc_19 1000 0 0 0 0 0 S0 := by simp only [fc_19_1321, fc_19]
  rw [h]; decide +kernel
theorem c1_20 (a1 a2 a3 a4 a5 : Int32) : okb (fc_20 1000 (a1) (a2) (a3) (a4) (a5) S0) = true := by
  simp [fc_20_1377, fc_20, fL_query, fX11_query, fX11_needQuery, fX6_isWaiting, fX12_query, fX12_query_18, fX12_throwsIf, bdS, gdt, bx0, bc0, bx1, bc1, bx2, bc2, bx3, bc3, bx4, bc4, bx5, bc5, sI_e, sJ_e, rdI, rdJ, rI2, rJ1, S0r, S0r2, okS, isB_0, isB_1, lg_self, tn0, fX12_thrown, ck_0_1, ck_0_4, ck_0_5, ck_0_12, ck_0_10, ck_0_300]
theorem c1_21z0 (a1 a2 a3 a4 a5 : Int32) : okb (fc_21 1000 (0) (a2) (a3) (a4) (a5) S0) = true := by
  have h : fc_21 1000 (0) (a2) (a3) (a4) (a5) S0 = fc_21 1000 (0) (0) (0) (0) (0) S0 := by simp only [fc_21_1433, fc_21]
  rw [h]; decide +kernel
theorem c1_21z1 (a1 a2 a3 a4 a5 : Int32) : okb (fc_21 1000 (1) (a2) (a3) (a4) (a5) S0) = true := by
  have h : fc_21 1000 (1) (a2) (a3) (a4) (a5) S0 = fc_21 1000 (1) (0) (0) (0) (0) S0 := by simp only [fc_21_1433, fc_21]
  rw [h]; decide +kernel
theorem c1_21z2 (a1 a2 a3 a4 a5 : Int32) : okb (fc_21 1000 (2) (a2) (a3) (a4) (a5) S0) = true := by
  have h : fc_21 1000 (2) (a2) (a3) (a4) (a5) S0 = fc_21 1000 (2) (0) (0) (0) (0) S0 := by simp only [fc_21_1433, fc_21]
  rw [h]; decide +kernel
theorem c1_21z3 (a1 a2 a3 a4 a5 : Int32) : okb (fc_21 1000 (3) (a2) (a3) (a4) (a5) S0) = true := by
  have h : fc_21 1000 (3) (a2) (a3) (a4) (a5) S0 = fc_21 1000 (3) (0) (0) (0) (0) S0 := by simp only [fc_21_1433, fc_21]
  rw [h]; decide +kernel
theorem c1_21z4 (a1 a2 a3 a4 a5 : Int32) : okb (fc_21 1000 (4) (a2) (a3) (a4) (a5) S0) = true := by
  have h : fc_21 1000 (4) (a2) (a3) (a4) (a5) S0 = fc_21 1000 (4) (0) (0) (0) (0) S0 := by simp only [fc_21_1433, fc_21]
  rw [h]; decide +kernel
theorem c1_21y (a1 a2 a3 a4 a5 : Int32) (h0 : ¬ a1 = 0)  (h1 : ¬ a1 = 1)  (h2 : ¬ a1 = 2)  (h3 : ¬ a1 = 3)  (h4 : ¬ a1 = 4) : okb (fc_21 1000 (a1) (a2) (a3) (a4) (a5) S0) = true := by
  simp [fc_21_1433, fc_21, fL_result, fX11_result, fX12_result, bdS, gdt, bx0, bc0, bx1, bc1, bx2, bc2, bx3, bc3, bx4, bc4, bx5, bc5, sI_e, sJ_e, rdI, rdJ, rI2, rJ1, S0r, S0r2, okS, isB_0, isB_1, lg_self, tn0, fX12_thrown, ck_0_1, ck_0_4, ck_0_5, ck_0_12, ck_0_10, ck_0_300, h0, h1, h2, h3, h4]
theorem c1_22a (a1 a2 a3 a4 a5 : Int32) (h : a1 < 0) : okb (fc_22 1000 (a1) (a2) (a3) (a4) (a5) S0) = true := by
  simp [fc_22, fX11_data, fX6_found, fX12_data, fX12_data_24, bdS, gdt, bx0, bc0, bx1, bc1, bx2, bc2, bx3, bc3, bx4, bc4, bx5, bc5, sI_e, sJ_e, rdI, rdJ, rI2, rJ1, S0r, S0r2, okS, isB_0, isB_1, lg_self, tn0, fX12_thrown, ck_0_1, ck_0_4, ck_0_5, ck_0_12, ck_0_10, ck_0_300, h]
theorem c1_22b (a1 a2 a3 a4 a5 : Int32) (h : ¬ a1 < 0)  (h2 : (0 : Int32) ≤ a1) : okb (fc_22 1000 (a1) (a2) (a3) (a4) (a5) S0) = true := by
  simp [fc_22, fX11_data, fX6_found, fX12_data, fX12_data_24, bdS, gdt, bx0, bc0, bx1, bc1, bx2, bc2, bx3, bc3, bx4, bc4, bx5, bc5, sI_e, sJ_e, rdI, rdJ, rI2, rJ1, S0r, S0r2, okS, isB_0, isB_1, lg_self, tn0, fX12_thrown, ck_0_1, ck_0_4, ck_0_5, ck_0_12, ck_0_10, ck_0_300, h, h2]
theorem c1_23a (a1 a2 a3 a4 a5 : Int32) (h : a1 < 0) : okb (fc_23 1000 (a1) (a2) (a3) (a4) (a5) S0) = true := by
  simp [fc_23_1526, fc_23, fL_cached, fX11_cached, fX12_cached, fX11_needName, fX3_has, fX12_noName, fX12_noName_12, fX12_throwsIf, bdS, gdt, bx0, bc0, bx1, bc1, bx2, bc2, bx3, bc3, bx4, bc4, bx5, bc5, sI_e, sJ_e, rdI, rdJ, rI2, rJ1, S0r, S0r2, okS, isB_0, isB_1, lg_self, tn0, fX12_thrown, ck_0_1, ck_0_4, ck_0_5, ck_0_12, ck_0_10, ck_0_300, h]
theorem c1_23b (a1 a2 a3 a4 a5 : Int32) (h : ¬ a1 < 0)  (h2 : (1 : Int32) ≤ a1)  (h3 : ¬ a1 < 1) : okb (fc_23 1000 (a1) (a2) (a3) (a4) (a5) S0) = true := by
  simp [fc_23_1526, fc_23, fL_cached, fX11_cached, fX12_cached, fX11_needName, fX3_has, fX12_noName, fX12_noName_12, fX12_throwsIf, bdS, gdt, bx0, bc0, bx1, bc1, bx2, bc2, bx3, bc3, bx4, bc4, bx5, bc5, sI_e, sJ_e, rdI, rdJ, rI2, rJ1, S0r, S0r2, okS, isB_0, isB_1, lg_self, tn0, fX12_thrown, ck_0_1, ck_0_4, ck_0_5, ck_0_12, ck_0_10, ck_0_300, h, h2, h3]
theorem c1_23y (a1 a2 a3 a4 a5 : Int32) : okb (fc_23 1000 (0) (a2) (a3) (a4) (a5) S0) = true := by
  simp [fc_23_1526, fc_23, fL_cached, fX11_cached, fX12_cached, fX1_held, so0, fi0, fX11_needName, fX3_has, fX12_noName, fX12_noName_12, fX12_throwsIf, bdS, gdt, bx0, bc0, bx1, bc1, bx2, bc2, bx3, bc3, bx4, bc4, bx5, bc5, sI_e, sJ_e, rdI, rdJ, rI2, rJ1, S0r, S0r2, okS, isB_0, isB_1, lg_self, tn0, fX12_thrown, ck_0_1, ck_0_4, ck_0_5, ck_0_12, ck_0_10, ck_0_300]
theorem c1_24z0 (a1 a2 a3 a4 a5 : Int32) : okb (fc_24 1000 (0) (a2) (a3) (a4) (a5) S0) = true := by
  have h : fc_24 1000 (0) (a2) (a3) (a4) (a5) S0 = fc_24 1000 (0) (0) (0) (0) (0) S0 := by simp only [fc_24]
  rw [h]; decide +kernel
theorem c1_24z1 (a1 a2 a3 a4 a5 : Int32) : okb (fc_24 1000 (1) (a2) (a3) (a4) (a5) S0) = true := by
  have h : fc_24 1000 (1) (a2) (a3) (a4) (a5) S0 = fc_24 1000 (1) (0) (0) (0) (0) S0 := by simp only [fc_24]
  rw [h]; decide +kernel
theorem c1_24z2 (a1 a2 a3 a4 a5 : Int32) : okb (fc_24 1000 (2) (a2) (a3) (a4) (a5) S0) = true := by
  have h : fc_24 1000 (2) (a2) (a3) (a4) (a5) S0 = fc_24 1000 (2) (0) (0) (0) (0) S0 := by simp only [fc_24]
  rw [h]; decide +kernel
theorem c1_24z3 (a1 a2 a3 a4 a5 : Int32) : okb (fc_24 1000 (3) (a2) (a3) (a4) (a5) S0) = true := by
  have h : fc_24 1000 (3) (a2) (a3) (a4) (a5) S0 = fc_24 1000 (3) (0) (0) (0) (0) S0 := by simp only [fc_24]
  rw [h]; decide +kernel
theorem c1_24z4 (a1 a2 a3 a4 a5 : Int32) : okb (fc_24 1000 (4) (a2) (a3) (a4) (a5) S0) = true := by
  have h : fc_24 1000 (4) (a2) (a3) (a4) (a5) S0 = fc_24 1000 (4) (0) (0) (0) (0) S0 := by simp only [fc_24]
  rw [h]; decide +kernel
theorem c1_24z5 (a1 a2 a3 a4 a5 : Int32) : okb (fc_24 1000 (5) (a2) (a3) (a4) (a5) S0) = true := by
  have h : fc_24 1000 (5) (a2) (a3) (a4) (a5) S0 = fc_24 1000 (5) (0) (0) (0) (0) S0 := by simp only [fc_24]
  rw [h]; decide +kernel
theorem c1_24z6 (a1 a2 a3 a4 a5 : Int32) : okb (fc_24 1000 (6) (a2) (a3) (a4) (a5) S0) = true := by
  have h : fc_24 1000 (6) (a2) (a3) (a4) (a5) S0 = fc_24 1000 (6) (0) (0) (0) (0) S0 := by simp only [fc_24]
  rw [h]; decide +kernel
theorem c1_24z7 (a1 a2 a3 a4 a5 : Int32) : okb (fc_24 1000 (7) (a2) (a3) (a4) (a5) S0) = true := by
  have h : fc_24 1000 (7) (a2) (a3) (a4) (a5) S0 = fc_24 1000 (7) (0) (0) (0) (0) S0 := by simp only [fc_24]
  rw [h]; decide +kernel
theorem c1_24z8 (a1 a2 a3 a4 a5 : Int32) : okb (fc_24 1000 (8) (a2) (a3) (a4) (a5) S0) = true := by
  have h : fc_24 1000 (8) (a2) (a3) (a4) (a5) S0 = fc_24 1000 (8) (0) (0) (0) (0) S0 := by simp only [fc_24]
  rw [h]; decide +kernel
theorem c1_24y (a1 a2 a3 a4 a5 : Int32) (h0 : ¬ a1 = 0)  (h1 : ¬ a1 = 1)  (h2 : ¬ a1 = 2)  (h3 : ¬ a1 = 3)  (h4 : ¬ a1 = 4)  (h5 : ¬ a1 = 5)  (h6 : ¬ a1 = 6)  (h7 : ¬ a1 = 7)  (h8 : ¬ a1 = 8) : okb (fc_24 1000 (a1) (a2) (a3) (a4) (a5) S0) = true := by
  simp [fc_24, fX11_count, fX12_count, bdS, gdt, bx0, bc0, bx1, bc1, bx2, bc2, bx3, bc3, bx4, bc4, bx5, bc5, sI_e, sJ_e, rdI, rdJ, rI2, rJ1, S0r, S0r2, okS, isB_0, isB_1, lg_self, tn0, fX12_thrown, ck_0_1, ck_0_4, ck_0_5, ck_0_12, ck_0_10, ck_0_300, h0, h1, h2, h3, h4, h5, h6, h7, h8]
theorem nn_of {x : Int32} (h : ¬ x < 0) (h0 : ¬ x = 0) : (1 : Int32) ≤ x ∧ ¬ x < 1 := by
  obtain ⟨i, hi, rfl⟩ := nI_of h
  have h1 : i ≠ 0 := fun e => h0 (by rw [e]; rfl)
  have h2 : (1 : Int32) ≤ nI i := (nI_leI (a := 1) (b := i) (by omega) hi).mpr (by omega)
  exact ⟨h2, Int32.not_lt.mpr h2⟩
theorem nz_of {x : Int32} (h : ¬ x < 0) : (0 : Int32) ≤ x := Int32.not_lt.mp h
theorem c1_1_all (a1 a2 a3 a4 a5 : Int32) : okb (fc_1 1000 a1 a2 a3 a4 a5 S0) = true := by
  by_cases h : a1 < 0
  · exact c1_1a a1 a2 a3 a4 a5 h
  by_cases h2 : a1 ≤ 0
  · exact c1_1b a1 a2 a3 a4 a5 h h2
  exact c1_1c a1 a2 a3 a4 a5 h h2
theorem c1_2_all (a1 a2 a3 a4 a5 : Int32) : okb (fc_2 1000 a1 a2 a3 a4 a5 S0) = true := by
  by_cases h : a1 < 0
  · exact c1_2a a1 a2 a3 a4 a5 h
  exact c1_2b a1 a2 a3 a4 a5 h
theorem c1_4_all (a1 a2 a3 a4 a5 : Int32) : okb (fc_4 1000 a1 a2 a3 a4 a5 S0) = true := by
  by_cases h : a1 < 0
  · exact c1_4a a1 a2 a3 a4 a5 h
  by_cases h0 : a1 = 0
  · subst h0
    by_cases e0 : a2 = 0
    · subst e0; exact c1_4z0 0 0 a3 a4 a5
    by_cases e1 : a2 = 1
    · subst e1; exact c1_4z1 0 0 a3 a4 a5
    by_cases e2 : a2 = 2
    · subst e2; exact c1_4z2 0 0 a3 a4 a5
    exact c1_4y 0 a2 a3 a4 a5 e0 e1 e2
  obtain ⟨h2, h3⟩ := nn_of h h0
  exact c1_4b a1 a2 a3 a4 a5 h h2 h3
theorem c1_5_all (a1 a2 a3 a4 a5 : Int32) : okb (fc_5 1000 a1 a2 a3 a4 a5 S0) = true := by
  by_cases h : a1 < 0
  · exact c1_5a a1 a2 a3 a4 a5 h
  by_cases h0 : a1 = 0
  · subst h0
    by_cases g : a2 < 0
    · exact c1_5x 0 a2 a3 a4 a5 g
    by_cases g0 : a2 = 0
    · subst g0; exact c1_5z 0 0 a3 a4 a5
    exact c1_5y 0 a2 a3 a4 a5 g (nn_of g g0).2
  obtain ⟨h2, h3⟩ := nn_of h h0
  exact c1_5b a1 a2 a3 a4 a5 h h2 h3
theorem c1_6_all (a1 a2 a3 a4 a5 : Int32) : okb (fc_6 1000 a1 a2 a3 a4 a5 S0) = true := by
  by_cases h : a1 < 0
  · exact c1_6a a1 a2 a3 a4 a5 h
  by_cases h0 : a1 = 0
  · subst h0
    by_cases g : a2 < 1
    · exact c1_6x 0 a2 a3 a4 a5 g
    by_cases g2 : 100000 < a2
    · exact c1_6y 0 a2 a3 a4 a5 g g2
    exact c1_6z 0 a2 a3 a4 a5 g g2
  obtain ⟨h2, h3⟩ := nn_of h h0
  exact c1_6b a1 a2 a3 a4 a5 h h2 h3
theorem c1_7_all (a1 a2 a3 a4 a5 : Int32) : okb (fc_7 1000 a1 a2 a3 a4 a5 S0) = true := by
  by_cases h : a1 < 0
  · exact c1_7a a1 a2 a3 a4 a5 h
  exact c1_7b a1 a2 a3 a4 a5 h (nz_of h)
theorem c1_8_all (a1 a2 a3 a4 a5 : Int32) : okb (fc_8 1000 a1 a2 a3 a4 a5 S0) = true := by
  by_cases h : a1 < 0
  · exact c1_8a a1 a2 a3 a4 a5 h
  exact c1_8b a1 a2 a3 a4 a5 h (nz_of h)
theorem c1_11_all (a1 a2 a3 a4 a5 : Int32) : okb (fc_11 1000 a1 a2 a3 a4 a5 S0) = true := by
  by_cases h : a1 < 0
  · exact c1_11a a1 a2 a3 a4 a5 h
  exact c1_11b a1 a2 a3 a4 a5 h (nz_of h)
theorem c1_13_all (a1 a2 a3 a4 a5 : Int32) : okb (fc_13 1000 a1 a2 a3 a4 a5 S0) = true := by
  by_cases h : a1 < 0
  · exact c1_13a a1 a2 a3 a4 a5 h
  exact c1_13b a1 a2 a3 a4 a5 h (nz_of h)
theorem c1_22_all (a1 a2 a3 a4 a5 : Int32) : okb (fc_22 1000 a1 a2 a3 a4 a5 S0) = true := by
  by_cases h : a1 < 0
  · exact c1_22a a1 a2 a3 a4 a5 h
  exact c1_22b a1 a2 a3 a4 a5 h (nz_of h)
theorem c1_10_all (a1 a2 a3 a4 a5 : Int32) : okb (fc_10 1000 a1 a2 a3 a4 a5 S0) = true := by
  by_cases g : a3 = 0
  · by_cases h : a1 < 0
    · exact c1_10ap a1 a2 a3 a4 a5 h g
    exact c1_10bp a1 a2 a3 a4 a5 h (nz_of h) g
  by_cases h : a1 < 0
  · exact c1_10aq a1 a2 a3 a4 a5 h g
  exact c1_10bq a1 a2 a3 a4 a5 h (nz_of h) g
theorem c1_15_all (a1 a2 a3 a4 a5 : Int32) : okb (fc_15 1000 a1 a2 a3 a4 a5 S0) = true := by
  by_cases h : a1 < 0
  · exact c1_15a a1 a2 a3 a4 a5 h
  by_cases h2 : a1 ≤ 100000
  · exact c1_15b a1 a2 a3 a4 a5 h h2
  exact c1_15c a1 a2 a3 a4 a5 h h2
theorem c1_16_all (a1 a2 a3 a4 a5 : Int32) : okb (fc_16 1000 a1 a2 a3 a4 a5 S0) = true := by
  by_cases h : a1 < 0
  · exact c1_16a a1 a2 a3 a4 a5 h
  by_cases h0 : a1 = 0
  · subst h0
    by_cases e1 : a2 = 1
    · subst e1; exact c1_16z1 0 0 a3 a4 a5
    by_cases e2 : a2 = 2
    · subst e2; exact c1_16z2 0 0 a3 a4 a5
    by_cases e5 : a2 = 5
    · subst e5; exact c1_16z5 0 0 a3 a4 a5
    by_cases e16 : a2 = 16
    · subst e16; exact c1_16z16 0 0 a3 a4 a5
    exact c1_16y 0 a2 a3 a4 a5 e1 e2 e5 e16
  obtain ⟨h2, h3⟩ := nn_of h h0
  exact c1_16b a1 a2 a3 a4 a5 h h2 h3
theorem c1_21_all (a1 a2 a3 a4 a5 : Int32) : okb (fc_21 1000 a1 a2 a3 a4 a5 S0) = true := by
  by_cases e0 : a1 = 0
  · subst e0; exact c1_21z0 0 a2 a3 a4 a5
  by_cases e1 : a1 = 1
  · subst e1; exact c1_21z1 0 a2 a3 a4 a5
  by_cases e2 : a1 = 2
  · subst e2; exact c1_21z2 0 a2 a3 a4 a5
  by_cases e3 : a1 = 3
  · subst e3; exact c1_21z3 0 a2 a3 a4 a5
  by_cases e4 : a1 = 4
  · subst e4; exact c1_21z4 0 a2 a3 a4 a5
  exact c1_21y a1 a2 a3 a4 a5 e0 e1 e2 e3 e4

theorem c1_23_all (a1 a2 a3 a4 a5 : Int32) : okb (fc_23 1000 a1 a2 a3 a4 a5 S0) = true := by
  by_cases h : a1 < 0
  · exact c1_23a a1 a2 a3 a4 a5 h
  by_cases h0 : a1 = 0
  · subst h0
    exact c1_23y 0 a2 a3 a4 a5
  obtain ⟨h2, h3⟩ := nn_of h h0
  exact c1_23b a1 a2 a3 a4 a5 h h2 h3
theorem c1_24_all (a1 a2 a3 a4 a5 : Int32) : okb (fc_24 1000 a1 a2 a3 a4 a5 S0) = true := by
  by_cases e0 : a1 = 0
  · subst e0; exact c1_24z0 0 a2 a3 a4 a5
  by_cases e1 : a1 = 1
  · subst e1; exact c1_24z1 0 a2 a3 a4 a5
  by_cases e2 : a1 = 2
  · subst e2; exact c1_24z2 0 a2 a3 a4 a5
  by_cases e3 : a1 = 3
  · subst e3; exact c1_24z3 0 a2 a3 a4 a5
  by_cases e4 : a1 = 4
  · subst e4; exact c1_24z4 0 a2 a3 a4 a5
  by_cases e5 : a1 = 5
  · subst e5; exact c1_24z5 0 a2 a3 a4 a5
  by_cases e6 : a1 = 6
  · subst e6; exact c1_24z6 0 a2 a3 a4 a5
  by_cases e7 : a1 = 7
  · subst e7; exact c1_24z7 0 a2 a3 a4 a5
  by_cases e8 : a1 = 8
  · subst e8; exact c1_24z8 0 a2 a3 a4 a5
  exact c1_24y a1 a2 a3 a4 a5 e0 e1 e2 e3 e4 e5 e6 e7 e8

theorem c1_0_all (a1 a2 a3 a4 a5 : Int32) : okb (fc_0 1000 a1 a2 a3 a4 a5 S0) = true := by
  exact c1_0 a1 a2 a3 a4 a5
theorem c1_3_all (a1 a2 a3 a4 a5 : Int32) : okb (fc_3 1000 a1 a2 a3 a4 a5 S0) = true := by
  exact c1_3 a1 a2 a3 a4 a5
theorem c1_9_all (a1 a2 a3 a4 a5 : Int32) : okb (fc_9 1000 a1 a2 a3 a4 a5 S0) = true := by
  exact c1_9 a1 a2 a3 a4 a5
theorem c1_12_all (a1 a2 a3 a4 a5 : Int32) : okb (fc_12 1000 a1 a2 a3 a4 a5 S0) = true := by
  exact c1_12 a1 a2 a3 a4 a5
theorem c1_14_all (a1 a2 a3 a4 a5 : Int32) : okb (fc_14 1000 a1 a2 a3 a4 a5 S0) = true := by
  exact c1_14 a1 a2 a3 a4 a5
theorem c1_17_all (a1 a2 a3 a4 a5 : Int32) : okb (fc_17 1000 a1 a2 a3 a4 a5 S0) = true := by
  exact c1_17 a1 a2 a3 a4 a5
theorem c1_18_all (a1 a2 a3 a4 a5 : Int32) : okb (fc_18 1000 a1 a2 a3 a4 a5 S0) = true := by
  exact c1_18 a1 a2 a3 a4 a5
theorem c1_19_all (a1 a2 a3 a4 a5 : Int32) : okb (fc_19 1000 a1 a2 a3 a4 a5 S0) = true := by
  exact c1_19 a1 a2 a3 a4 a5
theorem c1_20_all (a1 a2 a3 a4 a5 : Int32) : okb (fc_20 1000 a1 a2 a3 a4 a5 S0) = true := by
  exact c1_20 a1 a2 a3 a4 a5
theorem p1_pure (xs : Nat → Int32) (n : Nat) (hn : n ≤ 1) : lawOk 1000 xs n 0 S0 := by
  rcases (show n = 0 ∨ n = 1 by omega) with rfl | rfl
  · trivial
  have h : okb (fit1 1000 (xs 0) (xs (0 + 1)) (xs (0 + 2)) (xs (0 + 3)) (xs (0 + 4)) (xs (0 + 5)) S0) = true := by
    unfold fit1
    by_cases e0 : (xs 0 &&& (31 : Int32)) = (0 : Int32)
    · rw [if_pos e0]; exact c1_0_all _ _ _ _ _
    rw [if_neg e0]
    by_cases e1 : (xs 0 &&& (31 : Int32)) = (1 : Int32)
    · rw [if_pos e1]; exact c1_1_all _ _ _ _ _
    rw [if_neg e1]
    by_cases e2 : (xs 0 &&& (31 : Int32)) = (2 : Int32)
    · rw [if_pos e2]; exact c1_2_all _ _ _ _ _
    rw [if_neg e2]
    by_cases e3 : (xs 0 &&& (31 : Int32)) = (3 : Int32)
    · rw [if_pos e3]; exact c1_3_all _ _ _ _ _
    rw [if_neg e3]
    by_cases e4 : (xs 0 &&& (31 : Int32)) = (4 : Int32)
    · rw [if_pos e4]; exact c1_4_all _ _ _ _ _
    rw [if_neg e4]
    by_cases e5 : (xs 0 &&& (31 : Int32)) = (5 : Int32)
    · rw [if_pos e5]; exact c1_5_all _ _ _ _ _
    rw [if_neg e5]
    by_cases e6 : (xs 0 &&& (31 : Int32)) = (6 : Int32)
    · rw [if_pos e6]; exact c1_6_all _ _ _ _ _
    rw [if_neg e6]
    by_cases e7 : (xs 0 &&& (31 : Int32)) = (7 : Int32)
    · rw [if_pos e7]; exact c1_7_all _ _ _ _ _
    rw [if_neg e7]
    by_cases e8 : (xs 0 &&& (31 : Int32)) = (8 : Int32)
    · rw [if_pos e8]; exact c1_8_all _ _ _ _ _
    rw [if_neg e8]
    by_cases e9 : (xs 0 &&& (31 : Int32)) = (9 : Int32)
    · rw [if_pos e9]; exact c1_9_all _ _ _ _ _
    rw [if_neg e9]
    by_cases e10 : (xs 0 &&& (31 : Int32)) = (10 : Int32)
    · rw [if_pos e10]; exact c1_10_all _ _ _ _ _
    rw [if_neg e10]
    by_cases e11 : (xs 0 &&& (31 : Int32)) = (11 : Int32)
    · rw [if_pos e11]; exact c1_11_all _ _ _ _ _
    rw [if_neg e11]
    by_cases e12 : (xs 0 &&& (31 : Int32)) = (12 : Int32)
    · rw [if_pos e12]; exact c1_12_all _ _ _ _ _
    rw [if_neg e12]
    by_cases e13 : (xs 0 &&& (31 : Int32)) = (13 : Int32)
    · rw [if_pos e13]; exact c1_13_all _ _ _ _ _
    rw [if_neg e13]
    by_cases e14 : (xs 0 &&& (31 : Int32)) = (14 : Int32)
    · rw [if_pos e14]; exact c1_14_all _ _ _ _ _
    rw [if_neg e14]
    by_cases e15 : (xs 0 &&& (31 : Int32)) = (15 : Int32)
    · rw [if_pos e15]; exact c1_15_all _ _ _ _ _
    rw [if_neg e15]
    by_cases e16 : (xs 0 &&& (31 : Int32)) = (16 : Int32)
    · rw [if_pos e16]; exact c1_16_all _ _ _ _ _
    rw [if_neg e16]
    by_cases e17 : (xs 0 &&& (31 : Int32)) = (17 : Int32)
    · rw [if_pos e17]; exact c1_17_all _ _ _ _ _
    rw [if_neg e17]
    by_cases e18 : (xs 0 &&& (31 : Int32)) = (18 : Int32)
    · rw [if_pos e18]; exact c1_18_all _ _ _ _ _
    rw [if_neg e18]
    by_cases e19 : (xs 0 &&& (31 : Int32)) = (19 : Int32)
    · rw [if_pos e19]; exact c1_19_all _ _ _ _ _
    rw [if_neg e19]
    by_cases e20 : (xs 0 &&& (31 : Int32)) = (20 : Int32)
    · rw [if_pos e20]; exact c1_20_all _ _ _ _ _
    rw [if_neg e20]
    by_cases e21 : (xs 0 &&& (31 : Int32)) = (21 : Int32)
    · rw [if_pos e21]; exact c1_21_all _ _ _ _ _
    rw [if_neg e21]
    by_cases e22 : (xs 0 &&& (31 : Int32)) = (22 : Int32)
    · rw [if_pos e22]; exact c1_22_all _ _ _ _ _
    rw [if_neg e22]
    by_cases e23 : (xs 0 &&& (31 : Int32)) = (23 : Int32)
    · rw [if_pos e23]; exact c1_23_all _ _ _ _ _
    rw [if_neg e23]
    by_cases e24 : (xs 0 &&& (31 : Int32)) = (24 : Int32)
    · rw [if_pos e24]; exact c1_24_all _ _ _ _ _
    rw [if_neg e24]
    rfl
  obtain ⟨S2, h2⟩ := okb_e h
  exact ⟨S2, h2, trivial⟩
