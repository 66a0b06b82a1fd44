/-! ===== what is kept: ranges, frames, and 'ends with some' ===== -/
theorem i32 (v : Int32) : (-2147483648 : Int) ≤ v.toInt ∧ v.toInt ≤ (2147483647 : Int) := by
  have h1 := Int32.le_toInt v
  have h2 := Int32.toInt_lt v
  constructor <;> omega
def lo : Nat → Nat → Int := fun q k => if q = 1 then (if k = 1 then 0 else if k = 2 then 0 else -2147483648) else if q = 3 then (if k = 3 then 1 else -2147483648) else if q = 4 then 0 else if q = 6 then 0 else if q = 7 then (if k = 2 then 0 else -2147483648) else if q = 9 then 0 else if q = 10 then (if k = 3 then 0 else if k = 9 then 0 else -2147483648) else if q = 19 then (if k = 1 then 0 else if k = 2 then 0 else -2147483648) else if q = 20 then (-128) else if q = 23 then (if k = 4 then 0 else -2147483648) else if q = 27 then (if k = 2 then 0 else -2147483648) else if q = 29 then 0 else if q = 30 then (if k = 5 then 0 else -2147483648) else if q = 36 then (if k = 5 then 0 else -2147483648) else if q = 42 then (if k = 6 then 0 else -2147483648) else if q = 47 then 0 else if q = 49 then (if k = 4 then 0 else if k = 8 then 0 else if k = 11 then 0 else -2147483648) else if q = 50 then (if k = 8 then 0 else if k = 9 then 0 else -2147483648) else if q = 56 then 0 else if q = 58 then 0 else if q = 63 then (if k = 5 then 1 else if k = 8 then 0 else if k = 10 then 0 else if k = 14 then 0 else if k = 20 then 0 else if k = 23 then 0 else if k = 25 then 0 else if k = 27 then 0 else if k = 30 then 0 else if k = 31 then 0 else if k = 42 then 0 else if k = 44 then 0 else if k = 50 then 0 else if k = 53 then 0 else if k = 62 then 0 else if k = 65 then 0 else if k = 67 then 0 else if k = 71 then 0 else -2147483648) else if q = 64 then 0 else if q = 66 then 0 else if q = 67 then 0 else if q = 68 then 0 else if q = 69 then 0 else if q = 72 then 0 else if q = 74 then 0 else if q = 75 then 0 else if q = 80 then 0 else if q = 84 then 0 else if q = 86 then 0 else if q = 93 then 0 else if q = 97 then 0 else if q = 99 then 0 else if q = 100 then (-1) else if q = 102 then 0 else if q = 103 then 0 else -2147483648
def hi : Nat → Nat → Int := fun q k => if q = 1 then (if k = 1 then 1000 else if k = 2 then 1 else 2147483647) else if q = 3 then (if k = 3 then 300 else 2147483647) else if q = 4 then 299 else if q = 6 then 10 else if q = 7 then (if k = 2 then 6 else 2147483647) else if q = 9 then 10 else if q = 10 then (if k = 3 then 12 else if k = 9 then 150 else 2147483647) else if q = 19 then (if k = 1 then 1000 else if k = 2 then 1 else 2147483647) else if q = 20 then 127 else if q = 23 then (if k = 4 then 12 else 2147483647) else if q = 27 then (if k = 2 then 6 else 2147483647) else if q = 29 then 10 else if q = 30 then (if k = 5 then 90 else 2147483647) else if q = 36 then (if k = 5 then 90 else 2147483647) else if q = 42 then (if k = 6 then 100 else 2147483647) else if q = 47 then 10 else if q = 49 then (if k = 4 then 4 else if k = 8 then 1 else if k = 11 then 10 else 2147483647) else if q = 50 then (if k = 8 then 4 else if k = 9 then 3 else 2147483647) else if q = 56 then 40 else if q = 58 then 300 else if q = 63 then (if k = 5 then 300 else if k = 8 then 6 else if k = 10 then 1000 else if k = 14 then 12 else if k = 20 then 150 else if k = 23 then 12 else if k = 25 then 4 else if k = 27 then 2000000000 else if k = 30 then 6 else if k = 31 then 1100 else if k = 42 then 99 else if k = 44 then 99 else if k = 50 then 100 else if k = 53 then 10 else if k = 62 then 4 else if k = 65 then 40 else if k = 67 then 1 else if k = 71 then 10 else 2147483647) else if q = 64 then (if k = 0 then 0 else (k : Int) - 1) else if q = 66 then 10 else if q = 67 then (k : Int) else if q = 68 then 1000 else if q = 69 then 10 else if q = 72 then 299 else if q = 74 then 11 else if q = 75 then 299 else if q = 80 then 1 else if q = 84 then 1 else if q = 86 then 299 else if q = 93 then 10 else if q = 97 then 299 else if q = 99 then 8 else if q = 100 then 299 else if q = 102 then 40 else if q = 103 then 1 else 2147483647
def Inv (S : St) : Prop := ∀ q k : Nat, lo q k ≤ (S.1 q k).toInt ∧ (S.1 q k).toInt ≤ hi q k
theorem b_1_1 {S : St} (h : Inv S) : (0 : Int) ≤ (S.1 1 1).toInt ∧ (S.1 1 1).toInt ≤ (1000 : Int) := h 1 1
theorem b_1_2 {S : St} (h : Inv S) : (0 : Int) ≤ (S.1 1 2).toInt ∧ (S.1 1 2).toInt ≤ (1 : Int) := h 1 2
theorem b_3_3 {S : St} (h : Inv S) : (1 : Int) ≤ (S.1 3 3).toInt ∧ (S.1 3 3).toInt ≤ (300 : Int) := h 3 3
theorem b_7_2 {S : St} (h : Inv S) : (0 : Int) ≤ (S.1 7 2).toInt ∧ (S.1 7 2).toInt ≤ (6 : Int) := h 7 2
theorem b_10_3 {S : St} (h : Inv S) : (0 : Int) ≤ (S.1 10 3).toInt ∧ (S.1 10 3).toInt ≤ (12 : Int) := h 10 3
theorem b_10_9 {S : St} (h : Inv S) : (0 : Int) ≤ (S.1 10 9).toInt ∧ (S.1 10 9).toInt ≤ (150 : Int) := h 10 9
theorem b_19_1 {S : St} (h : Inv S) : (0 : Int) ≤ (S.1 19 1).toInt ∧ (S.1 19 1).toInt ≤ (1000 : Int) := h 19 1
theorem b_19_2 {S : St} (h : Inv S) : (0 : Int) ≤ (S.1 19 2).toInt ∧ (S.1 19 2).toInt ≤ (1 : Int) := h 19 2
theorem b_23_4 {S : St} (h : Inv S) : (0 : Int) ≤ (S.1 23 4).toInt ∧ (S.1 23 4).toInt ≤ (12 : Int) := h 23 4
theorem b_27_2 {S : St} (h : Inv S) : (0 : Int) ≤ (S.1 27 2).toInt ∧ (S.1 27 2).toInt ≤ (6 : Int) := h 27 2
theorem b_30_5 {S : St} (h : Inv S) : (0 : Int) ≤ (S.1 30 5).toInt ∧ (S.1 30 5).toInt ≤ (90 : Int) := h 30 5
theorem b_36_5 {S : St} (h : Inv S) : (0 : Int) ≤ (S.1 36 5).toInt ∧ (S.1 36 5).toInt ≤ (90 : Int) := h 36 5
theorem b_42_6 {S : St} (h : Inv S) : (0 : Int) ≤ (S.1 42 6).toInt ∧ (S.1 42 6).toInt ≤ (100 : Int) := h 42 6
theorem b_49_4 {S : St} (h : Inv S) : (0 : Int) ≤ (S.1 49 4).toInt ∧ (S.1 49 4).toInt ≤ (4 : Int) := h 49 4
theorem b_49_8 {S : St} (h : Inv S) : (0 : Int) ≤ (S.1 49 8).toInt ∧ (S.1 49 8).toInt ≤ (1 : Int) := h 49 8
theorem b_49_11 {S : St} (h : Inv S) : (0 : Int) ≤ (S.1 49 11).toInt ∧ (S.1 49 11).toInt ≤ (10 : Int) := h 49 11
theorem b_50_8 {S : St} (h : Inv S) : (0 : Int) ≤ (S.1 50 8).toInt ∧ (S.1 50 8).toInt ≤ (4 : Int) := h 50 8
theorem b_50_9 {S : St} (h : Inv S) : (0 : Int) ≤ (S.1 50 9).toInt ∧ (S.1 50 9).toInt ≤ (3 : Int) := h 50 9
theorem b_63_5 {S : St} (h : Inv S) : (1 : Int) ≤ (S.1 63 5).toInt ∧ (S.1 63 5).toInt ≤ (300 : Int) := h 63 5
theorem b_63_8 {S : St} (h : Inv S) : (0 : Int) ≤ (S.1 63 8).toInt ∧ (S.1 63 8).toInt ≤ (6 : Int) := h 63 8
theorem b_63_10 {S : St} (h : Inv S) : (0 : Int) ≤ (S.1 63 10).toInt ∧ (S.1 63 10).toInt ≤ (1000 : Int) := h 63 10
theorem b_63_14 {S : St} (h : Inv S) : (0 : Int) ≤ (S.1 63 14).toInt ∧ (S.1 63 14).toInt ≤ (12 : Int) := h 63 14
theorem b_63_20 {S : St} (h : Inv S) : (0 : Int) ≤ (S.1 63 20).toInt ∧ (S.1 63 20).toInt ≤ (150 : Int) := h 63 20
theorem b_63_23 {S : St} (h : Inv S) : (0 : Int) ≤ (S.1 63 23).toInt ∧ (S.1 63 23).toInt ≤ (12 : Int) := h 63 23
theorem b_63_25 {S : St} (h : Inv S) : (0 : Int) ≤ (S.1 63 25).toInt ∧ (S.1 63 25).toInt ≤ (4 : Int) := h 63 25
theorem b_63_27 {S : St} (h : Inv S) : (0 : Int) ≤ (S.1 63 27).toInt ∧ (S.1 63 27).toInt ≤ (2000000000 : Int) := h 63 27
theorem b_63_30 {S : St} (h : Inv S) : (0 : Int) ≤ (S.1 63 30).toInt ∧ (S.1 63 30).toInt ≤ (6 : Int) := h 63 30
theorem b_63_31 {S : St} (h : Inv S) : (0 : Int) ≤ (S.1 63 31).toInt ∧ (S.1 63 31).toInt ≤ (1100 : Int) := h 63 31
theorem b_63_42 {S : St} (h : Inv S) : (0 : Int) ≤ (S.1 63 42).toInt ∧ (S.1 63 42).toInt ≤ (99 : Int) := h 63 42
theorem b_63_44 {S : St} (h : Inv S) : (0 : Int) ≤ (S.1 63 44).toInt ∧ (S.1 63 44).toInt ≤ (99 : Int) := h 63 44
theorem b_63_50 {S : St} (h : Inv S) : (0 : Int) ≤ (S.1 63 50).toInt ∧ (S.1 63 50).toInt ≤ (100 : Int) := h 63 50
theorem b_63_53 {S : St} (h : Inv S) : (0 : Int) ≤ (S.1 63 53).toInt ∧ (S.1 63 53).toInt ≤ (10 : Int) := h 63 53
theorem b_63_62 {S : St} (h : Inv S) : (0 : Int) ≤ (S.1 63 62).toInt ∧ (S.1 63 62).toInt ≤ (4 : Int) := h 63 62
theorem b_63_65 {S : St} (h : Inv S) : (0 : Int) ≤ (S.1 63 65).toInt ∧ (S.1 63 65).toInt ≤ (40 : Int) := h 63 65
theorem b_63_67 {S : St} (h : Inv S) : (0 : Int) ≤ (S.1 63 67).toInt ∧ (S.1 63 67).toInt ≤ (1 : Int) := h 63 67
theorem b_63_71 {S : St} (h : Inv S) : (0 : Int) ≤ (S.1 63 71).toInt ∧ (S.1 63 71).toInt ≤ (10 : Int) := h 63 71
theorem a_4 {S : St} (h : Inv S) (k : Nat) : ((0) : Int) ≤ (S.1 4 k).toInt ∧ (S.1 4 k).toInt ≤ (299 : Int) := h 4 k
theorem a_6 {S : St} (h : Inv S) (k : Nat) : ((0) : Int) ≤ (S.1 6 k).toInt ∧ (S.1 6 k).toInt ≤ (10 : Int) := h 6 k
theorem a_9 {S : St} (h : Inv S) (k : Nat) : ((0) : Int) ≤ (S.1 9 k).toInt ∧ (S.1 9 k).toInt ≤ (10 : Int) := h 9 k
theorem a_20 {S : St} (h : Inv S) (k : Nat) : ((-128) : Int) ≤ (S.1 20 k).toInt ∧ (S.1 20 k).toInt ≤ (127 : Int) := h 20 k
theorem a_29 {S : St} (h : Inv S) (k : Nat) : ((0) : Int) ≤ (S.1 29 k).toInt ∧ (S.1 29 k).toInt ≤ (10 : Int) := h 29 k
theorem a_47 {S : St} (h : Inv S) (k : Nat) : ((0) : Int) ≤ (S.1 47 k).toInt ∧ (S.1 47 k).toInt ≤ (10 : Int) := h 47 k
theorem a_56 {S : St} (h : Inv S) (k : Nat) : ((0) : Int) ≤ (S.1 56 k).toInt ∧ (S.1 56 k).toInt ≤ (40 : Int) := h 56 k
theorem a_58 {S : St} (h : Inv S) (k : Nat) : ((0) : Int) ≤ (S.1 58 k).toInt ∧ (S.1 58 k).toInt ≤ (300 : Int) := h 58 k
theorem a_64 {S : St} (h : Inv S) (k : Nat) : (0 : Int) ≤ (S.1 64 k).toInt ∧ (S.1 64 k).toInt ≤ (k : Int) ∧ (1 ≤ k → (S.1 64 k).toInt ≤ (k : Int) - 1) := by
  have h1 : (0 : Int) ≤ (S.1 64 k).toInt ∧ (S.1 64 k).toInt ≤ (if k = 0 then (0 : Int) else (k : Int) - 1) := h 64 k
  by_cases e : k = 0
  · rw [if_pos e] at h1; omega
  · rw [if_neg e] at h1; omega
theorem a_66 {S : St} (h : Inv S) (k : Nat) : ((0) : Int) ≤ (S.1 66 k).toInt ∧ (S.1 66 k).toInt ≤ (10 : Int) := h 66 k
theorem a_67 {S : St} (h : Inv S) (k : Nat) : ((0) : Int) ≤ (S.1 67 k).toInt ∧ (S.1 67 k).toInt ≤ (k : Int) := h 67 k
theorem a_68 {S : St} (h : Inv S) (k : Nat) : ((0) : Int) ≤ (S.1 68 k).toInt ∧ (S.1 68 k).toInt ≤ (1000 : Int) := h 68 k
theorem a_69 {S : St} (h : Inv S) (k : Nat) : ((0) : Int) ≤ (S.1 69 k).toInt ∧ (S.1 69 k).toInt ≤ (10 : Int) := h 69 k
theorem a_72 {S : St} (h : Inv S) (k : Nat) : ((0) : Int) ≤ (S.1 72 k).toInt ∧ (S.1 72 k).toInt ≤ (299 : Int) := h 72 k
theorem a_74 {S : St} (h : Inv S) (k : Nat) : ((0) : Int) ≤ (S.1 74 k).toInt ∧ (S.1 74 k).toInt ≤ (11 : Int) := h 74 k
theorem a_75 {S : St} (h : Inv S) (k : Nat) : ((0) : Int) ≤ (S.1 75 k).toInt ∧ (S.1 75 k).toInt ≤ (299 : Int) := h 75 k
theorem a_80 {S : St} (h : Inv S) (k : Nat) : ((0) : Int) ≤ (S.1 80 k).toInt ∧ (S.1 80 k).toInt ≤ (1 : Int) := h 80 k
theorem a_84 {S : St} (h : Inv S) (k : Nat) : ((0) : Int) ≤ (S.1 84 k).toInt ∧ (S.1 84 k).toInt ≤ (1 : Int) := h 84 k
theorem a_86 {S : St} (h : Inv S) (k : Nat) : ((0) : Int) ≤ (S.1 86 k).toInt ∧ (S.1 86 k).toInt ≤ (299 : Int) := h 86 k
theorem a_93 {S : St} (h : Inv S) (k : Nat) : ((0) : Int) ≤ (S.1 93 k).toInt ∧ (S.1 93 k).toInt ≤ (10 : Int) := h 93 k
theorem a_97 {S : St} (h : Inv S) (k : Nat) : ((0) : Int) ≤ (S.1 97 k).toInt ∧ (S.1 97 k).toInt ≤ (299 : Int) := h 97 k
theorem a_99 {S : St} (h : Inv S) (k : Nat) : ((0) : Int) ≤ (S.1 99 k).toInt ∧ (S.1 99 k).toInt ≤ (8 : Int) := h 99 k
theorem a_100 {S : St} (h : Inv S) (k : Nat) : ((-1) : Int) ≤ (S.1 100 k).toInt ∧ (S.1 100 k).toInt ≤ (299 : Int) := h 100 k
theorem a_102 {S : St} (h : Inv S) (k : Nat) : ((0) : Int) ≤ (S.1 102 k).toInt ∧ (S.1 102 k).toInt ≤ (40 : Int) := h 102 k
theorem a_103 {S : St} (h : Inv S) (k : Nat) : ((0) : Int) ≤ (S.1 103 k).toInt ∧ (S.1 103 k).toInt ≤ (1 : Int) := h 103 k
def inM (M : List (Nat × Nat)) (a b : Nat) : Bool := M.any (fun m => m.1 == a && (m.2 == 0 || m.2 == b + 1))
def subM (M N : List (Nat × Nat)) : Bool := M.all (fun m => N.any (fun n => n.1 == m.1 && (n.2 == 0 || n.2 == m.2)))
/-- what is not in the list is as it was -/
def Fr (M : List (Nat × Nat)) (S T : St) : Prop := ∀ a b : Nat, inM M a b = false → T.1 a b = S.1 a b
theorem Fr.refl (M : List (Nat × Nat)) (S : St) : Fr M S S := fun _ _ _ => rfl
theorem sub_in {M N : List (Nat × Nat)} (h : subM M N = true) {a b : Nat} (hn : inM N a b = false) : inM M a b = false := by
  unfold inM subM at *
  rw [List.any_eq_false] at hn ⊢
  rw [List.all_eq_true] at h
  intro m hm hc
  have h2 := h m hm
  rw [List.any_eq_true] at h2
  obtain ⟨n, hn1, hn2⟩ := h2
  refine hn n hn1 ?_
  simp only [Bool.and_eq_true, Bool.or_eq_true, beq_iff_eq] at hc hn2 ⊢
  refine ⟨hn2.1.trans hc.1, ?_⟩
  rcases hn2.2 with h3 | h3
  · exact Or.inl h3
  · rcases hc.2 with h4 | h4
    · exact Or.inl (h3.trans h4)
    · exact Or.inr (h3.trans h4)
theorem Fr.tr {M N : List (Nat × Nat)} {S T U : St} (h1 : Fr M S T) (h2 : Fr N T U) (h : subM N M = true) : Fr M S U := fun a b hm => (h2 a b (sub_in h hm)).trans (h1 a b hm)
def Sf {β : Type} (x : Option (St × β)) (Q : St → β → Prop) : Prop := ∃ S r, x = some (S, r) ∧ Q S r
def Sp {β : Type} (x : Option (St × β)) (S : St) (P : β → Prop) : Prop := ∃ r, x = some (S, r) ∧ P r
section RULES
variable {α β γ : Type}
theorem Sf.so {Q : St → β → Prop} {S : St} {r : β} (h : Q S r) : Sf (some (S, r)) Q := ⟨S, r, rfl, h⟩
theorem Sp.so {P : β → Prop} {S : St} {r : β} (h : P r) : Sp (some (S, r)) S P := ⟨r, rfl, h⟩
theorem Sf.mono {x : Option (St × β)} {Q R : St → β → Prop} (h : Sf x Q) (f : ∀ S r, Q S r → R S r) : Sf x R := by
  obtain ⟨S, r, e, q⟩ := h
  exact ⟨S, r, e, f S r q⟩
theorem Sp.mono {x : Option (St × β)} {S : St} {P R : β → Prop} (h : Sp x S P) (f : ∀ r, P r → R r) : Sp x S R := by
  obtain ⟨r, e, q⟩ := h
  exact ⟨r, e, f r q⟩
theorem Sp.sf {x : Option (St × β)} {S : St} {P : β → Prop} {Q : St → β → Prop} (h : Sp x S P) (f : ∀ r, P r → Q S r) : Sf x Q := by
  obtain ⟨r, e, q⟩ := h
  exact ⟨S, r, e, f r q⟩
theorem Sf.g {b : Bool} {x : Option (St × β)} {Q : St → β → Prop} (h : b = true) (k : Sf x Q) : Sf (gd b x) Q := by rw [gd_t h]; exact k
theorem Sp.g {b : Bool} {x : Option (St × β)} {S : St} {P : β → Prop} (h : b = true) (k : Sp x S P) : Sp (gd b x) S P := by rw [gd_t h]; exact k
theorem Sf.i {c : Prop} {dc : Decidable c} {x y : Option (St × β)} {Q : St → β → Prop} (h1 : c → Sf x Q) (h2 : ¬ c → Sf y Q) : Sf (@ite _ c dc x y) Q := by
  by_cases h : c
  · rw [if_pos h]; exact h1 h
  · rw [if_neg h]; exact h2 h
theorem Sp.i {c : Prop} {dc : Decidable c} {x y : Option (St × β)} {S : St} {P : β → Prop} (h1 : c → Sp x S P) (h2 : ¬ c → Sp y S P) : Sp (@ite _ c dc x y) S P := by
  by_cases h : c
  · rw [if_pos h]; exact h1 h
  · rw [if_neg h]; exact h2 h
theorem Sf.it {c : Prop} {dc : Decidable c} {x y : Option (St × β)} {Q : St → β → Prop} (h : c) (k : Sf x Q) : Sf (@ite _ c dc x y) Q := by rw [if_pos h]; exact k
theorem Sf.ie {c : Prop} {dc : Decidable c} {x y : Option (St × β)} {Q : St → β → Prop} (h : ¬ c) (k : Sf y Q) : Sf (@ite _ c dc x y) Q := by rw [if_neg h]; exact k
theorem Sp.it {c : Prop} {dc : Decidable c} {x y : Option (St × β)} {S : St} {P : β → Prop} (h : c) (k : Sp x S P) : Sp (@ite _ c dc x y) S P := by rw [if_pos h]; exact k
theorem Sp.ie {c : Prop} {dc : Decidable c} {x y : Option (St × β)} {S : St} {P : β → Prop} (h : ¬ c) (k : Sp y S P) : Sp (@ite _ c dc x y) S P := by rw [if_neg h]; exact k
theorem Sf.b {x : Option (St × γ)} {k : St → γ → Option (St × β)} {R : St → γ → Prop} {Q : St → β → Prop} (h : Sf x R) (f : ∀ S r, R S r → Sf (k S r) Q) : Sf (bd x k) Q := by
  obtain ⟨S, r, e, q⟩ := h
  rw [e]; exact f S r q
theorem Sf.bp {x : Option (St × γ)} {S : St} {k : St → γ → Option (St × β)} {R : γ → Prop} {Q : St → β → Prop} (h : Sp x S R) (f : ∀ r, R r → Sf (k S r) Q) : Sf (bd x k) Q := by
  obtain ⟨r, e, q⟩ := h
  rw [e]; exact f r q
theorem Sp.b {x : Option (St × γ)} {S : St} {k : St → γ → Option (St × β)} {R : γ → Prop} {P : β → Prop} (h : Sp x S R) (f : ∀ r, R r → Sp (k S r) S P) : Sp (bd x k) S P := by
  obtain ⟨r, e, q⟩ := h
  rw [e]; exact f r q
theorem Sf.x {x : Option (St × Ot)} {K : St → Int32 → Option (St × Ot)} {R Q : St → Ot → Prop} (h : Sf x R) (f : ∀ S r, R S (0, r) → Sf (K S r) Q) (g : ∀ S k r, R S (k + 1, r) → Q S (k + 1, r)) : Sf (bx x K) Q := by
  obtain ⟨S, ⟨k, r⟩, e, q⟩ := h
  rw [e]
  cases k with
  | zero => exact f S r q
  | succ k => exact ⟨S, (k + 1, r), rfl, g S k r q⟩
theorem Sf.xp {x : Option (St × Ot)} {S : St} {K : St → Int32 → Option (St × Ot)} {R : Ot → Prop} {Q : St → Ot → Prop} (h : Sp x S R) (f : ∀ r, R (0, r) → Sf (K S r) Q) (g : ∀ k r, R (k + 1, r) → Q S (k + 1, r)) : Sf (bx x K) Q := by
  obtain ⟨⟨k, r⟩, e, q⟩ := h
  rw [e]
  cases k with
  | zero => exact f r q
  | succ k => exact ⟨S, (k + 1, r), rfl, g k r q⟩
theorem Sp.x {x : Option (St × Ot)} {S : St} {K : St → Int32 → Option (St × Ot)} {R P : Ot → Prop} (h : Sp x S R) (f : ∀ r, R (0, r) → Sp (K S r) S P) (g : ∀ k r, R (k + 1, r) → P (k + 1, r)) : Sp (bx x K) S P := by
  obtain ⟨⟨k, r⟩, e, q⟩ := h
  rw [e]
  cases k with
  | zero => exact f r q
  | succ k => exact ⟨(k + 1, r), rfl, g k r q⟩
theorem Sf.cp {x : Option (St × Ot)} {S : St} {K : St → Int32 → Option (St × β)} {X : St → Nat → Option (St × β)} {R : Ot → Prop} {Q : St → β → Prop} (h : Sp x S R) (f : ∀ r, R (0, r) → Sf (K S r) Q) (g : ∀ k r, R (k + 1, r) → Sf (X S (k + 1)) Q) : Sf (bc x K X) Q := by
  obtain ⟨⟨k, r⟩, e, q⟩ := h
  rw [e]
  cases k with
  | zero => exact f r q
  | succ k => exact g k r q
theorem Sf.c {x : Option (St × Ot)} {K : St → Int32 → Option (St × β)} {X : St → Nat → Option (St × β)} {R : St → Ot → Prop} {Q : St → β → Prop} (h : Sf x R) (f : ∀ S r, R S (0, r) → Sf (K S r) Q) (g : ∀ S k r, R S (k + 1, r) → Sf (X S (k + 1)) Q) : Sf (bc x K X) Q := by
  obtain ⟨S, ⟨k, r⟩, e, q⟩ := h
  rw [e]
  cases k with
  | zero => exact f S r q
  | succ k => exact g S k r q
theorem inv_w {S : St} (h : Inv S) {q k : Nat} {v : Int32} (h1 : lo q k ≤ v.toInt) (h2 : v.toInt ≤ hi q k) : Inv (wI q k v S) := by
  intro a b
  rw [rI]
  by_cases e : a = q
  · subst e
    rw [if_pos rfl, ru]
    by_cases e2 : b = k
    · subst e2; rw [if_pos rfl]; exact ⟨h1, h2⟩
    · rw [if_neg e2]; exact h a b
  · rw [if_neg e]; exact h a b
theorem Sf.w {M : List (Nat × Nat)} {S T : St} {q k : Nat} {v : Int32} {C : St → Option (St × β)} {Q : St → β → Prop} (I : Inv T) (F : Fr M S T) (hM : inM M q k = true) (h1 : lo q k ≤ v.toInt) (h2 : v.toInt ≤ hi q k) (h : ∀ U : St, Inv U → Fr M S U → U.1 q k = v → (∀ a b : Nat, (a = q → b = k → False) → U.1 a b = T.1 a b) → U.2 = T.2 → Sf (C U) Q) : Sf (sI q k v T C) Q := by
  refine h (wI q k v T) (inv_w I h1 h2) ?_ ?_ ?_ rfl
  · intro a b hm
    rw [rI]
    by_cases e : a = q
    · subst e
      rw [if_pos rfl, ru]
      by_cases e2 : b = k
      · subst e2; rw [hM] at hm; exact Bool.noConfusion hm
      · rw [if_neg e2]; exact F a b hm
    · rw [if_neg e]; exact F a b hm
  · rw [rI, if_pos rfl, ru, if_pos rfl]
  · intro a b hn
    rw [rI]
    by_cases e : a = q
    · subst e
      rw [if_pos rfl, ru, if_neg (fun e2 => hn rfl e2)]
    · rw [if_neg e]
theorem Sf.j {M : List (Nat × Nat)} {S T : St} {q k : Nat} {v : Int64} {C : St → Option (St × β)} {Q : St → β → Prop} (I : Inv T) (F : Fr M S T) (h : ∀ U : St, Inv U → Fr M S U → U.1 = T.1 → Sf (C U) Q) : Sf (sJ q k v T C) Q := h (wJ q k v T) I F rfl
end RULES
theorem cl_iv {x : Int32} (h : 0 ≤ x.toInt) : (x.toNatClampNeg : Int) = x.toInt := by
  have : x.toNatClampNeg = x.toInt.toNat := rfl
  omega
theorem ck_iv {e : Int32} {n : Nat} (h0 : 0 ≤ e.toInt) (h1 : e.toInt < (n : Int)) : ck e n = true := by
  have h2 : ¬ e < 0 := fun c => by
    have := Int32.lt_iff_toInt_lt.mp c
    have z : (0 : Int32).toInt = 0 := by decide
    omega
  have h3 := cl_iv h0
  have h4 : ¬ n ≤ e.toNatClampNeg := by omega
  simp [ck, h2, h4]
theorem isB_iv {e : Int32} (h0 : 0 ≤ e.toInt) (h1 : e.toInt ≤ 1) : isB e = true := by
  have z : (0 : Int32).toInt = 0 := by decide
  have o : (1 : Int32).toInt = 1 := by decide
  rcases (show e.toInt = 0 ∨ e.toInt = 1 by omega) with h | h
  · have : e = 0 := Int32.toInt_inj.mp (by rw [h, z])
    rw [this]; rfl
  · have : e = 1 := Int32.toInt_inj.mp (by rw [h, o])
    rw [this]; rfl
section IV
variable {a b : Int32} {x y : Int}
theorem lt_iv (ha : a.toInt = x) (hb : b.toInt = y) (c : a < b) : x < y := by
  have := Int32.lt_iff_toInt_lt.mp c
  omega
theorem le_iv (ha : a.toInt = x) (hb : b.toInt = y) (c : a ≤ b) : x ≤ y := by
  have := Int32.le_iff_toInt_le.mp c
  omega
theorem eq_iv (ha : a.toInt = x) (hb : b.toInt = y) (c : a = b) : x = y := by rw [← ha, ← hb, c]
theorem nlt_iv (ha : a.toInt = x) (hb : b.toInt = y) (c : ¬ a < b) : y ≤ x := by
  have h : ¬ a.toInt < b.toInt := fun h => c (Int32.lt_iff_toInt_lt.mpr h)
  omega
theorem nle_iv (ha : a.toInt = x) (hb : b.toInt = y) (c : ¬ a ≤ b) : y < x := by
  have h : ¬ a.toInt ≤ b.toInt := fun h => c (Int32.le_iff_toInt_le.mpr h)
  omega
theorem neq_iv (ha : a.toInt = x) (hb : b.toInt = y) (c : ¬ a = b) : x ≠ y := fun h => c (Int32.toInt_inj.mp (by rw [ha, hb, h]))
theorem bm_iv {z : Int} (h1 : -2147483648 ≤ z) (h2 : z ≤ 2147483647) : z.bmod (2 ^ 32) = z := by
  rw [Int.bmod_eq_of_le] <;> omega
theorem add_iv (ha : a.toInt = x) (hb : b.toInt = y) (h1 : -2147483648 ≤ x + y) (h2 : x + y ≤ 2147483647) : (a + b).toInt = x + y := by
  rw [Int32.toInt_add, ha, hb]; exact bm_iv h1 h2
theorem sub_iv (ha : a.toInt = x) (hb : b.toInt = y) (h1 : -2147483648 ≤ x - y) (h2 : x - y ≤ 2147483647) : (a - b).toInt = x - y := by
  rw [Int32.toInt_sub, ha, hb]; exact bm_iv h1 h2
theorem mul_iv (ha : a.toInt = x) (hb : b.toInt = y) (h1 : -2147483648 ≤ x * y) (h2 : x * y ≤ 2147483647) : (a * b).toInt = x * y := by
  rw [Int32.toInt_mul, ha, hb]; exact bm_iv h1 h2
end IV
theorem ti_eq {S T : St} {a b : Nat} (h : T.1 a b = S.1 a b) : (T.1 a b).toInt = (S.1 a b).toInt := by rw [h]
theorem li_m1 : (-1 : Int32).toInt = -1 := by decide
theorem li_0 : (0 : Int32).toInt = 0 := by decide
theorem li_1 : (1 : Int32).toInt = 1 := by decide
theorem li_2 : (2 : Int32).toInt = 2 := by decide
theorem li_3 : (3 : Int32).toInt = 3 := by decide
theorem li_4 : (4 : Int32).toInt = 4 := by decide
theorem li_5 : (5 : Int32).toInt = 5 := by decide
theorem li_6 : (6 : Int32).toInt = 6 := by decide
theorem li_7 : (7 : Int32).toInt = 7 := by decide
theorem li_8 : (8 : Int32).toInt = 8 := by decide
theorem li_9 : (9 : Int32).toInt = 9 := by decide
theorem li_10 : (10 : Int32).toInt = 10 := by decide
theorem li_11 : (11 : Int32).toInt = 11 := by decide
theorem li_12 : (12 : Int32).toInt = 12 := by decide
theorem li_13 : (13 : Int32).toInt = 13 := by decide
theorem li_14 : (14 : Int32).toInt = 14 := by decide
theorem li_15 : (15 : Int32).toInt = 15 := by decide
theorem li_16 : (16 : Int32).toInt = 16 := by decide
theorem li_17 : (17 : Int32).toInt = 17 := by decide
theorem li_18 : (18 : Int32).toInt = 18 := by decide
theorem li_19 : (19 : Int32).toInt = 19 := by decide
theorem li_20 : (20 : Int32).toInt = 20 := by decide
theorem li_21 : (21 : Int32).toInt = 21 := by decide
theorem li_22 : (22 : Int32).toInt = 22 := by decide
theorem li_23 : (23 : Int32).toInt = 23 := by decide
theorem li_24 : (24 : Int32).toInt = 24 := by decide
theorem li_26 : (26 : Int32).toInt = 26 := by decide
theorem li_27 : (27 : Int32).toInt = 27 := by decide
theorem li_31 : (31 : Int32).toInt = 31 := by decide
theorem li_37 : (37 : Int32).toInt = 37 := by decide
theorem li_40 : (40 : Int32).toInt = 40 := by decide
theorem li_45 : (45 : Int32).toInt = 45 := by decide
theorem li_46 : (46 : Int32).toInt = 46 := by decide
theorem li_48 : (48 : Int32).toInt = 48 := by decide
theorem li_57 : (57 : Int32).toInt = 57 := by decide
theorem li_63 : (63 : Int32).toInt = 63 := by decide
theorem li_64 : (64 : Int32).toInt = 64 := by decide
theorem li_90 : (90 : Int32).toInt = 90 := by decide
theorem li_97 : (97 : Int32).toInt = 97 := by decide
theorem li_100 : (100 : Int32).toInt = 100 := by decide
theorem li_122 : (122 : Int32).toInt = 122 := by decide
theorem li_150 : (150 : Int32).toInt = 150 := by decide
theorem li_192 : (192 : Int32).toInt = 192 := by decide
theorem li_255 : (255 : Int32).toInt = 255 := by decide
theorem li_300 : (300 : Int32).toInt = 300 := by decide
theorem li_1000 : (1000 : Int32).toInt = 1000 := by decide
theorem li_1012 : (1012 : Int32).toInt = 1012 := by decide
theorem li_1024 : (1024 : Int32).toInt = 1024 := by decide
theorem li_1027 : (1027 : Int32).toInt = 1027 := by decide
theorem li_16383 : (16383 : Int32).toInt = 16383 := by decide
theorem li_32768 : (32768 : Int32).toInt = 32768 := by decide
theorem li_49152 : (49152 : Int32).toInt = 49152 := by decide
theorem li_65535 : (65535 : Int32).toInt = 65535 := by decide
theorem li_100000 : (100000 : Int32).toInt = 100000 := by decide
theorem li_1000000 : (1000000 : Int32).toInt = 1000000 := by decide
theorem and_1 (x : Int32) : 0 ≤ (x &&& (1 : Int32)).toInt ∧ (x &&& (1 : Int32)).toInt ≤ 1 := by
  obtain ⟨j, hj, e⟩ := pk_andE x (m := 1) 1 (by decide)
  rw [e, nI_toInt (by omega)]
  omega
theorem and_15 (x : Int32) : 0 ≤ (x &&& (15 : Int32)).toInt ∧ (x &&& (15 : Int32)).toInt ≤ 15 := by
  obtain ⟨j, hj, e⟩ := pk_andE x (m := 15) 4 (by decide)
  rw [e, nI_toInt (by omega)]
  omega
theorem and_31 (x : Int32) : 0 ≤ (x &&& (31 : Int32)).toInt ∧ (x &&& (31 : Int32)).toInt ≤ 31 := by
  obtain ⟨j, hj, e⟩ := pk_andE x (m := 31) 5 (by decide)
  rw [e, nI_toInt (by omega)]
  omega
theorem and_63 (x : Int32) : 0 ≤ (x &&& (63 : Int32)).toInt ∧ (x &&& (63 : Int32)).toInt ≤ 63 := by
  obtain ⟨j, hj, e⟩ := pk_andE x (m := 63) 6 (by decide)
  rw [e, nI_toInt (by omega)]
  omega
theorem and_255 (x : Int32) : 0 ≤ (x &&& (255 : Int32)).toInt ∧ (x &&& (255 : Int32)).toInt ≤ 255 := by
  obtain ⟨j, hj, e⟩ := pk_andE x (m := 255) 8 (by decide)
  rw [e, nI_toInt (by omega)]
  omega
theorem and_16383 (x : Int32) : 0 ≤ (x &&& (16383 : Int32)).toInt ∧ (x &&& (16383 : Int32)).toInt ≤ 16383 := by
  obtain ⟨j, hj, e⟩ := pk_andE x (m := 16383) 14 (by decide)
  rw [e, nI_toInt (by omega)]
  omega
theorem and_65535 (x : Int32) : 0 ≤ (x &&& (65535 : Int32)).toInt ∧ (x &&& (65535 : Int32)).toInt ≤ 65535 := by
  obtain ⟨j, hj, e⟩ := pk_andE x (m := 65535) 16 (by decide)
  rw [e, nI_toInt (by omega)]
  omega
theorem vpb (x : Int32) : 0 ≤ (vp_nar .boolean x).toInt ∧ (vp_nar .boolean x).toInt ≤ 1 := by
  have h := and_1 x
  exact h
theorem by_iv {x : Int32} (h1 : -128 ≤ x.toInt) (h2 : x.toInt ≤ 127) : x.toInt8.toInt32 = x := by
  refine Int32.toInt_inj.mp ?_
  rw [Int8.toInt_toInt32, Int32.toInt_toInt8]
  exact Int.bmod_eq_of_le (by omega) (by omega)
theorem vpy (x : Int32) : -128 ≤ (vp_nar .byte x).toInt ∧ (vp_nar .byte x).toInt ≤ 127 := by
  rw [vp_nar_byte, Int8.toInt_toInt32]
  have h1 := Int8.le_toInt x.toInt8
  have h2 := Int8.toInt_lt x.toInt8
  constructor <;> omega
