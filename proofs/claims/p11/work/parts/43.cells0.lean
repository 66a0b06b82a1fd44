def S0 : St := (fun q => if q = 3 then (fun k => if k = 3 then 1 else 0) else if q = 49 then (fun k => if k = 5 then 5 else 0) else if q = 63 then (fun k => if k = 5 then 1 else if k = 63 then 5 else if k = 64 then 1 else 0) else fun _ => 0, fun _ _ => 0)
abbrev cl1 (cA : FieldType → ClassId) (base : Nat) : List va_E := [.inr (11, [.ref (base + 1), .ref (base + 3), .ref (base + 7), .ref (base + 10), .ref (base + 18), .ref (base + 23), .ref (base + 26), .ref (base + 36), .ref (base + 42), .ref (base + 49)]), .inr (0, [.ref (base + 2), .int 0, .int 0]), .inl (cA .byte, 1000, .inl (fun _ => 0)), .inr (3, [.ref (base + 4), .ref (base + 5), .ref (base + 6), .int 1]), .inl (cA .int, 300, .inl (fun _ => 0)), .inl (cA .long, 300, .inr (.inl (fun _ => 0))), .inl (cA .int, 300, .inl (fun _ => 0)), .inr (8, [.ref (base + 8), .ref (base + 9), .int 0]), .inl (cA .long, 6, .inr (.inl (fun _ => 0))), .inl (cA .int, 6, .inl (fun _ => 0)), .inr (10, [.ref (base + 3), .ref (base + 11), .ref (base + 12), .int 0, .ref (base + 13), .ref (base + 14), .ref (base + 15), .ref (base + 16), .ref (base + 17), .int 0]), .inl (cA .int, 12, .inl (fun _ => 0)), .inl (cA .int, 12, .inl (fun _ => 0)), .inl (cA .int, 150, .inl (fun _ => 0)), .inl (cA .int, 150, .inl (fun _ => 0)), .inl (cA .int, 150, .inl (fun _ => 0)), .inl (cA .int, 150, .inl (fun _ => 0)), .inl (cA .int, 150, .inl (fun _ => 0)), .inr (9, [.ref (base + 3), .ref (base + 19), .ref (base + 21), .ref (base + 22)]), .inr (0, [.ref (base + 20), .int 0, .int 0]), .inl (cA .byte, 1000, .inl (fun _ => 0)), .inl (cA .int, 300, .inl (fun _ => 0)), .inl (cA .int, 3, .inl (fun _ => 0)), .inr (7, [.ref (base + 3), .ref (base + 10), .ref (base + 24), .ref (base + 25), .int 0]), .inl (cA .int, 12, .inl (fun _ => 0)), .inl (cA .int, 12, .inl (fun _ => 0)), .inr (4, [.ref (base + 3), .ref (base + 27), .ref (base + 30), .int 0, .int 0, .int 0, .int 0, .int 0, .int 0, .int 0]), .inr (8, [.ref (base + 28), .ref (base + 29), .int 0]), .inl (cA .long, 6, .inr (.inl (fun _ => 0))), .inl (cA .int, 6, .inl (fun _ => 0)), .inr (5, [.ref (base + 31), .ref (base + 32), .ref (base + 33), .ref (base + 34), .ref (base + 35), .int 0]), .inl (cA .int, 90, .inl (fun _ => 0)), .inl (cA .int, 90, .inl (fun _ => 0)), .inl (cA .int, 90, .inl (fun _ => 0)), .inl (cA .int, 90, .inl (fun _ => 0)), .inl (cA .int, 90, .inl (fun _ => 0)), .inr (5, [.ref (base + 37), .ref (base + 38), .ref (base + 39), .ref (base + 40), .ref (base + 41), .int 0]), .inl (cA .int, 90, .inl (fun _ => 0)), .inl (cA .int, 90, .inl (fun _ => 0)), .inl (cA .int, 90, .inl (fun _ => 0)), .inl (cA .int, 90, .inl (fun _ => 0)), .inl (cA .int, 90, .inl (fun _ => 0)), .inr (1, [.ref (base + 43), .ref (base + 44), .ref (base + 45), .ref (base + 46), .ref (base + 47), .ref (base + 48), .int 0, .int 0, .int 0]), .inl (cA .int, 100, .inl (fun _ => 0)), .inl (cA .int, 100, .inl (fun _ => 0)), .inl (cA .long, 100, .inr (.inl (fun _ => 0))), .inl (cA .int, 100, .inl (fun _ => 0)), .inl (cA .int, 100, .inl (fun _ => 0)), .inl (cA .int, 1000, .inl (fun _ => 0)), .inr (6, [.ref (base + 3), .ref (base + 42), .ref (base + 50), .ref (base + 59), .int 0, .int 5, .int 0, .int 0, .int 0, .int 0, .ref (base + 60), .int 0, .ref (base + 61), .ref (base + 62)]), .inr (2, [.ref (base + 51), .ref (base + 52), .ref (base + 53), .ref (base + 54), .ref (base + 55), .ref (base + 56), .ref (base + 57), .ref (base + 58), .int 0, .int 0]), .inl (cA .int, 4, .inl (fun _ => 0)), .inl (cA .int, 4, .inl (fun _ => 0)), .inl (cA .int, 4, .inl (fun _ => 0)), .inl (cA .int, 4, .inl (fun _ => 0)), .inl (cA .int, 160, .inl (fun _ => 0)), .inl (cA .int, 4, .inl (fun _ => 0)), .inl (cA .int, 1200, .inl (fun _ => 0)), .inl (cA .int, 4, .inl (fun _ => 0)), .inl (cA .int, 4, .inl (fun _ => 0)), .inl (cA .int, 10, .inl (fun _ => 0)), .inl (cA .int, 10, .inl (fun _ => 0)), .inl (cA .int, 10, .inl (fun _ => 0))]
abbrev cl2 (cA : FieldType → ClassId) (base : Nat) : List va_E := [.inr (12, [.int 0, .ref (base + 64), .ref (base + 65), .ref (base + 66), .ref (base + 67), .int 1, .ref (base + 68), .ref (base + 69), .int 0, .ref (base + 70), .int 0, .ref (base + 71), .ref (base + 72), .ref (base + 73), .int 0, .ref (base + 74), .ref (base + 75), .ref (base + 76), .ref (base + 77), .ref (base + 78), .int 0, .ref (base + 79), .ref (base + 80), .int 0, .ref (base + 81), .int 0, .ref (base + 82), .int 0, .ref (base + 83), .ref (base + 84), .int 0, .int 0, .int 0, .int 0, .int 0, .int 0, .int 0, .ref (base + 85), .ref (base + 86), .ref (base + 87), .ref (base + 88), .ref (base + 89), .int 0, .ref (base + 90), .int 0, .ref (base + 91), .ref (base + 92), .ref (base + 93), .ref (base + 94), .ref (base + 95), .int 0, .int 0, .ref (base + 96), .int 0, .long 0, .ref (base + 97), .ref (base + 98), .ref (base + 99), .ref (base + 100), .ref (base + 101), .ref (base + 102), .ref (base + 103), .int 0, .int 5, .int 1, .int 0, .int 0, .int 0, .int 0, .int 0, .ref (base + 104), .int 0, .ref (base + 105)]), .inl (cA .int, 300, .inl (fun _ => 0)), .inl (cA .byte, 3000, .inl (fun _ => 0)), .inl (cA .int, 300, .inl (fun _ => 0)), .inl (cA .int, 300, .inl (fun _ => 0)), .inl (cA .int, 8, .inl (fun _ => 0)), .inl (cA .int, 8, .inl (fun _ => 0)), .inl (cA .byte, 1040, .inl (fun _ => 0)), .inl (cA .int, 5, .inl (fun _ => 0)), .inl (cA .int, 12, .inl (fun _ => 0)), .inl (cA .int, 12, .inl (fun _ => 0)), .inl (cA .int, 150, .inl (fun _ => 0)), .inl (cA .int, 150, .inl (fun _ => 0)), .inl (cA .int, 150, .inl (fun _ => 0)), .inl (cA .int, 150, .inl (fun _ => 0)), .inl (cA .int, 150, .inl (fun _ => 0)), .inl (cA .int, 12, .inl (fun _ => 0)), .inl (cA .boolean, 144, .inl (fun _ => 0)), .inl (cA .int, 4, .inl (fun _ => 0)), .inl (cA .byte, 1000, .inl (fun _ => 0)), .inl (cA .int, 300, .inl (fun _ => 0)), .inl (cA .boolean, 150, .inl (fun _ => 0)), .inl (cA .int, 100, .inl (fun _ => 0)), .inl (cA .int, 100, .inl (fun _ => 0)), .inl (cA .int, 100, .inl (fun _ => 0)), .inl (cA .int, 100, .inl (fun _ => 0)), .inl (cA .int, 100, .inl (fun _ => 0)), .inl (cA .int, 500, .inl (fun _ => 0)), .inl (cA .int, 100, .inl (fun _ => 0)), .inl (cA .int, 100, .inl (fun _ => 0)), .inl (cA .int, 100, .inl (fun _ => 0)), .inl (cA .int, 1000, .inl (fun _ => 0)), .inl (cA .long, 100, .inr (.inl (fun _ => 0))), .inl (cA .int, 10, .inl (fun _ => 0)), .inl (cA .int, 4, .inl (fun _ => 0)), .inl (cA .int, 4, .inl (fun _ => 0)), .inl (cA .int, 4, .inl (fun _ => 0)), .inl (cA .int, 4, .inl (fun _ => 0)), .inl (cA .int, 256, .inl (fun _ => 0)), .inl (cA .int, 4, .inl (fun _ => 0)), .inl (cA .boolean, 1200, .inl (fun _ => 0)), .inl (cA .int, 10, .inl (fun _ => 0)), .inl (cA .int, 10, .inl (fun _ => 0))]
abbrev cl3 (cA : FieldType → ClassId) : List va_E := [.inl (cA .long, 1, .inr (.inl (fun _ => 0)))]
def goV (ad : Nat → Nat) (S : St) (q : Nat) : Nat → List Nat → List Value
  | _, [] => []
  | k, d :: ds => fV ad S q k d :: goV ad S q (k + 1) ds
theorem fVs_go (ad : Nat → Nat) (S : St) (q : Nat) (ds : List Nat) : fVs ad S q ds = goV ad S q 0 ds := by
  have h : ∀ (ds : List Nat) (n : Nat), ds.mapIdx (fun k d => fV ad S q (n + k) d) = goV ad S q n ds := by
    intro ds
    induction ds with
    | nil => intro n; rfl
    | cons d ds ih =>
      intro n
      rw [List.mapIdx_cons, goV, ← ih (n + 1)]
      congr 1
      congr 1
      funext k d
      congr 1
      omega
  have h0 := h ds 0
  simp only [Nat.zero_add] at h0
  exact h0
theorem ce_0 (cA : FieldType → ClassId) (base : Nat) : cE cA (fun k => base + k) S0 0 = .inr (11, [.ref (base + 1), .ref (base + 3), .ref (base + 7), .ref (base + 10), .ref (base + 18), .ref (base + 23), .ref (base + 26), .ref (base + 36), .ref (base + 42), .ref (base + 49)]) := by rw [cE_obj dq_0, fVs_go]; rfl
theorem ca_0 (cA : FieldType → ClassId) (base : Nat) : (cl1 cA base ++ (cl2 cA base ++ cl3 cA))[0]? = some (cE cA (fun k => base + k) S0 0) := by rw [ce_0]; rfl
theorem ce_1 (cA : FieldType → ClassId) (base : Nat) : cE cA (fun k => base + k) S0 1 = .inr (0, [.ref (base + 2), .int 0, .int 0]) := by rw [cE_obj dq_1, fVs_go]; rfl
theorem ca_1 (cA : FieldType → ClassId) (base : Nat) : (cl1 cA base ++ (cl2 cA base ++ cl3 cA))[1]? = some (cE cA (fun k => base + k) S0 1) := by rw [ce_1]; rfl
theorem ce_2 (cA : FieldType → ClassId) (base : Nat) : cE cA (fun k => base + k) S0 2 = .inl (cA .byte, 1000, .inl (fun _ => 0)) := by rw [cE_int dq_2 (by decide)]; rfl
theorem ca_2 (cA : FieldType → ClassId) (base : Nat) : (cl1 cA base ++ (cl2 cA base ++ cl3 cA))[2]? = some (cE cA (fun k => base + k) S0 2) := by rw [ce_2]; rfl
theorem ce_3 (cA : FieldType → ClassId) (base : Nat) : cE cA (fun k => base + k) S0 3 = .inr (3, [.ref (base + 4), .ref (base + 5), .ref (base + 6), .int 1]) := by rw [cE_obj dq_3, fVs_go]; rfl
theorem ca_3 (cA : FieldType → ClassId) (base : Nat) : (cl1 cA base ++ (cl2 cA base ++ cl3 cA))[3]? = some (cE cA (fun k => base + k) S0 3) := by rw [ce_3]; rfl
theorem ce_4 (cA : FieldType → ClassId) (base : Nat) : cE cA (fun k => base + k) S0 4 = .inl (cA .int, 300, .inl (fun _ => 0)) := by rw [cE_int dq_4 (by decide)]; rfl
theorem ca_4 (cA : FieldType → ClassId) (base : Nat) : (cl1 cA base ++ (cl2 cA base ++ cl3 cA))[4]? = some (cE cA (fun k => base + k) S0 4) := by rw [ce_4]; rfl
theorem ce_5 (cA : FieldType → ClassId) (base : Nat) : cE cA (fun k => base + k) S0 5 = .inl (cA .long, 300, .inr (.inl (fun _ => 0))) := by rw [cE_long dq_5]; rfl
theorem ca_5 (cA : FieldType → ClassId) (base : Nat) : (cl1 cA base ++ (cl2 cA base ++ cl3 cA))[5]? = some (cE cA (fun k => base + k) S0 5) := by rw [ce_5]; rfl
theorem ce_6 (cA : FieldType → ClassId) (base : Nat) : cE cA (fun k => base + k) S0 6 = .inl (cA .int, 300, .inl (fun _ => 0)) := by rw [cE_int dq_6 (by decide)]; rfl
theorem ca_6 (cA : FieldType → ClassId) (base : Nat) : (cl1 cA base ++ (cl2 cA base ++ cl3 cA))[6]? = some (cE cA (fun k => base + k) S0 6) := by rw [ce_6]; rfl
theorem ce_7 (cA : FieldType → ClassId) (base : Nat) : cE cA (fun k => base + k) S0 7 = .inr (8, [.ref (base + 8), .ref (base + 9), .int 0]) := by rw [cE_obj dq_7, fVs_go]; rfl
theorem ca_7 (cA : FieldType → ClassId) (base : Nat) : (cl1 cA base ++ (cl2 cA base ++ cl3 cA))[7]? = some (cE cA (fun k => base + k) S0 7) := by rw [ce_7]; rfl
theorem ce_8 (cA : FieldType → ClassId) (base : Nat) : cE cA (fun k => base + k) S0 8 = .inl (cA .long, 6, .inr (.inl (fun _ => 0))) := by rw [cE_long dq_8]; rfl
theorem ca_8 (cA : FieldType → ClassId) (base : Nat) : (cl1 cA base ++ (cl2 cA base ++ cl3 cA))[8]? = some (cE cA (fun k => base + k) S0 8) := by rw [ce_8]; rfl
theorem ce_9 (cA : FieldType → ClassId) (base : Nat) : cE cA (fun k => base + k) S0 9 = .inl (cA .int, 6, .inl (fun _ => 0)) := by rw [cE_int dq_9 (by decide)]; rfl
theorem ca_9 (cA : FieldType → ClassId) (base : Nat) : (cl1 cA base ++ (cl2 cA base ++ cl3 cA))[9]? = some (cE cA (fun k => base + k) S0 9) := by rw [ce_9]; rfl
theorem ce_10 (cA : FieldType → ClassId) (base : Nat) : cE cA (fun k => base + k) S0 10 = .inr (10, [.ref (base + 3), .ref (base + 11), .ref (base + 12), .int 0, .ref (base + 13), .ref (base + 14), .ref (base + 15), .ref (base + 16), .ref (base + 17), .int 0]) := by rw [cE_obj dq_10, fVs_go]; rfl
theorem ca_10 (cA : FieldType → ClassId) (base : Nat) : (cl1 cA base ++ (cl2 cA base ++ cl3 cA))[10]? = some (cE cA (fun k => base + k) S0 10) := by rw [ce_10]; rfl
theorem ce_11 (cA : FieldType → ClassId) (base : Nat) : cE cA (fun k => base + k) S0 11 = .inl (cA .int, 12, .inl (fun _ => 0)) := by rw [cE_int dq_11 (by decide)]; rfl
theorem ca_11 (cA : FieldType → ClassId) (base : Nat) : (cl1 cA base ++ (cl2 cA base ++ cl3 cA))[11]? = some (cE cA (fun k => base + k) S0 11) := by rw [ce_11]; rfl
theorem ce_12 (cA : FieldType → ClassId) (base : Nat) : cE cA (fun k => base + k) S0 12 = .inl (cA .int, 12, .inl (fun _ => 0)) := by rw [cE_int dq_12 (by decide)]; rfl
theorem ca_12 (cA : FieldType → ClassId) (base : Nat) : (cl1 cA base ++ (cl2 cA base ++ cl3 cA))[12]? = some (cE cA (fun k => base + k) S0 12) := by rw [ce_12]; rfl
theorem ce_13 (cA : FieldType → ClassId) (base : Nat) : cE cA (fun k => base + k) S0 13 = .inl (cA .int, 150, .inl (fun _ => 0)) := by rw [cE_int dq_13 (by decide)]; rfl
theorem ca_13 (cA : FieldType → ClassId) (base : Nat) : (cl1 cA base ++ (cl2 cA base ++ cl3 cA))[13]? = some (cE cA (fun k => base + k) S0 13) := by rw [ce_13]; rfl
theorem ce_14 (cA : FieldType → ClassId) (base : Nat) : cE cA (fun k => base + k) S0 14 = .inl (cA .int, 150, .inl (fun _ => 0)) := by rw [cE_int dq_14 (by decide)]; rfl
theorem ca_14 (cA : FieldType → ClassId) (base : Nat) : (cl1 cA base ++ (cl2 cA base ++ cl3 cA))[14]? = some (cE cA (fun k => base + k) S0 14) := by rw [ce_14]; rfl
theorem ce_15 (cA : FieldType → ClassId) (base : Nat) : cE cA (fun k => base + k) S0 15 = .inl (cA .int, 150, .inl (fun _ => 0)) := by rw [cE_int dq_15 (by decide)]; rfl
theorem ca_15 (cA : FieldType → ClassId) (base : Nat) : (cl1 cA base ++ (cl2 cA base ++ cl3 cA))[15]? = some (cE cA (fun k => base + k) S0 15) := by rw [ce_15]; rfl
theorem ce_16 (cA : FieldType → ClassId) (base : Nat) : cE cA (fun k => base + k) S0 16 = .inl (cA .int, 150, .inl (fun _ => 0)) := by rw [cE_int dq_16 (by decide)]; rfl
theorem ca_16 (cA : FieldType → ClassId) (base : Nat) : (cl1 cA base ++ (cl2 cA base ++ cl3 cA))[16]? = some (cE cA (fun k => base + k) S0 16) := by rw [ce_16]; rfl
theorem ce_17 (cA : FieldType → ClassId) (base : Nat) : cE cA (fun k => base + k) S0 17 = .inl (cA .int, 150, .inl (fun _ => 0)) := by rw [cE_int dq_17 (by decide)]; rfl
theorem ca_17 (cA : FieldType → ClassId) (base : Nat) : (cl1 cA base ++ (cl2 cA base ++ cl3 cA))[17]? = some (cE cA (fun k => base + k) S0 17) := by rw [ce_17]; rfl
theorem ce_18 (cA : FieldType → ClassId) (base : Nat) : cE cA (fun k => base + k) S0 18 = .inr (9, [.ref (base + 3), .ref (base + 19), .ref (base + 21), .ref (base + 22)]) := by rw [cE_obj dq_18, fVs_go]; rfl
theorem ca_18 (cA : FieldType → ClassId) (base : Nat) : (cl1 cA base ++ (cl2 cA base ++ cl3 cA))[18]? = some (cE cA (fun k => base + k) S0 18) := by rw [ce_18]; rfl
theorem ce_19 (cA : FieldType → ClassId) (base : Nat) : cE cA (fun k => base + k) S0 19 = .inr (0, [.ref (base + 20), .int 0, .int 0]) := by rw [cE_obj dq_19, fVs_go]; rfl
theorem ca_19 (cA : FieldType → ClassId) (base : Nat) : (cl1 cA base ++ (cl2 cA base ++ cl3 cA))[19]? = some (cE cA (fun k => base + k) S0 19) := by rw [ce_19]; rfl
theorem ce_20 (cA : FieldType → ClassId) (base : Nat) : cE cA (fun k => base + k) S0 20 = .inl (cA .byte, 1000, .inl (fun _ => 0)) := by rw [cE_int dq_20 (by decide)]; rfl
theorem ca_20 (cA : FieldType → ClassId) (base : Nat) : (cl1 cA base ++ (cl2 cA base ++ cl3 cA))[20]? = some (cE cA (fun k => base + k) S0 20) := by rw [ce_20]; rfl
theorem ce_21 (cA : FieldType → ClassId) (base : Nat) : cE cA (fun k => base + k) S0 21 = .inl (cA .int, 300, .inl (fun _ => 0)) := by rw [cE_int dq_21 (by decide)]; rfl
theorem ca_21 (cA : FieldType → ClassId) (base : Nat) : (cl1 cA base ++ (cl2 cA base ++ cl3 cA))[21]? = some (cE cA (fun k => base + k) S0 21) := by rw [ce_21]; rfl
theorem ce_22 (cA : FieldType → ClassId) (base : Nat) : cE cA (fun k => base + k) S0 22 = .inl (cA .int, 3, .inl (fun _ => 0)) := by rw [cE_int dq_22 (by decide)]; rfl
theorem ca_22 (cA : FieldType → ClassId) (base : Nat) : (cl1 cA base ++ (cl2 cA base ++ cl3 cA))[22]? = some (cE cA (fun k => base + k) S0 22) := by rw [ce_22]; rfl
theorem ce_23 (cA : FieldType → ClassId) (base : Nat) : cE cA (fun k => base + k) S0 23 = .inr (7, [.ref (base + 3), .ref (base + 10), .ref (base + 24), .ref (base + 25), .int 0]) := by rw [cE_obj dq_23, fVs_go]; rfl
theorem ca_23 (cA : FieldType → ClassId) (base : Nat) : (cl1 cA base ++ (cl2 cA base ++ cl3 cA))[23]? = some (cE cA (fun k => base + k) S0 23) := by rw [ce_23]; rfl
theorem ce_24 (cA : FieldType → ClassId) (base : Nat) : cE cA (fun k => base + k) S0 24 = .inl (cA .int, 12, .inl (fun _ => 0)) := by rw [cE_int dq_24 (by decide)]; rfl
theorem ca_24 (cA : FieldType → ClassId) (base : Nat) : (cl1 cA base ++ (cl2 cA base ++ cl3 cA))[24]? = some (cE cA (fun k => base + k) S0 24) := by rw [ce_24]; rfl
theorem ce_25 (cA : FieldType → ClassId) (base : Nat) : cE cA (fun k => base + k) S0 25 = .inl (cA .int, 12, .inl (fun _ => 0)) := by rw [cE_int dq_25 (by decide)]; rfl
theorem ca_25 (cA : FieldType → ClassId) (base : Nat) : (cl1 cA base ++ (cl2 cA base ++ cl3 cA))[25]? = some (cE cA (fun k => base + k) S0 25) := by rw [ce_25]; rfl
theorem ce_26 (cA : FieldType → ClassId) (base : Nat) : cE cA (fun k => base + k) S0 26 = .inr (4, [.ref (base + 3), .ref (base + 27), .ref (base + 30), .int 0, .int 0, .int 0, .int 0, .int 0, .int 0, .int 0]) := by rw [cE_obj dq_26, fVs_go]; rfl
theorem ca_26 (cA : FieldType → ClassId) (base : Nat) : (cl1 cA base ++ (cl2 cA base ++ cl3 cA))[26]? = some (cE cA (fun k => base + k) S0 26) := by rw [ce_26]; rfl
theorem ce_27 (cA : FieldType → ClassId) (base : Nat) : cE cA (fun k => base + k) S0 27 = .inr (8, [.ref (base + 28), .ref (base + 29), .int 0]) := by rw [cE_obj dq_27, fVs_go]; rfl
theorem ca_27 (cA : FieldType → ClassId) (base : Nat) : (cl1 cA base ++ (cl2 cA base ++ cl3 cA))[27]? = some (cE cA (fun k => base + k) S0 27) := by rw [ce_27]; rfl
theorem ce_28 (cA : FieldType → ClassId) (base : Nat) : cE cA (fun k => base + k) S0 28 = .inl (cA .long, 6, .inr (.inl (fun _ => 0))) := by rw [cE_long dq_28]; rfl
theorem ca_28 (cA : FieldType → ClassId) (base : Nat) : (cl1 cA base ++ (cl2 cA base ++ cl3 cA))[28]? = some (cE cA (fun k => base + k) S0 28) := by rw [ce_28]; rfl
theorem ce_29 (cA : FieldType → ClassId) (base : Nat) : cE cA (fun k => base + k) S0 29 = .inl (cA .int, 6, .inl (fun _ => 0)) := by rw [cE_int dq_29 (by decide)]; rfl
theorem ca_29 (cA : FieldType → ClassId) (base : Nat) : (cl1 cA base ++ (cl2 cA base ++ cl3 cA))[29]? = some (cE cA (fun k => base + k) S0 29) := by rw [ce_29]; rfl
theorem ce_30 (cA : FieldType → ClassId) (base : Nat) : cE cA (fun k => base + k) S0 30 = .inr (5, [.ref (base + 31), .ref (base + 32), .ref (base + 33), .ref (base + 34), .ref (base + 35), .int 0]) := by rw [cE_obj dq_30, fVs_go]; rfl
theorem ca_30 (cA : FieldType → ClassId) (base : Nat) : (cl1 cA base ++ (cl2 cA base ++ cl3 cA))[30]? = some (cE cA (fun k => base + k) S0 30) := by rw [ce_30]; rfl
theorem ce_31 (cA : FieldType → ClassId) (base : Nat) : cE cA (fun k => base + k) S0 31 = .inl (cA .int, 90, .inl (fun _ => 0)) := by rw [cE_int dq_31 (by decide)]; rfl
theorem ca_31 (cA : FieldType → ClassId) (base : Nat) : (cl1 cA base ++ (cl2 cA base ++ cl3 cA))[31]? = some (cE cA (fun k => base + k) S0 31) := by rw [ce_31]; rfl
theorem ce_32 (cA : FieldType → ClassId) (base : Nat) : cE cA (fun k => base + k) S0 32 = .inl (cA .int, 90, .inl (fun _ => 0)) := by rw [cE_int dq_32 (by decide)]; rfl
theorem ca_32 (cA : FieldType → ClassId) (base : Nat) : (cl1 cA base ++ (cl2 cA base ++ cl3 cA))[32]? = some (cE cA (fun k => base + k) S0 32) := by rw [ce_32]; rfl
theorem ce_33 (cA : FieldType → ClassId) (base : Nat) : cE cA (fun k => base + k) S0 33 = .inl (cA .int, 90, .inl (fun _ => 0)) := by rw [cE_int dq_33 (by decide)]; rfl
theorem ca_33 (cA : FieldType → ClassId) (base : Nat) : (cl1 cA base ++ (cl2 cA base ++ cl3 cA))[33]? = some (cE cA (fun k => base + k) S0 33) := by rw [ce_33]; rfl
theorem ce_34 (cA : FieldType → ClassId) (base : Nat) : cE cA (fun k => base + k) S0 34 = .inl (cA .int, 90, .inl (fun _ => 0)) := by rw [cE_int dq_34 (by decide)]; rfl
theorem ca_34 (cA : FieldType → ClassId) (base : Nat) : (cl1 cA base ++ (cl2 cA base ++ cl3 cA))[34]? = some (cE cA (fun k => base + k) S0 34) := by rw [ce_34]; rfl
theorem ce_35 (cA : FieldType → ClassId) (base : Nat) : cE cA (fun k => base + k) S0 35 = .inl (cA .int, 90, .inl (fun _ => 0)) := by rw [cE_int dq_35 (by decide)]; rfl
theorem ca_35 (cA : FieldType → ClassId) (base : Nat) : (cl1 cA base ++ (cl2 cA base ++ cl3 cA))[35]? = some (cE cA (fun k => base + k) S0 35) := by rw [ce_35]; rfl
theorem ce_36 (cA : FieldType → ClassId) (base : Nat) : cE cA (fun k => base + k) S0 36 = .inr (5, [.ref (base + 37), .ref (base + 38), .ref (base + 39), .ref (base + 40), .ref (base + 41), .int 0]) := by rw [cE_obj dq_36, fVs_go]; rfl
theorem ca_36 (cA : FieldType → ClassId) (base : Nat) : (cl1 cA base ++ (cl2 cA base ++ cl3 cA))[36]? = some (cE cA (fun k => base + k) S0 36) := by rw [ce_36]; rfl
theorem ce_37 (cA : FieldType → ClassId) (base : Nat) : cE cA (fun k => base + k) S0 37 = .inl (cA .int, 90, .inl (fun _ => 0)) := by rw [cE_int dq_37 (by decide)]; rfl
theorem ca_37 (cA : FieldType → ClassId) (base : Nat) : (cl1 cA base ++ (cl2 cA base ++ cl3 cA))[37]? = some (cE cA (fun k => base + k) S0 37) := by rw [ce_37]; rfl
theorem ce_38 (cA : FieldType → ClassId) (base : Nat) : cE cA (fun k => base + k) S0 38 = .inl (cA .int, 90, .inl (fun _ => 0)) := by rw [cE_int dq_38 (by decide)]; rfl
theorem ca_38 (cA : FieldType → ClassId) (base : Nat) : (cl1 cA base ++ (cl2 cA base ++ cl3 cA))[38]? = some (cE cA (fun k => base + k) S0 38) := by rw [ce_38]; rfl
theorem ce_39 (cA : FieldType → ClassId) (base : Nat) : cE cA (fun k => base + k) S0 39 = .inl (cA .int, 90, .inl (fun _ => 0)) := by rw [cE_int dq_39 (by decide)]; rfl
theorem ca_39 (cA : FieldType → ClassId) (base : Nat) : (cl1 cA base ++ (cl2 cA base ++ cl3 cA))[39]? = some (cE cA (fun k => base + k) S0 39) := by rw [ce_39]; rfl
theorem ce_40 (cA : FieldType → ClassId) (base : Nat) : cE cA (fun k => base + k) S0 40 = .inl (cA .int, 90, .inl (fun _ => 0)) := by rw [cE_int dq_40 (by decide)]; rfl
theorem ca_40 (cA : FieldType → ClassId) (base : Nat) : (cl1 cA base ++ (cl2 cA base ++ cl3 cA))[40]? = some (cE cA (fun k => base + k) S0 40) := by rw [ce_40]; rfl
theorem ce_41 (cA : FieldType → ClassId) (base : Nat) : cE cA (fun k => base + k) S0 41 = .inl (cA .int, 90, .inl (fun _ => 0)) := by rw [cE_int dq_41 (by decide)]; rfl
theorem ca_41 (cA : FieldType → ClassId) (base : Nat) : (cl1 cA base ++ (cl2 cA base ++ cl3 cA))[41]? = some (cE cA (fun k => base + k) S0 41) := by rw [ce_41]; rfl
theorem ce_42 (cA : FieldType → ClassId) (base : Nat) : cE cA (fun k => base + k) S0 42 = .inr (1, [.ref (base + 43), .ref (base + 44), .ref (base + 45), .ref (base + 46), .ref (base + 47), .ref (base + 48), .int 0, .int 0, .int 0]) := by rw [cE_obj dq_42, fVs_go]; rfl
theorem ca_42 (cA : FieldType → ClassId) (base : Nat) : (cl1 cA base ++ (cl2 cA base ++ cl3 cA))[42]? = some (cE cA (fun k => base + k) S0 42) := by rw [ce_42]; rfl
theorem ce_43 (cA : FieldType → ClassId) (base : Nat) : cE cA (fun k => base + k) S0 43 = .inl (cA .int, 100, .inl (fun _ => 0)) := by rw [cE_int dq_43 (by decide)]; rfl
theorem ca_43 (cA : FieldType → ClassId) (base : Nat) : (cl1 cA base ++ (cl2 cA base ++ cl3 cA))[43]? = some (cE cA (fun k => base + k) S0 43) := by rw [ce_43]; rfl
theorem ce_44 (cA : FieldType → ClassId) (base : Nat) : cE cA (fun k => base + k) S0 44 = .inl (cA .int, 100, .inl (fun _ => 0)) := by rw [cE_int dq_44 (by decide)]; rfl
theorem ca_44 (cA : FieldType → ClassId) (base : Nat) : (cl1 cA base ++ (cl2 cA base ++ cl3 cA))[44]? = some (cE cA (fun k => base + k) S0 44) := by rw [ce_44]; rfl
theorem ce_45 (cA : FieldType → ClassId) (base : Nat) : cE cA (fun k => base + k) S0 45 = .inl (cA .long, 100, .inr (.inl (fun _ => 0))) := by rw [cE_long dq_45]; rfl
theorem ca_45 (cA : FieldType → ClassId) (base : Nat) : (cl1 cA base ++ (cl2 cA base ++ cl3 cA))[45]? = some (cE cA (fun k => base + k) S0 45) := by rw [ce_45]; rfl
theorem ce_46 (cA : FieldType → ClassId) (base : Nat) : cE cA (fun k => base + k) S0 46 = .inl (cA .int, 100, .inl (fun _ => 0)) := by rw [cE_int dq_46 (by decide)]; rfl
theorem ca_46 (cA : FieldType → ClassId) (base : Nat) : (cl1 cA base ++ (cl2 cA base ++ cl3 cA))[46]? = some (cE cA (fun k => base + k) S0 46) := by rw [ce_46]; rfl
theorem ce_47 (cA : FieldType → ClassId) (base : Nat) : cE cA (fun k => base + k) S0 47 = .inl (cA .int, 100, .inl (fun _ => 0)) := by rw [cE_int dq_47 (by decide)]; rfl
theorem ca_47 (cA : FieldType → ClassId) (base : Nat) : (cl1 cA base ++ (cl2 cA base ++ cl3 cA))[47]? = some (cE cA (fun k => base + k) S0 47) := by rw [ce_47]; rfl
theorem ce_48 (cA : FieldType → ClassId) (base : Nat) : cE cA (fun k => base + k) S0 48 = .inl (cA .int, 1000, .inl (fun _ => 0)) := by rw [cE_int dq_48 (by decide)]; rfl
theorem ca_48 (cA : FieldType → ClassId) (base : Nat) : (cl1 cA base ++ (cl2 cA base ++ cl3 cA))[48]? = some (cE cA (fun k => base + k) S0 48) := by rw [ce_48]; rfl
theorem ce_49 (cA : FieldType → ClassId) (base : Nat) : cE cA (fun k => base + k) S0 49 = .inr (6, [.ref (base + 3), .ref (base + 42), .ref (base + 50), .ref (base + 59), .int 0, .int 5, .int 0, .int 0, .int 0, .int 0, .ref (base + 60), .int 0, .ref (base + 61), .ref (base + 62)]) := by rw [cE_obj dq_49, fVs_go]; rfl
theorem ca_49 (cA : FieldType → ClassId) (base : Nat) : (cl1 cA base ++ (cl2 cA base ++ cl3 cA))[49]? = some (cE cA (fun k => base + k) S0 49) := by rw [ce_49]; rfl
theorem ce_50 (cA : FieldType → ClassId) (base : Nat) : cE cA (fun k => base + k) S0 50 = .inr (2, [.ref (base + 51), .ref (base + 52), .ref (base + 53), .ref (base + 54), .ref (base + 55), .ref (base + 56), .ref (base + 57), .ref (base + 58), .int 0, .int 0]) := by rw [cE_obj dq_50, fVs_go]; rfl
theorem ca_50 (cA : FieldType → ClassId) (base : Nat) : (cl1 cA base ++ (cl2 cA base ++ cl3 cA))[50]? = some (cE cA (fun k => base + k) S0 50) := by rw [ce_50]; rfl
theorem ce_51 (cA : FieldType → ClassId) (base : Nat) : cE cA (fun k => base + k) S0 51 = .inl (cA .int, 4, .inl (fun _ => 0)) := by rw [cE_int dq_51 (by decide)]; rfl
theorem ca_51 (cA : FieldType → ClassId) (base : Nat) : (cl1 cA base ++ (cl2 cA base ++ cl3 cA))[51]? = some (cE cA (fun k => base + k) S0 51) := by rw [ce_51]; rfl
theorem ce_52 (cA : FieldType → ClassId) (base : Nat) : cE cA (fun k => base + k) S0 52 = .inl (cA .int, 4, .inl (fun _ => 0)) := by rw [cE_int dq_52 (by decide)]; rfl
theorem ca_52 (cA : FieldType → ClassId) (base : Nat) : (cl1 cA base ++ (cl2 cA base ++ cl3 cA))[52]? = some (cE cA (fun k => base + k) S0 52) := by rw [ce_52]; rfl
theorem ce_53 (cA : FieldType → ClassId) (base : Nat) : cE cA (fun k => base + k) S0 53 = .inl (cA .int, 4, .inl (fun _ => 0)) := by rw [cE_int dq_53 (by decide)]; rfl
theorem ca_53 (cA : FieldType → ClassId) (base : Nat) : (cl1 cA base ++ (cl2 cA base ++ cl3 cA))[53]? = some (cE cA (fun k => base + k) S0 53) := by rw [ce_53]; rfl
theorem ce_54 (cA : FieldType → ClassId) (base : Nat) : cE cA (fun k => base + k) S0 54 = .inl (cA .int, 4, .inl (fun _ => 0)) := by rw [cE_int dq_54 (by decide)]; rfl
theorem ca_54 (cA : FieldType → ClassId) (base : Nat) : (cl1 cA base ++ (cl2 cA base ++ cl3 cA))[54]? = some (cE cA (fun k => base + k) S0 54) := by rw [ce_54]; rfl
theorem ce_55 (cA : FieldType → ClassId) (base : Nat) : cE cA (fun k => base + k) S0 55 = .inl (cA .int, 160, .inl (fun _ => 0)) := by rw [cE_int dq_55 (by decide)]; rfl
theorem ca_55 (cA : FieldType → ClassId) (base : Nat) : (cl1 cA base ++ (cl2 cA base ++ cl3 cA))[55]? = some (cE cA (fun k => base + k) S0 55) := by rw [ce_55]; rfl
theorem ce_56 (cA : FieldType → ClassId) (base : Nat) : cE cA (fun k => base + k) S0 56 = .inl (cA .int, 4, .inl (fun _ => 0)) := by rw [cE_int dq_56 (by decide)]; rfl
theorem ca_56 (cA : FieldType → ClassId) (base : Nat) : (cl1 cA base ++ (cl2 cA base ++ cl3 cA))[56]? = some (cE cA (fun k => base + k) S0 56) := by rw [ce_56]; rfl
theorem ce_57 (cA : FieldType → ClassId) (base : Nat) : cE cA (fun k => base + k) S0 57 = .inl (cA .int, 1200, .inl (fun _ => 0)) := by rw [cE_int dq_57 (by decide)]; rfl
theorem ca_57 (cA : FieldType → ClassId) (base : Nat) : (cl1 cA base ++ (cl2 cA base ++ cl3 cA))[57]? = some (cE cA (fun k => base + k) S0 57) := by rw [ce_57]; rfl
theorem ce_58 (cA : FieldType → ClassId) (base : Nat) : cE cA (fun k => base + k) S0 58 = .inl (cA .int, 4, .inl (fun _ => 0)) := by rw [cE_int dq_58 (by decide)]; rfl
theorem ca_58 (cA : FieldType → ClassId) (base : Nat) : (cl1 cA base ++ (cl2 cA base ++ cl3 cA))[58]? = some (cE cA (fun k => base + k) S0 58) := by rw [ce_58]; rfl
theorem ce_59 (cA : FieldType → ClassId) (base : Nat) : cE cA (fun k => base + k) S0 59 = .inl (cA .int, 4, .inl (fun _ => 0)) := by rw [cE_int dq_59 (by decide)]; rfl
theorem ca_59 (cA : FieldType → ClassId) (base : Nat) : (cl1 cA base ++ (cl2 cA base ++ cl3 cA))[59]? = some (cE cA (fun k => base + k) S0 59) := by rw [ce_59]; rfl
theorem ce_60 (cA : FieldType → ClassId) (base : Nat) : cE cA (fun k => base + k) S0 60 = .inl (cA .int, 10, .inl (fun _ => 0)) := by rw [cE_int dq_60 (by decide)]; rfl
theorem ca_60 (cA : FieldType → ClassId) (base : Nat) : (cl1 cA base ++ (cl2 cA base ++ cl3 cA))[60]? = some (cE cA (fun k => base + k) S0 60) := by rw [ce_60]; rfl
theorem ce_61 (cA : FieldType → ClassId) (base : Nat) : cE cA (fun k => base + k) S0 61 = .inl (cA .int, 10, .inl (fun _ => 0)) := by rw [cE_int dq_61 (by decide)]; rfl
theorem ca_61 (cA : FieldType → ClassId) (base : Nat) : (cl1 cA base ++ (cl2 cA base ++ cl3 cA))[61]? = some (cE cA (fun k => base + k) S0 61) := by rw [ce_61]; rfl
theorem ce_62 (cA : FieldType → ClassId) (base : Nat) : cE cA (fun k => base + k) S0 62 = .inl (cA .int, 10, .inl (fun _ => 0)) := by rw [cE_int dq_62 (by decide)]; rfl
theorem ca_62 (cA : FieldType → ClassId) (base : Nat) : (cl1 cA base ++ (cl2 cA base ++ cl3 cA))[62]? = some (cE cA (fun k => base + k) S0 62) := by rw [ce_62]; rfl
theorem ce_63 (cA : FieldType → ClassId) (base : Nat) : cE cA (fun k => base + k) S0 63 = .inr (12, [.int 0, .ref (base + 64), .ref (base + 65), .ref (base + 66), .ref (base + 67), .int 1, .ref (base + 68), .ref (base + 69), .int 0, .ref (base + 70), .int 0, .ref (base + 71), .ref (base + 72), .ref (base + 73), .int 0, .ref (base + 74), .ref (base + 75), .ref (base + 76), .ref (base + 77), .ref (base + 78), .int 0, .ref (base + 79), .ref (base + 80), .int 0, .ref (base + 81), .int 0, .ref (base + 82), .int 0, .ref (base + 83), .ref (base + 84), .int 0, .int 0, .int 0, .int 0, .int 0, .int 0, .int 0, .ref (base + 85), .ref (base + 86), .ref (base + 87), .ref (base + 88), .ref (base + 89), .int 0, .ref (base + 90), .int 0, .ref (base + 91), .ref (base + 92), .ref (base + 93), .ref (base + 94), .ref (base + 95), .int 0, .int 0, .ref (base + 96), .int 0, .long 0, .ref (base + 97), .ref (base + 98), .ref (base + 99), .ref (base + 100), .ref (base + 101), .ref (base + 102), .ref (base + 103), .int 0, .int 5, .int 1, .int 0, .int 0, .int 0, .int 0, .int 0, .ref (base + 104), .int 0, .ref (base + 105)]) := by rw [cE_obj dq_63, fVs_go]; rfl
theorem ca_63 (cA : FieldType → ClassId) (base : Nat) : (cl1 cA base ++ (cl2 cA base ++ cl3 cA))[63]? = some (cE cA (fun k => base + k) S0 63) := by rw [ce_63]; rfl
theorem ce_64 (cA : FieldType → ClassId) (base : Nat) : cE cA (fun k => base + k) S0 64 = .inl (cA .int, 300, .inl (fun _ => 0)) := by rw [cE_int dq_64 (by decide)]; rfl
theorem ca_64 (cA : FieldType → ClassId) (base : Nat) : (cl1 cA base ++ (cl2 cA base ++ cl3 cA))[64]? = some (cE cA (fun k => base + k) S0 64) := by rw [ce_64]; rfl
theorem ce_65 (cA : FieldType → ClassId) (base : Nat) : cE cA (fun k => base + k) S0 65 = .inl (cA .byte, 3000, .inl (fun _ => 0)) := by rw [cE_int dq_65 (by decide)]; rfl
theorem ca_65 (cA : FieldType → ClassId) (base : Nat) : (cl1 cA base ++ (cl2 cA base ++ cl3 cA))[65]? = some (cE cA (fun k => base + k) S0 65) := by rw [ce_65]; rfl
theorem ce_66 (cA : FieldType → ClassId) (base : Nat) : cE cA (fun k => base + k) S0 66 = .inl (cA .int, 300, .inl (fun _ => 0)) := by rw [cE_int dq_66 (by decide)]; rfl
theorem ca_66 (cA : FieldType → ClassId) (base : Nat) : (cl1 cA base ++ (cl2 cA base ++ cl3 cA))[66]? = some (cE cA (fun k => base + k) S0 66) := by rw [ce_66]; rfl
theorem ce_67 (cA : FieldType → ClassId) (base : Nat) : cE cA (fun k => base + k) S0 67 = .inl (cA .int, 300, .inl (fun _ => 0)) := by rw [cE_int dq_67 (by decide)]; rfl
theorem ca_67 (cA : FieldType → ClassId) (base : Nat) : (cl1 cA base ++ (cl2 cA base ++ cl3 cA))[67]? = some (cE cA (fun k => base + k) S0 67) := by rw [ce_67]; rfl
theorem ce_68 (cA : FieldType → ClassId) (base : Nat) : cE cA (fun k => base + k) S0 68 = .inl (cA .int, 8, .inl (fun _ => 0)) := by rw [cE_int dq_68 (by decide)]; rfl
theorem ca_68 (cA : FieldType → ClassId) (base : Nat) : (cl1 cA base ++ (cl2 cA base ++ cl3 cA))[68]? = some (cE cA (fun k => base + k) S0 68) := by rw [ce_68]; rfl
theorem ce_69 (cA : FieldType → ClassId) (base : Nat) : cE cA (fun k => base + k) S0 69 = .inl (cA .int, 8, .inl (fun _ => 0)) := by rw [cE_int dq_69 (by decide)]; rfl
theorem ca_69 (cA : FieldType → ClassId) (base : Nat) : (cl1 cA base ++ (cl2 cA base ++ cl3 cA))[69]? = some (cE cA (fun k => base + k) S0 69) := by rw [ce_69]; rfl
theorem ce_70 (cA : FieldType → ClassId) (base : Nat) : cE cA (fun k => base + k) S0 70 = .inl (cA .byte, 1040, .inl (fun _ => 0)) := by rw [cE_int dq_70 (by decide)]; rfl
theorem ca_70 (cA : FieldType → ClassId) (base : Nat) : (cl1 cA base ++ (cl2 cA base ++ cl3 cA))[70]? = some (cE cA (fun k => base + k) S0 70) := by rw [ce_70]; rfl
theorem ce_71 (cA : FieldType → ClassId) (base : Nat) : cE cA (fun k => base + k) S0 71 = .inl (cA .int, 5, .inl (fun _ => 0)) := by rw [cE_int dq_71 (by decide)]; rfl
theorem ca_71 (cA : FieldType → ClassId) (base : Nat) : (cl1 cA base ++ (cl2 cA base ++ cl3 cA))[71]? = some (cE cA (fun k => base + k) S0 71) := by rw [ce_71]; rfl
theorem ce_72 (cA : FieldType → ClassId) (base : Nat) : cE cA (fun k => base + k) S0 72 = .inl (cA .int, 12, .inl (fun _ => 0)) := by rw [cE_int dq_72 (by decide)]; rfl
theorem ca_72 (cA : FieldType → ClassId) (base : Nat) : (cl1 cA base ++ (cl2 cA base ++ cl3 cA))[72]? = some (cE cA (fun k => base + k) S0 72) := by rw [ce_72]; rfl
theorem ce_73 (cA : FieldType → ClassId) (base : Nat) : cE cA (fun k => base + k) S0 73 = .inl (cA .int, 12, .inl (fun _ => 0)) := by rw [cE_int dq_73 (by decide)]; rfl
theorem ca_73 (cA : FieldType → ClassId) (base : Nat) : (cl1 cA base ++ (cl2 cA base ++ cl3 cA))[73]? = some (cE cA (fun k => base + k) S0 73) := by rw [ce_73]; rfl
theorem ce_74 (cA : FieldType → ClassId) (base : Nat) : cE cA (fun k => base + k) S0 74 = .inl (cA .int, 150, .inl (fun _ => 0)) := by rw [cE_int dq_74 (by decide)]; rfl
theorem ca_74 (cA : FieldType → ClassId) (base : Nat) : (cl1 cA base ++ (cl2 cA base ++ cl3 cA))[74]? = some (cE cA (fun k => base + k) S0 74) := by rw [ce_74]; rfl
theorem ce_75 (cA : FieldType → ClassId) (base : Nat) : cE cA (fun k => base + k) S0 75 = .inl (cA .int, 150, .inl (fun _ => 0)) := by rw [cE_int dq_75 (by decide)]; rfl
theorem ca_75 (cA : FieldType → ClassId) (base : Nat) : (cl1 cA base ++ (cl2 cA base ++ cl3 cA))[75]? = some (cE cA (fun k => base + k) S0 75) := by rw [ce_75]; rfl
theorem ce_76 (cA : FieldType → ClassId) (base : Nat) : cE cA (fun k => base + k) S0 76 = .inl (cA .int, 150, .inl (fun _ => 0)) := by rw [cE_int dq_76 (by decide)]; rfl
theorem ca_76 (cA : FieldType → ClassId) (base : Nat) : (cl1 cA base ++ (cl2 cA base ++ cl3 cA))[76]? = some (cE cA (fun k => base + k) S0 76) := by rw [ce_76]; rfl
theorem ce_77 (cA : FieldType → ClassId) (base : Nat) : cE cA (fun k => base + k) S0 77 = .inl (cA .int, 150, .inl (fun _ => 0)) := by rw [cE_int dq_77 (by decide)]; rfl
theorem ca_77 (cA : FieldType → ClassId) (base : Nat) : (cl1 cA base ++ (cl2 cA base ++ cl3 cA))[77]? = some (cE cA (fun k => base + k) S0 77) := by rw [ce_77]; rfl
theorem ce_78 (cA : FieldType → ClassId) (base : Nat) : cE cA (fun k => base + k) S0 78 = .inl (cA .int, 150, .inl (fun _ => 0)) := by rw [cE_int dq_78 (by decide)]; rfl
theorem ca_78 (cA : FieldType → ClassId) (base : Nat) : (cl1 cA base ++ (cl2 cA base ++ cl3 cA))[78]? = some (cE cA (fun k => base + k) S0 78) := by rw [ce_78]; rfl
theorem ce_79 (cA : FieldType → ClassId) (base : Nat) : cE cA (fun k => base + k) S0 79 = .inl (cA .int, 12, .inl (fun _ => 0)) := by rw [cE_int dq_79 (by decide)]; rfl
theorem ca_79 (cA : FieldType → ClassId) (base : Nat) : (cl1 cA base ++ (cl2 cA base ++ cl3 cA))[79]? = some (cE cA (fun k => base + k) S0 79) := by rw [ce_79]; rfl
theorem ce_80 (cA : FieldType → ClassId) (base : Nat) : cE cA (fun k => base + k) S0 80 = .inl (cA .boolean, 144, .inl (fun _ => 0)) := by rw [cE_int dq_80 (by decide)]; rfl
theorem ca_80 (cA : FieldType → ClassId) (base : Nat) : (cl1 cA base ++ (cl2 cA base ++ cl3 cA))[80]? = some (cE cA (fun k => base + k) S0 80) := by rw [ce_80]; rfl
theorem ce_81 (cA : FieldType → ClassId) (base : Nat) : cE cA (fun k => base + k) S0 81 = .inl (cA .int, 4, .inl (fun _ => 0)) := by rw [cE_int dq_81 (by decide)]; rfl
theorem ca_81 (cA : FieldType → ClassId) (base : Nat) : (cl1 cA base ++ (cl2 cA base ++ cl3 cA))[81]? = some (cE cA (fun k => base + k) S0 81) := by rw [ce_81]; rfl
theorem ce_82 (cA : FieldType → ClassId) (base : Nat) : cE cA (fun k => base + k) S0 82 = .inl (cA .byte, 1000, .inl (fun _ => 0)) := by rw [cE_int dq_82 (by decide)]; rfl
theorem ca_82 (cA : FieldType → ClassId) (base : Nat) : (cl1 cA base ++ (cl2 cA base ++ cl3 cA))[82]? = some (cE cA (fun k => base + k) S0 82) := by rw [ce_82]; rfl
theorem ce_83 (cA : FieldType → ClassId) (base : Nat) : cE cA (fun k => base + k) S0 83 = .inl (cA .int, 300, .inl (fun _ => 0)) := by rw [cE_int dq_83 (by decide)]; rfl
theorem ca_83 (cA : FieldType → ClassId) (base : Nat) : (cl1 cA base ++ (cl2 cA base ++ cl3 cA))[83]? = some (cE cA (fun k => base + k) S0 83) := by rw [ce_83]; rfl
theorem ce_84 (cA : FieldType → ClassId) (base : Nat) : cE cA (fun k => base + k) S0 84 = .inl (cA .boolean, 150, .inl (fun _ => 0)) := by rw [cE_int dq_84 (by decide)]; rfl
theorem ca_84 (cA : FieldType → ClassId) (base : Nat) : (cl1 cA base ++ (cl2 cA base ++ cl3 cA))[84]? = some (cE cA (fun k => base + k) S0 84) := by rw [ce_84]; rfl
theorem ce_85 (cA : FieldType → ClassId) (base : Nat) : cE cA (fun k => base + k) S0 85 = .inl (cA .int, 100, .inl (fun _ => 0)) := by rw [cE_int dq_85 (by decide)]; rfl
theorem ca_85 (cA : FieldType → ClassId) (base : Nat) : (cl1 cA base ++ (cl2 cA base ++ cl3 cA))[85]? = some (cE cA (fun k => base + k) S0 85) := by rw [ce_85]; rfl
theorem ce_86 (cA : FieldType → ClassId) (base : Nat) : cE cA (fun k => base + k) S0 86 = .inl (cA .int, 100, .inl (fun _ => 0)) := by rw [cE_int dq_86 (by decide)]; rfl
theorem ca_86 (cA : FieldType → ClassId) (base : Nat) : (cl1 cA base ++ (cl2 cA base ++ cl3 cA))[86]? = some (cE cA (fun k => base + k) S0 86) := by rw [ce_86]; rfl
theorem ce_87 (cA : FieldType → ClassId) (base : Nat) : cE cA (fun k => base + k) S0 87 = .inl (cA .int, 100, .inl (fun _ => 0)) := by rw [cE_int dq_87 (by decide)]; rfl
theorem ca_87 (cA : FieldType → ClassId) (base : Nat) : (cl1 cA base ++ (cl2 cA base ++ cl3 cA))[87]? = some (cE cA (fun k => base + k) S0 87) := by rw [ce_87]; rfl
theorem ce_88 (cA : FieldType → ClassId) (base : Nat) : cE cA (fun k => base + k) S0 88 = .inl (cA .int, 100, .inl (fun _ => 0)) := by rw [cE_int dq_88 (by decide)]; rfl
theorem ca_88 (cA : FieldType → ClassId) (base : Nat) : (cl1 cA base ++ (cl2 cA base ++ cl3 cA))[88]? = some (cE cA (fun k => base + k) S0 88) := by rw [ce_88]; rfl
theorem ce_89 (cA : FieldType → ClassId) (base : Nat) : cE cA (fun k => base + k) S0 89 = .inl (cA .int, 100, .inl (fun _ => 0)) := by rw [cE_int dq_89 (by decide)]; rfl
theorem ca_89 (cA : FieldType → ClassId) (base : Nat) : (cl1 cA base ++ (cl2 cA base ++ cl3 cA))[89]? = some (cE cA (fun k => base + k) S0 89) := by rw [ce_89]; rfl
theorem ce_90 (cA : FieldType → ClassId) (base : Nat) : cE cA (fun k => base + k) S0 90 = .inl (cA .int, 500, .inl (fun _ => 0)) := by rw [cE_int dq_90 (by decide)]; rfl
theorem ca_90 (cA : FieldType → ClassId) (base : Nat) : (cl1 cA base ++ (cl2 cA base ++ cl3 cA))[90]? = some (cE cA (fun k => base + k) S0 90) := by rw [ce_90]; rfl
theorem ce_91 (cA : FieldType → ClassId) (base : Nat) : cE cA (fun k => base + k) S0 91 = .inl (cA .int, 100, .inl (fun _ => 0)) := by rw [cE_int dq_91 (by decide)]; rfl
theorem ca_91 (cA : FieldType → ClassId) (base : Nat) : (cl1 cA base ++ (cl2 cA base ++ cl3 cA))[91]? = some (cE cA (fun k => base + k) S0 91) := by rw [ce_91]; rfl
theorem ce_92 (cA : FieldType → ClassId) (base : Nat) : cE cA (fun k => base + k) S0 92 = .inl (cA .int, 100, .inl (fun _ => 0)) := by rw [cE_int dq_92 (by decide)]; rfl
theorem ca_92 (cA : FieldType → ClassId) (base : Nat) : (cl1 cA base ++ (cl2 cA base ++ cl3 cA))[92]? = some (cE cA (fun k => base + k) S0 92) := by rw [ce_92]; rfl
theorem ce_93 (cA : FieldType → ClassId) (base : Nat) : cE cA (fun k => base + k) S0 93 = .inl (cA .int, 100, .inl (fun _ => 0)) := by rw [cE_int dq_93 (by decide)]; rfl
theorem ca_93 (cA : FieldType → ClassId) (base : Nat) : (cl1 cA base ++ (cl2 cA base ++ cl3 cA))[93]? = some (cE cA (fun k => base + k) S0 93) := by rw [ce_93]; rfl
theorem ce_94 (cA : FieldType → ClassId) (base : Nat) : cE cA (fun k => base + k) S0 94 = .inl (cA .int, 1000, .inl (fun _ => 0)) := by rw [cE_int dq_94 (by decide)]; rfl
theorem ca_94 (cA : FieldType → ClassId) (base : Nat) : (cl1 cA base ++ (cl2 cA base ++ cl3 cA))[94]? = some (cE cA (fun k => base + k) S0 94) := by rw [ce_94]; rfl
theorem ce_95 (cA : FieldType → ClassId) (base : Nat) : cE cA (fun k => base + k) S0 95 = .inl (cA .long, 100, .inr (.inl (fun _ => 0))) := by rw [cE_long dq_95]; rfl
theorem ca_95 (cA : FieldType → ClassId) (base : Nat) : (cl1 cA base ++ (cl2 cA base ++ cl3 cA))[95]? = some (cE cA (fun k => base + k) S0 95) := by rw [ce_95]; rfl
theorem ce_96 (cA : FieldType → ClassId) (base : Nat) : cE cA (fun k => base + k) S0 96 = .inl (cA .int, 10, .inl (fun _ => 0)) := by rw [cE_int dq_96 (by decide)]; rfl
theorem ca_96 (cA : FieldType → ClassId) (base : Nat) : (cl1 cA base ++ (cl2 cA base ++ cl3 cA))[96]? = some (cE cA (fun k => base + k) S0 96) := by rw [ce_96]; rfl
theorem ce_97 (cA : FieldType → ClassId) (base : Nat) : cE cA (fun k => base + k) S0 97 = .inl (cA .int, 4, .inl (fun _ => 0)) := by rw [cE_int dq_97 (by decide)]; rfl
theorem ca_97 (cA : FieldType → ClassId) (base : Nat) : (cl1 cA base ++ (cl2 cA base ++ cl3 cA))[97]? = some (cE cA (fun k => base + k) S0 97) := by rw [ce_97]; rfl
theorem ce_98 (cA : FieldType → ClassId) (base : Nat) : cE cA (fun k => base + k) S0 98 = .inl (cA .int, 4, .inl (fun _ => 0)) := by rw [cE_int dq_98 (by decide)]; rfl
theorem ca_98 (cA : FieldType → ClassId) (base : Nat) : (cl1 cA base ++ (cl2 cA base ++ cl3 cA))[98]? = some (cE cA (fun k => base + k) S0 98) := by rw [ce_98]; rfl
theorem ce_99 (cA : FieldType → ClassId) (base : Nat) : cE cA (fun k => base + k) S0 99 = .inl (cA .int, 4, .inl (fun _ => 0)) := by rw [cE_int dq_99 (by decide)]; rfl
theorem ca_99 (cA : FieldType → ClassId) (base : Nat) : (cl1 cA base ++ (cl2 cA base ++ cl3 cA))[99]? = some (cE cA (fun k => base + k) S0 99) := by rw [ce_99]; rfl
theorem ce_100 (cA : FieldType → ClassId) (base : Nat) : cE cA (fun k => base + k) S0 100 = .inl (cA .int, 4, .inl (fun _ => 0)) := by rw [cE_int dq_100 (by decide)]; rfl
theorem ca_100 (cA : FieldType → ClassId) (base : Nat) : (cl1 cA base ++ (cl2 cA base ++ cl3 cA))[100]? = some (cE cA (fun k => base + k) S0 100) := by rw [ce_100]; rfl
theorem ce_101 (cA : FieldType → ClassId) (base : Nat) : cE cA (fun k => base + k) S0 101 = .inl (cA .int, 256, .inl (fun _ => 0)) := by rw [cE_int dq_101 (by decide)]; rfl
theorem ca_101 (cA : FieldType → ClassId) (base : Nat) : (cl1 cA base ++ (cl2 cA base ++ cl3 cA))[101]? = some (cE cA (fun k => base + k) S0 101) := by rw [ce_101]; rfl
theorem ce_102 (cA : FieldType → ClassId) (base : Nat) : cE cA (fun k => base + k) S0 102 = .inl (cA .int, 4, .inl (fun _ => 0)) := by rw [cE_int dq_102 (by decide)]; rfl
theorem ca_102 (cA : FieldType → ClassId) (base : Nat) : (cl1 cA base ++ (cl2 cA base ++ cl3 cA))[102]? = some (cE cA (fun k => base + k) S0 102) := by rw [ce_102]; rfl
theorem ce_103 (cA : FieldType → ClassId) (base : Nat) : cE cA (fun k => base + k) S0 103 = .inl (cA .boolean, 1200, .inl (fun _ => 0)) := by rw [cE_int dq_103 (by decide)]; rfl
theorem ca_103 (cA : FieldType → ClassId) (base : Nat) : (cl1 cA base ++ (cl2 cA base ++ cl3 cA))[103]? = some (cE cA (fun k => base + k) S0 103) := by rw [ce_103]; rfl
theorem ce_104 (cA : FieldType → ClassId) (base : Nat) : cE cA (fun k => base + k) S0 104 = .inl (cA .int, 10, .inl (fun _ => 0)) := by rw [cE_int dq_104 (by decide)]; rfl
theorem ca_104 (cA : FieldType → ClassId) (base : Nat) : (cl1 cA base ++ (cl2 cA base ++ cl3 cA))[104]? = some (cE cA (fun k => base + k) S0 104) := by rw [ce_104]; rfl
theorem ce_105 (cA : FieldType → ClassId) (base : Nat) : cE cA (fun k => base + k) S0 105 = .inl (cA .int, 10, .inl (fun _ => 0)) := by rw [cE_int dq_105 (by decide)]; rfl
theorem ca_105 (cA : FieldType → ClassId) (base : Nat) : (cl1 cA base ++ (cl2 cA base ++ cl3 cA))[105]? = some (cE cA (fun k => base + k) S0 105) := by rw [ce_105]; rfl
theorem ce_106 (cA : FieldType → ClassId) (base : Nat) : cE cA (fun k => base + k) S0 106 = .inl (cA .long, 1, .inr (.inl (fun _ => 0))) := by rw [cE_long dq_106]; rfl
theorem ca_106 (cA : FieldType → ClassId) (base : Nat) : (cl1 cA base ++ (cl2 cA base ++ cl3 cA))[106]? = some (cE cA (fun k => base + k) S0 106) := by rw [ce_106]; rfl
set_option maxRecDepth 100000 in
theorem ca_all (cA : FieldType → ClassId) (base : Nat) : ∀ j, j < 107 → (cl1 cA base ++ (cl2 cA base ++ cl3 cA))[j]? = some (cE cA (fun k => base + k) S0 j) := by
  have h0 : ∀ j, j < 0 → (cl1 cA base ++ (cl2 cA base ++ cl3 cA))[j]? = some (cE cA (fun k => base + k) S0 j) := fun j h => absurd h (Nat.not_lt_zero j)
  have h1 := lt_s h0 (ca_0 cA base)
  have h2 := lt_s h1 (ca_1 cA base)
  have h3 := lt_s h2 (ca_2 cA base)
  have h4 := lt_s h3 (ca_3 cA base)
  have h5 := lt_s h4 (ca_4 cA base)
  have h6 := lt_s h5 (ca_5 cA base)
  have h7 := lt_s h6 (ca_6 cA base)
  have h8 := lt_s h7 (ca_7 cA base)
  have h9 := lt_s h8 (ca_8 cA base)
  have h10 := lt_s h9 (ca_9 cA base)
  have h11 := lt_s h10 (ca_10 cA base)
  have h12 := lt_s h11 (ca_11 cA base)
  have h13 := lt_s h12 (ca_12 cA base)
  have h14 := lt_s h13 (ca_13 cA base)
  have h15 := lt_s h14 (ca_14 cA base)
  have h16 := lt_s h15 (ca_15 cA base)
  have h17 := lt_s h16 (ca_16 cA base)
  have h18 := lt_s h17 (ca_17 cA base)
  have h19 := lt_s h18 (ca_18 cA base)
  have h20 := lt_s h19 (ca_19 cA base)
  have h21 := lt_s h20 (ca_20 cA base)
  have h22 := lt_s h21 (ca_21 cA base)
  have h23 := lt_s h22 (ca_22 cA base)
  have h24 := lt_s h23 (ca_23 cA base)
  have h25 := lt_s h24 (ca_24 cA base)
  have h26 := lt_s h25 (ca_25 cA base)
  have h27 := lt_s h26 (ca_26 cA base)
  have h28 := lt_s h27 (ca_27 cA base)
  have h29 := lt_s h28 (ca_28 cA base)
  have h30 := lt_s h29 (ca_29 cA base)
  have h31 := lt_s h30 (ca_30 cA base)
  have h32 := lt_s h31 (ca_31 cA base)
  have h33 := lt_s h32 (ca_32 cA base)
  have h34 := lt_s h33 (ca_33 cA base)
  have h35 := lt_s h34 (ca_34 cA base)
  have h36 := lt_s h35 (ca_35 cA base)
  have h37 := lt_s h36 (ca_36 cA base)
  have h38 := lt_s h37 (ca_37 cA base)
  have h39 := lt_s h38 (ca_38 cA base)
  have h40 := lt_s h39 (ca_39 cA base)
  have h41 := lt_s h40 (ca_40 cA base)
  have h42 := lt_s h41 (ca_41 cA base)
  have h43 := lt_s h42 (ca_42 cA base)
  have h44 := lt_s h43 (ca_43 cA base)
  have h45 := lt_s h44 (ca_44 cA base)
  have h46 := lt_s h45 (ca_45 cA base)
  have h47 := lt_s h46 (ca_46 cA base)
  have h48 := lt_s h47 (ca_47 cA base)
  have h49 := lt_s h48 (ca_48 cA base)
  have h50 := lt_s h49 (ca_49 cA base)
  have h51 := lt_s h50 (ca_50 cA base)
  have h52 := lt_s h51 (ca_51 cA base)
  have h53 := lt_s h52 (ca_52 cA base)
  have h54 := lt_s h53 (ca_53 cA base)
  have h55 := lt_s h54 (ca_54 cA base)
  have h56 := lt_s h55 (ca_55 cA base)
  have h57 := lt_s h56 (ca_56 cA base)
  have h58 := lt_s h57 (ca_57 cA base)
  have h59 := lt_s h58 (ca_58 cA base)
  have h60 := lt_s h59 (ca_59 cA base)
  have h61 := lt_s h60 (ca_60 cA base)
  have h62 := lt_s h61 (ca_61 cA base)
  have h63 := lt_s h62 (ca_62 cA base)
  have h64 := lt_s h63 (ca_63 cA base)
  have h65 := lt_s h64 (ca_64 cA base)
  have h66 := lt_s h65 (ca_65 cA base)
  have h67 := lt_s h66 (ca_66 cA base)
  have h68 := lt_s h67 (ca_67 cA base)
  have h69 := lt_s h68 (ca_68 cA base)
  have h70 := lt_s h69 (ca_69 cA base)
  have h71 := lt_s h70 (ca_70 cA base)
  have h72 := lt_s h71 (ca_71 cA base)
  have h73 := lt_s h72 (ca_72 cA base)
  have h74 := lt_s h73 (ca_73 cA base)
  have h75 := lt_s h74 (ca_74 cA base)
  have h76 := lt_s h75 (ca_75 cA base)
  have h77 := lt_s h76 (ca_76 cA base)
  have h78 := lt_s h77 (ca_77 cA base)
  have h79 := lt_s h78 (ca_78 cA base)
  have h80 := lt_s h79 (ca_79 cA base)
  have h81 := lt_s h80 (ca_80 cA base)
  have h82 := lt_s h81 (ca_81 cA base)
  have h83 := lt_s h82 (ca_82 cA base)
  have h84 := lt_s h83 (ca_83 cA base)
  have h85 := lt_s h84 (ca_84 cA base)
  have h86 := lt_s h85 (ca_85 cA base)
  have h87 := lt_s h86 (ca_86 cA base)
  have h88 := lt_s h87 (ca_87 cA base)
  have h89 := lt_s h88 (ca_88 cA base)
  have h90 := lt_s h89 (ca_89 cA base)
  have h91 := lt_s h90 (ca_90 cA base)
  have h92 := lt_s h91 (ca_91 cA base)
  have h93 := lt_s h92 (ca_92 cA base)
  have h94 := lt_s h93 (ca_93 cA base)
  have h95 := lt_s h94 (ca_94 cA base)
  have h96 := lt_s h95 (ca_95 cA base)
  have h97 := lt_s h96 (ca_96 cA base)
  have h98 := lt_s h97 (ca_97 cA base)
  have h99 := lt_s h98 (ca_98 cA base)
  have h100 := lt_s h99 (ca_99 cA base)
  have h101 := lt_s h100 (ca_100 cA base)
  have h102 := lt_s h101 (ca_101 cA base)
  have h103 := lt_s h102 (ca_102 cA base)
  have h104 := lt_s h103 (ca_103 cA base)
  have h105 := lt_s h104 (ca_104 cA base)
  have h106 := lt_s h105 (ca_105 cA base)
  have h107 := lt_s h106 (ca_106 cA base)
  exact h107
theorem ca_len (cA : FieldType → ClassId) (base : Nat) : (cl1 cA base ++ (cl2 cA base ++ cl3 cA)).length = 107 := rfl
theorem wq_wl (cA : FieldType → ClassId) (base : Nat) : wq base (cl1 cA base ++ (cl2 cA base ++ cl3 cA)) = wl cA (fun k => base + k) S0 := by
  apply List.ext_getElem?
  intro j
  by_cases hj : j < 107
  · rw [wq_at (ca_all cA base j hj), wl_at (show j < NC from hj)]
  · rw [List.getElem?_eq_none (by rw [wq_len, ca_len]; omega), List.getElem?_eq_none (by simp [wl, NC]; omega)]
