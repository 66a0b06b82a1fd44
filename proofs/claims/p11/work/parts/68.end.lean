theorem Inv0 : Inv S0 := by
  intro q k
  have z : ((0 : Int32)).toInt = 0 := by decide
  have z1 : ((1 : Int32)).toInt = 1 := by decide
  by_cases e1 : q = 1
  · subst e1
    by_cases f1 : k = 1
    · subst f1
      show ((0) : Int) ≤ ((0 : Int32)).toInt ∧ ((0 : Int32)).toInt ≤ (1000 : Int)
      rw [z]; omega
    by_cases f2 : k = 2
    · subst f2
      show ((0) : Int) ≤ ((0 : Int32)).toInt ∧ ((0 : Int32)).toInt ≤ (1 : Int)
      rw [z]; omega
    have l1 : lo 1 k = -2147483648 := by
      show ((if k = 1 then 0 else if k = 2 then 0 else -2147483648) : Int) = -2147483648
      rw [if_neg f1, if_neg f2]
    have l2 : hi 1 k = 2147483647 := by
      show ((if k = 1 then 1000 else if k = 2 then 1 else 2147483647) : Int) = 2147483647
      rw [if_neg f1, if_neg f2]
    rw [l1, l2]; exact i32 _
  by_cases e3 : q = 3
  · subst e3
    by_cases f3 : k = 3
    · subst f3
      show ((1) : Int) ≤ ((1 : Int32)).toInt ∧ ((1 : Int32)).toInt ≤ (300 : Int)
      rw [z1]; omega
    have l1 : lo 3 k = -2147483648 := by
      show ((if k = 3 then 1 else -2147483648) : Int) = -2147483648
      rw [if_neg f3]
    have l2 : hi 3 k = 2147483647 := by
      show ((if k = 3 then 300 else 2147483647) : Int) = 2147483647
      rw [if_neg f3]
    rw [l1, l2]; exact i32 _
  by_cases e4 : q = 4
  · subst e4
    show ((0) : Int) ≤ ((0 : Int32)).toInt ∧ ((0 : Int32)).toInt ≤ (299 : Int)
    rw [z]
    omega
  by_cases e6 : q = 6
  · subst e6
    show ((0) : Int) ≤ ((0 : Int32)).toInt ∧ ((0 : Int32)).toInt ≤ (10 : Int)
    rw [z]
    omega
  by_cases e7 : q = 7
  · subst e7
    by_cases f2 : k = 2
    · subst f2
      show ((0) : Int) ≤ ((0 : Int32)).toInt ∧ ((0 : Int32)).toInt ≤ (6 : Int)
      rw [z]; omega
    have l1 : lo 7 k = -2147483648 := by
      show ((if k = 2 then 0 else -2147483648) : Int) = -2147483648
      rw [if_neg f2]
    have l2 : hi 7 k = 2147483647 := by
      show ((if k = 2 then 6 else 2147483647) : Int) = 2147483647
      rw [if_neg f2]
    rw [l1, l2]; exact i32 _
  by_cases e9 : q = 9
  · subst e9
    show ((0) : Int) ≤ ((0 : Int32)).toInt ∧ ((0 : Int32)).toInt ≤ (10 : Int)
    rw [z]
    omega
  by_cases e10 : q = 10
  · subst e10
    by_cases f3 : k = 3
    · subst f3
      show ((0) : Int) ≤ ((0 : Int32)).toInt ∧ ((0 : Int32)).toInt ≤ (12 : Int)
      rw [z]; omega
    by_cases f9 : k = 9
    · subst f9
      show ((0) : Int) ≤ ((0 : Int32)).toInt ∧ ((0 : Int32)).toInt ≤ (150 : Int)
      rw [z]; omega
    have l1 : lo 10 k = -2147483648 := by
      show ((if k = 3 then 0 else if k = 9 then 0 else -2147483648) : Int) = -2147483648
      rw [if_neg f3, if_neg f9]
    have l2 : hi 10 k = 2147483647 := by
      show ((if k = 3 then 12 else if k = 9 then 150 else 2147483647) : Int) = 2147483647
      rw [if_neg f3, if_neg f9]
    rw [l1, l2]; exact i32 _
  by_cases e19 : q = 19
  · subst e19
    by_cases f1 : k = 1
    · subst f1
      show ((0) : Int) ≤ ((0 : Int32)).toInt ∧ ((0 : Int32)).toInt ≤ (1000 : Int)
      rw [z]; omega
    by_cases f2 : k = 2
    · subst f2
      show ((0) : Int) ≤ ((0 : Int32)).toInt ∧ ((0 : Int32)).toInt ≤ (1 : Int)
      rw [z]; omega
    have l1 : lo 19 k = -2147483648 := by
      show ((if k = 1 then 0 else if k = 2 then 0 else -2147483648) : Int) = -2147483648
      rw [if_neg f1, if_neg f2]
    have l2 : hi 19 k = 2147483647 := by
      show ((if k = 1 then 1000 else if k = 2 then 1 else 2147483647) : Int) = 2147483647
      rw [if_neg f1, if_neg f2]
    rw [l1, l2]; exact i32 _
  by_cases e20 : q = 20
  · subst e20
    show ((-128) : Int) ≤ ((0 : Int32)).toInt ∧ ((0 : Int32)).toInt ≤ (127 : Int)
    rw [z]
    omega
  by_cases e23 : q = 23
  · subst e23
    by_cases f4 : k = 4
    · subst f4
      show ((0) : Int) ≤ ((0 : Int32)).toInt ∧ ((0 : Int32)).toInt ≤ (12 : Int)
      rw [z]; omega
    have l1 : lo 23 k = -2147483648 := by
      show ((if k = 4 then 0 else -2147483648) : Int) = -2147483648
      rw [if_neg f4]
    have l2 : hi 23 k = 2147483647 := by
      show ((if k = 4 then 12 else 2147483647) : Int) = 2147483647
      rw [if_neg f4]
    rw [l1, l2]; exact i32 _
  by_cases e27 : q = 27
  · subst e27
    by_cases f2 : k = 2
    · subst f2
      show ((0) : Int) ≤ ((0 : Int32)).toInt ∧ ((0 : Int32)).toInt ≤ (6 : Int)
      rw [z]; omega
    have l1 : lo 27 k = -2147483648 := by
      show ((if k = 2 then 0 else -2147483648) : Int) = -2147483648
      rw [if_neg f2]
    have l2 : hi 27 k = 2147483647 := by
      show ((if k = 2 then 6 else 2147483647) : Int) = 2147483647
      rw [if_neg f2]
    rw [l1, l2]; exact i32 _
  by_cases e29 : q = 29
  · subst e29
    show ((0) : Int) ≤ ((0 : Int32)).toInt ∧ ((0 : Int32)).toInt ≤ (10 : Int)
    rw [z]
    omega
  by_cases e30 : q = 30
  · subst e30
    by_cases f5 : k = 5
    · subst f5
      show ((0) : Int) ≤ ((0 : Int32)).toInt ∧ ((0 : Int32)).toInt ≤ (90 : Int)
      rw [z]; omega
    have l1 : lo 30 k = -2147483648 := by
      show ((if k = 5 then 0 else -2147483648) : Int) = -2147483648
      rw [if_neg f5]
    have l2 : hi 30 k = 2147483647 := by
      show ((if k = 5 then 90 else 2147483647) : Int) = 2147483647
      rw [if_neg f5]
    rw [l1, l2]; exact i32 _
  by_cases e36 : q = 36
  · subst e36
    by_cases f5 : k = 5
    · subst f5
      show ((0) : Int) ≤ ((0 : Int32)).toInt ∧ ((0 : Int32)).toInt ≤ (90 : Int)
      rw [z]; omega
    have l1 : lo 36 k = -2147483648 := by
      show ((if k = 5 then 0 else -2147483648) : Int) = -2147483648
      rw [if_neg f5]
    have l2 : hi 36 k = 2147483647 := by
      show ((if k = 5 then 90 else 2147483647) : Int) = 2147483647
      rw [if_neg f5]
    rw [l1, l2]; exact i32 _
  by_cases e42 : q = 42
  · subst e42
    by_cases f6 : k = 6
    · subst f6
      show ((0) : Int) ≤ ((0 : Int32)).toInt ∧ ((0 : Int32)).toInt ≤ (100 : Int)
      rw [z]; omega
    have l1 : lo 42 k = -2147483648 := by
      show ((if k = 6 then 0 else -2147483648) : Int) = -2147483648
      rw [if_neg f6]
    have l2 : hi 42 k = 2147483647 := by
      show ((if k = 6 then 100 else 2147483647) : Int) = 2147483647
      rw [if_neg f6]
    rw [l1, l2]; exact i32 _
  by_cases e47 : q = 47
  · subst e47
    show ((0) : Int) ≤ ((0 : Int32)).toInt ∧ ((0 : Int32)).toInt ≤ (10 : Int)
    rw [z]
    omega
  by_cases e49 : q = 49
  · subst e49
    by_cases f4 : k = 4
    · subst f4
      show ((0) : Int) ≤ ((0 : Int32)).toInt ∧ ((0 : Int32)).toInt ≤ (4 : Int)
      rw [z]; omega
    by_cases f8 : k = 8
    · subst f8
      show ((0) : Int) ≤ ((0 : Int32)).toInt ∧ ((0 : Int32)).toInt ≤ (1 : Int)
      rw [z]; omega
    by_cases f11 : k = 11
    · subst f11
      show ((0) : Int) ≤ ((0 : Int32)).toInt ∧ ((0 : Int32)).toInt ≤ (10 : Int)
      rw [z]; omega
    have l1 : lo 49 k = -2147483648 := by
      show ((if k = 4 then 0 else if k = 8 then 0 else if k = 11 then 0 else -2147483648) : Int) = -2147483648
      rw [if_neg f4, if_neg f8, if_neg f11]
    have l2 : hi 49 k = 2147483647 := by
      show ((if k = 4 then 4 else if k = 8 then 1 else if k = 11 then 10 else 2147483647) : Int) = 2147483647
      rw [if_neg f4, if_neg f8, if_neg f11]
    rw [l1, l2]; exact i32 _
  by_cases e50 : q = 50
  · subst e50
    by_cases f8 : k = 8
    · subst f8
      show ((0) : Int) ≤ ((0 : Int32)).toInt ∧ ((0 : Int32)).toInt ≤ (4 : Int)
      rw [z]; omega
    by_cases f9 : k = 9
    · subst f9
      show ((0) : Int) ≤ ((0 : Int32)).toInt ∧ ((0 : Int32)).toInt ≤ (3 : Int)
      rw [z]; omega
    have l1 : lo 50 k = -2147483648 := by
      show ((if k = 8 then 0 else if k = 9 then 0 else -2147483648) : Int) = -2147483648
      rw [if_neg f8, if_neg f9]
    have l2 : hi 50 k = 2147483647 := by
      show ((if k = 8 then 4 else if k = 9 then 3 else 2147483647) : Int) = 2147483647
      rw [if_neg f8, if_neg f9]
    rw [l1, l2]; exact i32 _
  by_cases e56 : q = 56
  · subst e56
    show ((0) : Int) ≤ ((0 : Int32)).toInt ∧ ((0 : Int32)).toInt ≤ (40 : Int)
    rw [z]
    omega
  by_cases e58 : q = 58
  · subst e58
    show ((0) : Int) ≤ ((0 : Int32)).toInt ∧ ((0 : Int32)).toInt ≤ (300 : Int)
    rw [z]
    omega
  by_cases e63 : q = 63
  · subst e63
    by_cases f5 : k = 5
    · subst f5
      show ((1) : Int) ≤ ((1 : Int32)).toInt ∧ ((1 : Int32)).toInt ≤ (300 : Int)
      rw [z1]; omega
    by_cases f8 : k = 8
    · subst f8
      show ((0) : Int) ≤ ((0 : Int32)).toInt ∧ ((0 : Int32)).toInt ≤ (6 : Int)
      rw [z]; omega
    by_cases f10 : k = 10
    · subst f10
      show ((0) : Int) ≤ ((0 : Int32)).toInt ∧ ((0 : Int32)).toInt ≤ (1000 : Int)
      rw [z]; omega
    by_cases f14 : k = 14
    · subst f14
      show ((0) : Int) ≤ ((0 : Int32)).toInt ∧ ((0 : Int32)).toInt ≤ (12 : Int)
      rw [z]; omega
    by_cases f20 : k = 20
    · subst f20
      show ((0) : Int) ≤ ((0 : Int32)).toInt ∧ ((0 : Int32)).toInt ≤ (150 : Int)
      rw [z]; omega
    by_cases f23 : k = 23
    · subst f23
      show ((0) : Int) ≤ ((0 : Int32)).toInt ∧ ((0 : Int32)).toInt ≤ (12 : Int)
      rw [z]; omega
    by_cases f25 : k = 25
    · subst f25
      show ((0) : Int) ≤ ((0 : Int32)).toInt ∧ ((0 : Int32)).toInt ≤ (4 : Int)
      rw [z]; omega
    by_cases f27 : k = 27
    · subst f27
      show ((0) : Int) ≤ ((0 : Int32)).toInt ∧ ((0 : Int32)).toInt ≤ (2000000000 : Int)
      rw [z]; omega
    by_cases f30 : k = 30
    · subst f30
      show ((0) : Int) ≤ ((0 : Int32)).toInt ∧ ((0 : Int32)).toInt ≤ (6 : Int)
      rw [z]; omega
    by_cases f31 : k = 31
    · subst f31
      show ((0) : Int) ≤ ((0 : Int32)).toInt ∧ ((0 : Int32)).toInt ≤ (1100 : Int)
      rw [z]; omega
    by_cases f42 : k = 42
    · subst f42
      show ((0) : Int) ≤ ((0 : Int32)).toInt ∧ ((0 : Int32)).toInt ≤ (99 : Int)
      rw [z]; omega
    by_cases f44 : k = 44
    · subst f44
      show ((0) : Int) ≤ ((0 : Int32)).toInt ∧ ((0 : Int32)).toInt ≤ (99 : Int)
      rw [z]; omega
    by_cases f50 : k = 50
    · subst f50
      show ((0) : Int) ≤ ((0 : Int32)).toInt ∧ ((0 : Int32)).toInt ≤ (100 : Int)
      rw [z]; omega
    by_cases f53 : k = 53
    · subst f53
      show ((0) : Int) ≤ ((0 : Int32)).toInt ∧ ((0 : Int32)).toInt ≤ (10 : Int)
      rw [z]; omega
    by_cases f62 : k = 62
    · subst f62
      show ((0) : Int) ≤ ((0 : Int32)).toInt ∧ ((0 : Int32)).toInt ≤ (4 : Int)
      rw [z]; omega
    by_cases f65 : k = 65
    · subst f65
      show ((0) : Int) ≤ ((0 : Int32)).toInt ∧ ((0 : Int32)).toInt ≤ (40 : Int)
      rw [z]; omega
    by_cases f67 : k = 67
    · subst f67
      show ((0) : Int) ≤ ((0 : Int32)).toInt ∧ ((0 : Int32)).toInt ≤ (1 : Int)
      rw [z]; omega
    by_cases f71 : k = 71
    · subst f71
      show ((0) : Int) ≤ ((0 : Int32)).toInt ∧ ((0 : Int32)).toInt ≤ (10 : Int)
      rw [z]; omega
    have l1 : lo 63 k = -2147483648 := by
      show ((if k = 5 then 1 else if k = 8 then 0 else if k = 10 then 0 else if k = 14 then 0 else if k = 20 then 0 else if k = 23 then 0 else if k = 25 then 0 else if k = 27 then 0 else if k = 30 then 0 else if k = 31 then 0 else if k = 42 then 0 else if k = 44 then 0 else if k = 50 then 0 else if k = 53 then 0 else if k = 62 then 0 else if k = 65 then 0 else if k = 67 then 0 else if k = 71 then 0 else -2147483648) : Int) = -2147483648
      rw [if_neg f5, if_neg f8, if_neg f10, if_neg f14, if_neg f20, if_neg f23, if_neg f25, if_neg f27, if_neg f30, if_neg f31, if_neg f42, if_neg f44, if_neg f50, if_neg f53, if_neg f62, if_neg f65, if_neg f67, if_neg f71]
    have l2 : hi 63 k = 2147483647 := by
      show ((if k = 5 then 300 else if k = 8 then 6 else if k = 10 then 1000 else if k = 14 then 12 else if k = 20 then 150 else if k = 23 then 12 else if k = 25 then 4 else if k = 27 then 2000000000 else if k = 30 then 6 else if k = 31 then 1100 else if k = 42 then 99 else if k = 44 then 99 else if k = 50 then 100 else if k = 53 then 10 else if k = 62 then 4 else if k = 65 then 40 else if k = 67 then 1 else if k = 71 then 10 else 2147483647) : Int) = 2147483647
      rw [if_neg f5, if_neg f8, if_neg f10, if_neg f14, if_neg f20, if_neg f23, if_neg f25, if_neg f27, if_neg f30, if_neg f31, if_neg f42, if_neg f44, if_neg f50, if_neg f53, if_neg f62, if_neg f65, if_neg f67, if_neg f71]
    rw [l1, l2]; exact i32 _
  by_cases e64 : q = 64
  · subst e64
    show ((0) : Int) ≤ ((0 : Int32)).toInt ∧ ((0 : Int32)).toInt ≤ (if k = 0 then (0 : Int) else (k : Int) - 1)
    rw [z]
    refine ⟨by omega, ?_⟩
    split <;> omega
  by_cases e66 : q = 66
  · subst e66
    show ((0) : Int) ≤ ((0 : Int32)).toInt ∧ ((0 : Int32)).toInt ≤ (10 : Int)
    rw [z]
    omega
  by_cases e67 : q = 67
  · subst e67
    show ((0) : Int) ≤ ((0 : Int32)).toInt ∧ ((0 : Int32)).toInt ≤ (k : Int)
    rw [z]
    omega
  by_cases e68 : q = 68
  · subst e68
    show ((0) : Int) ≤ ((0 : Int32)).toInt ∧ ((0 : Int32)).toInt ≤ (1000 : Int)
    rw [z]
    omega
  by_cases e69 : q = 69
  · subst e69
    show ((0) : Int) ≤ ((0 : Int32)).toInt ∧ ((0 : Int32)).toInt ≤ (10 : Int)
    rw [z]
    omega
  by_cases e72 : q = 72
  · subst e72
    show ((0) : Int) ≤ ((0 : Int32)).toInt ∧ ((0 : Int32)).toInt ≤ (299 : Int)
    rw [z]
    omega
  by_cases e74 : q = 74
  · subst e74
    show ((0) : Int) ≤ ((0 : Int32)).toInt ∧ ((0 : Int32)).toInt ≤ (11 : Int)
    rw [z]
    omega
  by_cases e75 : q = 75
  · subst e75
    show ((0) : Int) ≤ ((0 : Int32)).toInt ∧ ((0 : Int32)).toInt ≤ (299 : Int)
    rw [z]
    omega
  by_cases e80 : q = 80
  · subst e80
    show ((0) : Int) ≤ ((0 : Int32)).toInt ∧ ((0 : Int32)).toInt ≤ (1 : Int)
    rw [z]
    omega
  by_cases e84 : q = 84
  · subst e84
    show ((0) : Int) ≤ ((0 : Int32)).toInt ∧ ((0 : Int32)).toInt ≤ (1 : Int)
    rw [z]
    omega
  by_cases e86 : q = 86
  · subst e86
    show ((0) : Int) ≤ ((0 : Int32)).toInt ∧ ((0 : Int32)).toInt ≤ (299 : Int)
    rw [z]
    omega
  by_cases e93 : q = 93
  · subst e93
    show ((0) : Int) ≤ ((0 : Int32)).toInt ∧ ((0 : Int32)).toInt ≤ (10 : Int)
    rw [z]
    omega
  by_cases e97 : q = 97
  · subst e97
    show ((0) : Int) ≤ ((0 : Int32)).toInt ∧ ((0 : Int32)).toInt ≤ (299 : Int)
    rw [z]
    omega
  by_cases e99 : q = 99
  · subst e99
    show ((0) : Int) ≤ ((0 : Int32)).toInt ∧ ((0 : Int32)).toInt ≤ (8 : Int)
    rw [z]
    omega
  by_cases e100 : q = 100
  · subst e100
    show ((-1) : Int) ≤ ((0 : Int32)).toInt ∧ ((0 : Int32)).toInt ≤ (299 : Int)
    rw [z]
    omega
  by_cases e102 : q = 102
  · subst e102
    show ((0) : Int) ≤ ((0 : Int32)).toInt ∧ ((0 : Int32)).toInt ≤ (40 : Int)
    rw [z]
    omega
  by_cases e103 : q = 103
  · subst e103
    show ((0) : Int) ≤ ((0 : Int32)).toInt ∧ ((0 : Int32)).toInt ≤ (1 : Int)
    rw [z]
    omega
  have l1 : lo q k = -2147483648 := by
    unfold lo
    rw [if_neg e1, if_neg e3, if_neg e4, if_neg e6, if_neg e7, if_neg e9, if_neg e10, if_neg e19, if_neg e20, if_neg e23, if_neg e27, if_neg e29, if_neg e30, if_neg e36, if_neg e42, if_neg e47, if_neg e49, if_neg e50, if_neg e56, if_neg e58, if_neg e63, if_neg e64, if_neg e66, if_neg e67, if_neg e68, if_neg e69, if_neg e72, if_neg e74, if_neg e75, if_neg e80, if_neg e84, if_neg e86, if_neg e93, if_neg e97, if_neg e99, if_neg e100, if_neg e102, if_neg e103]
  have l2 : hi q k = 2147483647 := by
    unfold hi
    rw [if_neg e1, if_neg e3, if_neg e4, if_neg e6, if_neg e7, if_neg e9, if_neg e10, if_neg e19, if_neg e20, if_neg e23, if_neg e27, if_neg e29, if_neg e30, if_neg e36, if_neg e42, if_neg e47, if_neg e49, if_neg e50, if_neg e56, if_neg e58, if_neg e63, if_neg e64, if_neg e66, if_neg e67, if_neg e68, if_neg e69, if_neg e72, if_neg e74, if_neg e75, if_neg e80, if_neg e84, if_neg e86, if_neg e93, if_neg e97, if_neg e99, if_neg e100, if_neg e102, if_neg e103]
  rw [l1, l2]; exact i32 _
def KP (S : St) : Prop := Inv S ∧ RD S ∧ RK S ∧ TQ S ∧ RO S ∧ EE S
theorem KP0 : KP S0 := by
  have z : ((0 : Int32)).toInt = 0 := by decide
  refine ⟨Inv0, RG_zero z, fun k hk => ?_, TQ_zero z, fun h => ?_, ⟨rfl, fun b hb => rfl⟩⟩
  · exfalso
    have hk : (k : Int) < ((0 : Int32)).toInt := hk
    rw [z] at hk
    omega
  · exfalso
    have h : ((0 : Int32)).toInt = 1 := h
    rw [z] at h
    omega
theorem kp_fin {S : St} {M : List (Nat × Nat)} {x : Option (St × Int32)} (h : Sf x (fun U r => Inv U ∧ Fr M S U ∧ ((r.toInt = 1)) ∧ RD U ∧ RK U ∧ TQ U ∧ RO U ∧ EE U)) : ∃ U, x = some (U, (1 : Int32)) ∧ KP U := by
  obtain ⟨U, r, e, a, _, b, c⟩ := h
  have er : r = 1 := Int32.toInt_inj.mp (b.trans (by decide))
  subst er
  exact ⟨U, e, a, c⟩
theorem kp_step (fu : Nat) (hfu : 1000000000000000000 ≤ fu) (a0 a1 a2 a3 a4 a5 : Int32) {S : St} (h : KP S) : ∃ U, fit1 fu a0 a1 a2 a3 a4 a5 S = some (U, (1 : Int32)) ∧ KP U := by
  obtain ⟨I, h1, h2, h3, h4, h5⟩ := h
  unfold fit1
  by_cases e0 : (a0 &&& (31 : Int32)) = (0 : Int32)
  · rw [if_pos e0]; exact kp_fin (s_fc_0 fu hfu a1 a2 a3 a4 a5 S I h1 h2 h3 h4 h5)
  rw [if_neg e0]
  by_cases e1 : (a0 &&& (31 : Int32)) = (1 : Int32)
  · rw [if_pos e1]; exact kp_fin (s_fc_1 fu hfu a1 a2 a3 a4 a5 S I h1 h2 h3 h4 h5)
  rw [if_neg e1]
  by_cases e2 : (a0 &&& (31 : Int32)) = (2 : Int32)
  · rw [if_pos e2]; exact kp_fin (s_fc_2 fu hfu a1 a2 a3 a4 a5 S I h1 h2 h3 h4 h5)
  rw [if_neg e2]
  by_cases e3 : (a0 &&& (31 : Int32)) = (3 : Int32)
  · rw [if_pos e3]; exact kp_fin (s_fc_3 fu hfu a1 a2 a3 a4 a5 S I h1 h2 h3 h4 h5)
  rw [if_neg e3]
  by_cases e4 : (a0 &&& (31 : Int32)) = (4 : Int32)
  · rw [if_pos e4]; exact kp_fin (s_fc_4 fu hfu a1 a2 a3 a4 a5 S I h1 h2 h3 h4 h5)
  rw [if_neg e4]
  by_cases e5 : (a0 &&& (31 : Int32)) = (5 : Int32)
  · rw [if_pos e5]; exact kp_fin (s_fc_5 fu hfu a1 a2 a3 a4 a5 S I h1 h2 h3 h4 h5)
  rw [if_neg e5]
  by_cases e6 : (a0 &&& (31 : Int32)) = (6 : Int32)
  · rw [if_pos e6]; exact kp_fin (s_fc_6 fu hfu a1 a2 a3 a4 a5 S I h1 h2 h3 h4 h5)
  rw [if_neg e6]
  by_cases e7 : (a0 &&& (31 : Int32)) = (7 : Int32)
  · rw [if_pos e7]; exact kp_fin (s_fc_7 fu hfu a1 a2 a3 a4 a5 S I h1 h2 h3 h4 h5)
  rw [if_neg e7]
  by_cases e8 : (a0 &&& (31 : Int32)) = (8 : Int32)
  · rw [if_pos e8]; exact kp_fin (s_fc_8 fu hfu a1 a2 a3 a4 a5 S I h1 h2 h3 h4 h5)
  rw [if_neg e8]
  by_cases e9 : (a0 &&& (31 : Int32)) = (9 : Int32)
  · rw [if_pos e9]; exact kp_fin (s_fc_9 fu hfu a1 a2 a3 a4 a5 S I h1 h2 h3 h4 h5)
  rw [if_neg e9]
  by_cases e10 : (a0 &&& (31 : Int32)) = (10 : Int32)
  · rw [if_pos e10]; exact kp_fin (s_fc_10 fu hfu a1 a2 a3 a4 a5 S I h1 h2 h3 h4 h5)
  rw [if_neg e10]
  by_cases e11 : (a0 &&& (31 : Int32)) = (11 : Int32)
  · rw [if_pos e11]; exact kp_fin (s_fc_11 fu hfu a1 a2 a3 a4 a5 S I h1 h2 h3 h4 h5)
  rw [if_neg e11]
  by_cases e12 : (a0 &&& (31 : Int32)) = (12 : Int32)
  · rw [if_pos e12]; exact kp_fin (s_fc_12 fu hfu a1 a2 a3 a4 a5 S I h1 h2 h3 h4 h5)
  rw [if_neg e12]
  by_cases e13 : (a0 &&& (31 : Int32)) = (13 : Int32)
  · rw [if_pos e13]; exact kp_fin (s_fc_13 fu hfu a1 a2 a3 a4 a5 S I h1 h2 h3 h4 h5)
  rw [if_neg e13]
  by_cases e14 : (a0 &&& (31 : Int32)) = (14 : Int32)
  · rw [if_pos e14]; exact kp_fin (s_fc_14 fu hfu a1 a2 a3 a4 a5 S I h1 h2 h3 h4 h5)
  rw [if_neg e14]
  by_cases e15 : (a0 &&& (31 : Int32)) = (15 : Int32)
  · rw [if_pos e15]; exact kp_fin (s_fc_15 fu hfu a1 a2 a3 a4 a5 S I h1 h2 h3 h4 h5)
  rw [if_neg e15]
  by_cases e16 : (a0 &&& (31 : Int32)) = (16 : Int32)
  · rw [if_pos e16]; exact kp_fin (s_fc_16 fu hfu a1 a2 a3 a4 a5 S I h1 h2 h3 h4 h5)
  rw [if_neg e16]
  by_cases e17 : (a0 &&& (31 : Int32)) = (17 : Int32)
  · rw [if_pos e17]; exact kp_fin (s_fc_17 fu hfu a1 a2 a3 a4 a5 S I h1 h2 h3 h4 h5)
  rw [if_neg e17]
  by_cases e18 : (a0 &&& (31 : Int32)) = (18 : Int32)
  · rw [if_pos e18]; exact kp_fin (s_fc_18 fu hfu a1 a2 a3 a4 a5 S I h1 h2 h3 h4 h5)
  rw [if_neg e18]
  by_cases e19 : (a0 &&& (31 : Int32)) = (19 : Int32)
  · rw [if_pos e19]; exact kp_fin (s_fc_19 fu hfu a1 a2 a3 a4 a5 S I h1 h2 h3 h4 h5)
  rw [if_neg e19]
  by_cases e20 : (a0 &&& (31 : Int32)) = (20 : Int32)
  · rw [if_pos e20]; exact kp_fin (s_fc_20 fu hfu a1 a2 a3 a4 a5 S I h1 h2 h3 h4 h5)
  rw [if_neg e20]
  by_cases e21 : (a0 &&& (31 : Int32)) = (21 : Int32)
  · rw [if_pos e21]; exact kp_fin (s_fc_21 fu hfu a1 a2 a3 a4 a5 S I h1 h2 h3 h4 h5)
  rw [if_neg e21]
  by_cases e22 : (a0 &&& (31 : Int32)) = (22 : Int32)
  · rw [if_pos e22]; exact kp_fin (s_fc_22 fu hfu a1 a2 a3 a4 a5 S I h1 h2 h3 h4 h5)
  rw [if_neg e22]
  by_cases e23 : (a0 &&& (31 : Int32)) = (23 : Int32)
  · rw [if_pos e23]; exact kp_fin (s_fc_23 fu hfu a1 a2 a3 a4 a5 S I h1 h2 h3 h4 h5)
  rw [if_neg e23]
  by_cases e24 : (a0 &&& (31 : Int32)) = (24 : Int32)
  · rw [if_pos e24]; exact kp_fin (s_fc_24 fu hfu a1 a2 a3 a4 a5 S I h1 h2 h3 h4 h5)
  rw [if_neg e24]
  exact ⟨S, rfl, I, h1, h2, h3, h4, h5⟩
theorem kp_law (fu : Nat) (hfu : 1000000000000000000 ≤ fu) (xs : Nat → Int32) : ∀ (n i : Nat) (S : St), KP S → lawOk fu xs n i S := by
  intro n
  induction n with
  | zero => intro i S _; exact trivial
  | succ n ih =>
    intro i S h
    obtain ⟨U, e, k⟩ := kp_step fu hfu (xs i) (xs (i + 1)) (xs (i + 2)) (xs (i + 3)) (xs (i + 4)) (xs (i + 5)) h
    exact ⟨U, e, ih (i + 6) U k⟩
theorem law_pure : ∀ (xs : Nat → Int32) (n : Nat), n ≤ 512 → lawOk 1000000000000000000 xs n 0 S0 := fun xs n _ => kp_law 1000000000000000000 (Nat.le_refl _) xs n 0 S0 KP0
