abbrev St : Type := (Nat → Nat → Int32) × (Nat → Nat → Int64)
def wI (q k : Nat) (v : Int32) (S : St) : St := (va_up S.1 q (upd (S.1 q) k v), S.2)
def wJ (q k : Nat) (v : Int64) (S : St) : St := (S.1, va_up S.2 q (vp_updL (S.2 q) k v))
def ck (i : Int32) (n : Nat) : Bool := decide (¬ (i < 0 ∨ n ≤ i.toNatClampNeg))
def gd {α : Type} (b : Bool) (x : Option α) : Option α := if b = true then x else none
def bd {α β : Type} (x : Option (St × β)) (k : St → β → Option α) : Option α := match x with
  | none => none
  | some y => k y.1 y.2
def sI {α : Type} (q k : Nat) (v : Int32) (S : St) (K : St → Option α) : Option α := K (wI q k v S)
def sJ {α : Type} (q k : Nat) (v : Int64) (S : St) (K : St → Option α) : Option α := K (wJ q k v S)
def isB (v : Int32) : Bool := decide (v = 0 ∨ v = 1)
def cpOk (S : St) (x0 : Nat) (sp dp n : Int32) (n0 n1 : Nat) : Bool := decide (¬ sp < 0 ∧ ¬ dp < 0 ∧ ¬ n < 0 ∧ sp.toNatClampNeg + n.toNatClampNeg ≤ n0 ∧ dp.toNatClampNeg + n.toNatClampNeg ≤ n1 ∧ ∀ i, i < n.toNatClampNeg → (S.1 x0 (sp.toNatClampNeg + i)).toInt8.toInt32 = S.1 x0 (sp.toNatClampNeg + i))
def wC (x0 x1 : Nat) (sp dp n : Int32) (S : St) : St := (va_up S.1 x1 (va_cpy (S.1 x0) (S.1 x1) sp.toNatClampNeg dp.toNatClampNeg n.toNatClampNeg), S.2)
def sC {α : Type} (x0 x1 : Nat) (sp dp n : Int32) (S : St) (K : St → Option α) : Option α := K (wC x0 x1 sp dp n S)
noncomputable def fX0_size (fu : Nat) (q : Nat) (S : St) : Option (St × Int32) :=
  some (S, (S.1 q 1))
noncomputable def fX0_isTooLong (fu : Nat) (q : Nat) (S : St) : Option (St × Int32) :=
  gd (isB (S.1 q 2)) <|
  some (S, (S.1 q 2))
noncomputable def fX0_clear (fu : Nat) (q : Nat) (S : St) : Option (St × Int32) :=
  sI q 1 (0 : Int32) S fun S_2 =>
  sI q 2 (0 : Int32) S_2 fun S_7 =>
  some (S_7, (0 : Int32))
noncomputable def fX0_at (fu : Nat) (q : Nat) (x1 : Int32) (S : St) : Option (St × Int32) :=
  if x1 < 0 then
    some (S, (-1 : Int32))
  else
    if (S.1 q 1) ≤ x1 then
      some (S, (-1 : Int32))
    else
      gd (ck x1 1000) <|
      some (S, ((S.1 (q + 1) (x1).toNatClampNeg) &&& (255 : Int32)))
noncomputable def fX0_set (fu : Nat) (q : Nat) (x1 : Int32) (x2 : Int32) (S : St) : Option (St × Int32) :=
  if x1 < 0 then
    some (S, (0 : Int32))
  else
    if x1 < (S.1 q 1) then
      gd (ck x1 1000) <|
      sI (q + 1) (x1).toNatClampNeg (vp_nar .byte (x2).toInt8.toInt32) S fun S_21 =>
      some (S_21, (1 : Int32))
    else
      some (S, (0 : Int32))
noncomputable def fX0_cutTo (fu : Nat) (q : Nat) (x1 : Int32) (S : St) : Option (St × Int32) :=
  if x1 < 0 then
    some (S, (0 : Int32))
  else
    if x1 ≤ (S.1 q 1) then
      sI q 1 x1 S fun S_16 =>
      some (S_16, (1 : Int32))
    else
      some (S, (0 : Int32))
noncomputable def fX0_add (fu : Nat) (q : Nat) (x1 : Int32) (S : St) : Option (St × Int32) :=
  if (S.1 q 1) < (1000 : Int32) then
    gd (ck (S.1 q 1) 1000) <|
    sI (q + 1) ((S.1 q 1)).toNatClampNeg (vp_nar .byte (x1).toInt8.toInt32) S fun S_26 =>
    sI q 1 ((S_26.1 q 1) + (1 : Int32)) S_26 fun S_34 =>
    some (S_34, (0 : Int32))
  else
    sI q 2 (1 : Int32) S fun S_12 =>
    some (S_12, (0 : Int32))
noncomputable def fX0_addTwo (fu : Nat) (q : Nat) (x1 : Int32) (S : St) : Option (St × Int32) :=
  bd (fX0_add fu q (x1 >>> ((8 : Int32) &&& 31)) S) fun S_5 _ =>
  bd (fX0_add fu q x1 S_5) fun S_10 _ =>
  some (S_10, (0 : Int32))
noncomputable def fX0_addFour (fu : Nat) (q : Nat) (x1 : Int32) (S : St) : Option (St × Int32) :=
  bd (fX0_add fu q (x1 >>> ((24 : Int32) &&& 31)) S) fun S_5 _ =>
  bd (fX0_add fu q (x1 >>> ((16 : Int32) &&& 31)) S_5) fun S_13 _ =>
  bd (fX0_add fu q (x1 >>> ((8 : Int32) &&& 31)) S_13) fun S_21 _ =>
  bd (fX0_add fu q x1 S_21) fun S_26 _ =>
  some (S_26, (0 : Int32))
noncomputable def fX0_setTwo (fu : Nat) (q : Nat) (x1 : Int32) (x2 : Int32) (S : St) : Option (St × Int32) :=
  bd (fX0_set fu q x1 (x2 >>> ((8 : Int32) &&& 31)) S) fun S_6 r_6 =>
  bd (fX0_set fu q (x1 + (1 : Int32)) x2 S_6) fun S_15 r_15 =>
  some (S_15, (0 : Int32))
noncomputable def fX0_two (fu : Nat) (q : Nat) (x1 : Int32) (S : St) : Option (St × Int32) :=
  bd (fX0_at fu q x1 S) fun S_2 r_2 =>
  bd (fX0_at fu q (x1 + (1 : Int32)) S_2) fun S_12 r_12 =>
  some (S_12, ((r_2 <<< ((8 : Int32) &&& 31)) + r_12))
noncomputable def fX0_four (fu : Nat) (q : Nat) (x1 : Int32) (S : St) : Option (St × Int32) :=
  bd (fX0_two fu q x1 S) fun S_2 r_2 =>
  bd (fX0_two fu q (x1 + (2 : Int32)) S_2) fun S_12 r_12 =>
  some (S_12, ((r_2 <<< ((16 : Int32) &&& 31)) + r_12))
noncomputable def fX0_copy (fu : Nat) (S : St) : Option (St × Int32) :=
  gd (cpOk S 20 (0 : Int32) (0 : Int32) (S.1 19 1) 1000 1000) <|
  sC 20 2 (0 : Int32) (0 : Int32) (S.1 19 1) S fun S_14 =>
  sI 1 1 (S_14.1 19 1) S_14 fun S_22 =>
  gd (isB (S_22.1 19 2)) <|
  sI 1 2 (S_22.1 19 2) S_22 fun S_30 =>
  some (S_30, (0 : Int32))
noncomputable def fX8_clear (fu : Nat) (q : Nat) (S : St) : Option (St × Int32) :=
  sI q 2 (0 : Int32) S fun S_2 =>
  some (S_2, (0 : Int32))
noncomputable def fX8_size (fu : Nat) (q : Nat) (S : St) : Option (St × Int32) :=
  some (S, (S.1 q 2))
noncomputable def fX8_labelAt (fu : Nat) (q : Nat) (x1 : Int32) (S : St) : Option (St × Int64) :=
  if x1 < 0 then
    some (S, (0 : Int64))
  else
    if (S.1 q 2) ≤ x1 then
      some (S, (0 : Int64))
    else
      gd (ck x1 6) <|
      some (S, (S.2 (q + 1) (x1).toNatClampNeg))
noncomputable def fX8_lengthAt (fu : Nat) (q : Nat) (x1 : Int32) (S : St) : Option (St × Int32) :=
  if x1 < 0 then
    some (S, (0 : Int32))
  else
    if (S.1 q 2) ≤ x1 then
      some (S, (0 : Int32))
    else
      gd (ck x1 6) <|
      some (S, (S.1 (q + 2) (x1).toNatClampNeg))
noncomputable def fX8_open (fu : Nat) (q : Nat) (S : St) : Option (St × Int32) :=
  if (S.1 q 2) < (6 : Int32) then
    gd (ck (S.1 q 2) 6) <|
    sJ (q + 1) ((S.1 q 2)).toNatClampNeg (0 : Int64) S fun S_20 =>
    gd (ck (S_20.1 q 2) 6) <|
    sI (q + 2) ((S_20.1 q 2)).toNatClampNeg (0 : Int32) S_20 fun S_30 =>
    sI q 2 ((S_30.1 q 2) + (1 : Int32)) S_30 fun S_38 =>
    some (S_38, (1 : Int32))
  else
    some (S, (0 : Int32))
noncomputable def fX8_add_56 (fu : Nat) (q : Nat) (x2 : Int32) (S : St) : Option (St × Int32) :=
  if x2 = 0 then
    some (S, (0 : Int32))
  else
    if ((S.1 q 2) - (1 : Int32)) < 0 then
      some (S, (0 : Int32))
    else
      gd (ck ((S.1 q 2) - (1 : Int32)) 6) <|
      if (S.1 (q + 2) (((S.1 q 2) - (1 : Int32))).toNatClampNeg) < (10 : Int32) then
        gd (ck ((S.1 q 2) - (1 : Int32)) 6) <|
        gd (ck ((S.1 q 2) - (1 : Int32)) 6) <|
        sJ (q + 1) (((S.1 q 2) - (1 : Int32))).toNatClampNeg (((S.2 (q + 1) (((S.1 q 2) - (1 : Int32))).toNatClampNeg) <<< (((6 : Int32)).toInt64 &&& 63)) + (x2).toInt64) S fun S_101 =>
        gd (ck ((S.1 q 2) - (1 : Int32)) 6) <|
        gd (ck ((S.1 q 2) - (1 : Int32)) 6) <|
        sI (q + 2) (((S.1 q 2) - (1 : Int32))).toNatClampNeg ((S_101.1 (q + 2) (((S.1 q 2) - (1 : Int32))).toNatClampNeg) + (1 : Int32)) S_101 fun S_111 =>
        some (S_111, (1 : Int32))
      else
        some (S, (0 : Int32))
noncomputable def fX8_add_47 (fu : Nat) (q : Nat) (x1 : Int32) (x2 : Int32) (S : St) : Option (St × Int32) :=
  if x1 = (45 : Int32) then
    fX8_add_56 fu q (37 : Int32) S
  else
    fX8_add_56 fu q x2 S
noncomputable def fX8_add_24 (fu : Nat) (q : Nat) (x1 : Int32) (x2 : Int32) (S : St) : Option (St × Int32) :=
  if x1 < (48 : Int32) then
    fX8_add_47 fu q x1 x2 S
  else
    if (57 : Int32) < x1 then
      fX8_add_47 fu q x1 x2 S
    else
      fX8_add_56 fu q ((x1 - (48 : Int32)) + (27 : Int32)) S
noncomputable def fX8_add (fu : Nat) (q : Nat) (x1 : Int32) (S : St) : Option (St × Int32) :=
  if x1 < (97 : Int32) then
    fX8_add_24 fu q x1 (0 : Int32) S
  else
    if (122 : Int32) < x1 then
      fX8_add_24 fu q x1 (0 : Int32) S
    else
      fX8_add_56 fu q ((x1 - (97 : Int32)) + (1 : Int32)) S
noncomputable def fX8_readText_84 (fu : Nat) (k_31 : Int32 → St → Option (St × Int32)) (x2 : Int32) (t0 : Int32) (S : St) : Option (St × Int32) :=
  if t0 = 0 then
    some (S, (0 : Int32))
  else
    k_31 (x2 + (1 : Int32)) S
noncomputable def fX8_readText_75 (fu : Nat) (k_31 : Int32 → St → Option (St × Int32)) (x2 : Int32) (S : St) : Option (St × Int32) :=
  fX8_readText_84 fu k_31 x2 (0 : Int32) S
noncomputable def fX8_readText_31 (fu : Nat) (n : Nat) : Int32 → St → Option (St × Int32) :=
  Nat.rec (motive := fun _ => Int32 → St → Option (St × Int32)) (fun _ _ => none) (fun _ k_31 x2 S =>
    bd (fX0_size fu 1 S) fun S_33 r_33 =>
    if r_33 ≤ x2 then
      bd (fX8_lengthAt fu 7 ((S_33.1 7 2) - (1 : Int32)) S_33) fun S_106 r_106 =>
      if r_106 ≤ 0 then
        some (S_106, (0 : Int32))
      else
        some (S_106, (1 : Int32))
    else
      bd (fX0_at fu 1 x2 S_33) fun S_41 r_41 =>
      if r_41 = (46 : Int32) then
        bd (fX8_lengthAt fu 7 ((S_41.1 7 2) - (1 : Int32)) S_41) fun S_58 r_58 =>
        if r_58 ≤ 0 then
          fX8_readText_75 fu k_31 x2 S_58
        else
          bd (fX8_open fu 7 S_58) fun S_65 r_65 =>
          if r_65 = 0 then
            fX8_readText_75 fu k_31 x2 S_65
          else
            fX8_readText_84 fu k_31 x2 (1 : Int32) S_65
      else
        bd (fX8_add fu 7 r_41 S_41) fun S_81 r_81 =>
        fX8_readText_84 fu k_31 x2 r_81 S_81) n
theorem fX8_readText_31_s (fu : Nat) (n : Nat) (x2 : Int32) (S : St) : fX8_readText_31 fu (n + 1) x2 S = (
    bd (fX0_size fu 1 S) fun S_33 r_33 =>
    if r_33 ≤ x2 then
      bd (fX8_lengthAt fu 7 ((S_33.1 7 2) - (1 : Int32)) S_33) fun S_106 r_106 =>
      if r_106 ≤ 0 then
        some (S_106, (0 : Int32))
      else
        some (S_106, (1 : Int32))
    else
      bd (fX0_at fu 1 x2 S_33) fun S_41 r_41 =>
      if r_41 = (46 : Int32) then
        bd (fX8_lengthAt fu 7 ((S_41.1 7 2) - (1 : Int32)) S_41) fun S_58 r_58 =>
        if r_58 ≤ 0 then
          fX8_readText_75 fu (fX8_readText_31 fu n) x2 S_58
        else
          bd (fX8_open fu 7 S_58) fun S_65 r_65 =>
          if r_65 = 0 then
            fX8_readText_75 fu (fX8_readText_31 fu n) x2 S_65
          else
            fX8_readText_84 fu (fX8_readText_31 fu n) x2 (1 : Int32) S_65
      else
        bd (fX8_add fu 7 r_41 S_41) fun S_81 r_81 =>
        fX8_readText_84 fu (fX8_readText_31 fu n) x2 r_81 S_81) := rfl
noncomputable def fX8_readText_24 (fu : Nat) (S : St) : Option (St × Int32) :=
  bd (fX8_open fu 7 S) fun S_25 r_25 =>
  fX8_readText_31 fu fu (0 : Int32) S_25
noncomputable def fX8_readText (fu : Nat) (S : St) : Option (St × Int32) :=
  bd (fX8_clear fu 7 S) fun S_1 _ =>
  bd (fX0_size fu 1 S_1) fun S_5 r_5 =>
  if r_5 = (1 : Int32) then
    bd (fX0_at fu 1 (0 : Int32) S_5) fun S_14 r_14 =>
    if r_14 = (46 : Int32) then
      some (S_14, (1 : Int32))
    else
      fX8_readText_24 fu S_14
  else
    fX8_readText_24 fu S_5
noncomputable def fX3_size (fu : Nat) (S : St) : Option (St × Int32) :=
  some (S, (S.1 3 3))
noncomputable def fX3_has (fu : Nat) (x1 : Int32) (S : St) : Option (St × Int32) :=
  if x1 < 0 then
    some (S, (0 : Int32))
  else
    if (S.1 3 3) ≤ x1 then
      some (S, (0 : Int32))
    else
      some (S, (1 : Int32))
noncomputable def fX3_above (fu : Nat) (x1 : Int32) (S : St) : Option (St × Int32) :=
  if x1 < 0 then
    some (S, (0 : Int32))
  else
    if (S.1 3 3) ≤ x1 then
      some (S, (0 : Int32))
    else
      gd (ck x1 300) <|
      some (S, (S.1 4 (x1).toNatClampNeg))
noncomputable def fX3_labelSize (fu : Nat) (x1 : Int32) (S : St) : Option (St × Int32) :=
  if x1 < 0 then
    some (S, (0 : Int32))
  else
    if (S.1 3 3) ≤ x1 then
      some (S, (0 : Int32))
    else
      gd (ck x1 300) <|
      some (S, (S.1 6 (x1).toNatClampNeg))
noncomputable def fX3_letter (fu : Nat) (x1 : Int32) (x2 : Int32) (S : St) : Option (St × Int32) :=
  if x1 < 0 then
    some (S, (-1 : Int32))
  else
    if (S.1 3 3) ≤ x1 then
      some (S, (-1 : Int32))
    else
      if x2 < 0 then
        some (S, (-1 : Int32))
      else
        gd (ck x1 300) <|
        if x2 < (S.1 6 (x1).toNatClampNeg) then
          gd (ck x1 300) <|
          gd (ck x1 300) <|
          if ((((S.2 5 (x1).toNatClampNeg) >>> ((((6 : Int32) * (((S.1 6 (x1).toNatClampNeg) - (1 : Int32)) - x2))).toInt64 &&& 63))).toInt32 &&& (63 : Int32)) = (37 : Int32) then
            some (S, (45 : Int32))
          else
            if ((((S.2 5 (x1).toNatClampNeg) >>> ((((6 : Int32) * (((S.1 6 (x1).toNatClampNeg) - (1 : Int32)) - x2))).toInt64 &&& 63))).toInt32 &&& (63 : Int32)) ≤ (26 : Int32) then
              some (S, ((((((S.2 5 (x1).toNatClampNeg) >>> ((((6 : Int32) * (((S.1 6 (x1).toNatClampNeg) - (1 : Int32)) - x2))).toInt64 &&& 63))).toInt32 &&& (63 : Int32)) - (1 : Int32)) + (97 : Int32)))
            else
              some (S, ((((((S.2 5 (x1).toNatClampNeg) >>> ((((6 : Int32) * (((S.1 6 (x1).toNatClampNeg) - (1 : Int32)) - x2))).toInt64 &&& 63))).toInt32 &&& (63 : Int32)) - (27 : Int32)) + (48 : Int32)))
        else
          some (S, (-1 : Int32))
noncomputable def fX3_depth_7 (fu : Nat) (n : Nat) : Int32 → Int32 → Int32 → St → Option (St × Int32) :=
  Nat.rec (motive := fun _ => Int32 → Int32 → Int32 → St → Option (St × Int32)) (fun _ _ _ _ => none) (fun _ k_7 x2 x3 x4 S =>
    if (6 : Int32) ≤ x4 then
      some (S, x2)
    else
      if x3 = 0 then
        some (S, x2)
      else
        bd (fX3_above fu x3 S) fun S_23 r_23 =>
        k_7 (x2 + (1 : Int32)) r_23 (x4 + (1 : Int32)) S_23) n
theorem fX3_depth_7_s (fu : Nat) (n : Nat) (x2 : Int32) (x3 : Int32) (x4 : Int32) (S : St) : fX3_depth_7 fu (n + 1) x2 x3 x4 S = (
    if (6 : Int32) ≤ x4 then
      some (S, x2)
    else
      if x3 = 0 then
        some (S, x2)
      else
        bd (fX3_above fu x3 S) fun S_23 r_23 =>
        (fX3_depth_7 fu n) (x2 + (1 : Int32)) r_23 (x4 + (1 : Int32)) S_23) := rfl
noncomputable def fX3_depth (fu : Nat) (x1 : Int32) (S : St) : Option (St × Int32) :=
  fX3_depth_7 fu fu (0 : Int32) x1 (0 : Int32) S
noncomputable def fX3_isIn_29 (fu : Nat) (x2 : Int32) (x3 : Int32) (S : St) : Option (St × Int32) :=
  if x3 = x2 then
    some (S, (1 : Int32))
  else
    some (S, (0 : Int32))
noncomputable def fX3_isIn_5 (fu : Nat) (n : Nat) : Int32 → Int32 → Int32 → St → Option (St × Int32) :=
  Nat.rec (motive := fun _ => Int32 → Int32 → Int32 → St → Option (St × Int32)) (fun _ _ _ _ => none) (fun _ k_5 x2 x3 x4 S =>
    if (6 : Int32) ≤ x4 then
      fX3_isIn_29 fu x2 x3 S
    else
      if x3 = x2 then
        fX3_isIn_29 fu x2 x3 S
      else
        bd (fX3_above fu x3 S) fun S_19 r_19 =>
        k_5 x2 r_19 (x4 + (1 : Int32)) S_19) n
theorem fX3_isIn_5_s (fu : Nat) (n : Nat) (x2 : Int32) (x3 : Int32) (x4 : Int32) (S : St) : fX3_isIn_5 fu (n + 1) x2 x3 x4 S = (
    if (6 : Int32) ≤ x4 then
      fX3_isIn_29 fu x2 x3 S
    else
      if x3 = x2 then
        fX3_isIn_29 fu x2 x3 S
      else
        bd (fX3_above fu x3 S) fun S_19 r_19 =>
        (fX3_isIn_5 fu n) x2 r_19 (x4 + (1 : Int32)) S_19) := rfl
noncomputable def fX3_isIn (fu : Nat) (x1 : Int32) (x2 : Int32) (S : St) : Option (St × Int32) :=
  fX3_isIn_5 fu fu x2 x1 (0 : Int32) S
noncomputable def fX3_textSize_13 (fu : Nat) (n : Nat) : Int32 → Int32 → Int32 → St → Option (St × Int32) :=
  Nat.rec (motive := fun _ => Int32 → Int32 → Int32 → St → Option (St × Int32)) (fun _ _ _ _ => none) (fun _ k_13 x2 x3 x4 S =>
    if (6 : Int32) ≤ x4 then
      some (S, x2)
    else
      if x3 = 0 then
        some (S, x2)
      else
        bd (fX3_labelSize fu x3 S) fun S_27 r_27 =>
        bd (fX3_above fu x3 S_27) fun S_36 r_36 =>
        k_13 (x2 + (r_27 + (1 : Int32))) r_36 (x4 + (1 : Int32)) S_36) n
theorem fX3_textSize_13_s (fu : Nat) (n : Nat) (x2 : Int32) (x3 : Int32) (x4 : Int32) (S : St) : fX3_textSize_13 fu (n + 1) x2 x3 x4 S = (
    if (6 : Int32) ≤ x4 then
      some (S, x2)
    else
      if x3 = 0 then
        some (S, x2)
      else
        bd (fX3_labelSize fu x3 S) fun S_27 r_27 =>
        bd (fX3_above fu x3 S_27) fun S_36 r_36 =>
        (fX3_textSize_13 fu n) (x2 + (r_27 + (1 : Int32))) r_36 (x4 + (1 : Int32)) S_36) := rfl
noncomputable def fX3_textSize (fu : Nat) (x1 : Int32) (S : St) : Option (St × Int32) :=
  if x1 = 0 then
    some (S, (1 : Int32))
  else
    fX3_textSize_13 fu fu (-1 : Int32) x1 (0 : Int32) S
noncomputable def fX3_textByte_64 (fu : Nat) (x3 : Int32) (x4 : Int32) (S : St) : Option (St × Int32) :=
  bd (fX3_labelSize fu x3 S) fun S_68 r_68 =>
  if x4 = r_68 then
    some (S_68, (46 : Int32))
  else
    bd (fX3_letter fu x3 x4 S_68) fun S_83 r_83 =>
    some (S_83, r_83)
noncomputable def fX3_textByte_23 (fu : Nat) (n : Nat) : Int32 → Int32 → Int32 → St → Option (St × Int32) :=
  Nat.rec (motive := fun _ => Int32 → Int32 → Int32 → St → Option (St × Int32)) (fun _ _ _ _ => none) (fun _ k_23 x3 x4 x5 S =>
    if (6 : Int32) ≤ x5 then
      fX3_textByte_64 fu x3 x4 S
    else
      bd (fX3_labelSize fu x3 S) fun S_34 r_34 =>
      if x4 ≤ r_34 then
        fX3_textByte_64 fu x3 x4 S_34
      else
        bd (fX3_labelSize fu x3 S_34) fun S_44 r_44 =>
        bd (fX3_above fu x3 S_44) fun S_54 r_54 =>
        k_23 r_54 (x4 - (r_44 + (1 : Int32))) (x5 + (1 : Int32)) S_54) n
theorem fX3_textByte_23_s (fu : Nat) (n : Nat) (x3 : Int32) (x4 : Int32) (x5 : Int32) (S : St) : fX3_textByte_23 fu (n + 1) x3 x4 x5 S = (
    if (6 : Int32) ≤ x5 then
      fX3_textByte_64 fu x3 x4 S
    else
      bd (fX3_labelSize fu x3 S) fun S_34 r_34 =>
      if x4 ≤ r_34 then
        fX3_textByte_64 fu x3 x4 S_34
      else
        bd (fX3_labelSize fu x3 S_34) fun S_44 r_44 =>
        bd (fX3_above fu x3 S_44) fun S_54 r_54 =>
        (fX3_textByte_23 fu n) r_54 (x4 - (r_44 + (1 : Int32))) (x5 + (1 : Int32)) S_54) := rfl
noncomputable def fX3_textByte (fu : Nat) (x1 : Int32) (x2 : Int32) (S : St) : Option (St × Int32) :=
  if x2 < 0 then
    some (S, (-1 : Int32))
  else
    bd (fX3_textSize fu x1 S) fun S_7 r_7 =>
    if x2 < r_7 then
      fX3_textByte_23 fu fu x1 x2 (0 : Int32) S_7
    else
      some (S_7, (-1 : Int32))
noncomputable def fX3_child_38 (fu : Nat) (k_3 : Int32 → Int64 → Int32 → St → Option (St × Int32)) (x1 : Int32) (x2 : Int64) (x4 : Int32) (S : St) : Option (St × Int32) :=
  k_3 x1 x2 (x4 + (1 : Int32)) S
noncomputable def fX3_child_3 (fu : Nat) (n : Nat) : Int32 → Int64 → Int32 → St → Option (St × Int32) :=
  Nat.rec (motive := fun _ => Int32 → Int64 → Int32 → St → Option (St × Int32)) (fun _ _ _ _ => none) (fun _ k_3 x1 x2 x4 S =>
    if (S.1 3 3) ≤ x4 then
      some (S, (-1 : Int32))
    else
      gd (ck x4 300) <|
      if (S.1 4 (x4).toNatClampNeg) = x1 then
        gd (ck x4 300) <|
        if (lg_cmp (S.2 5 (x4).toNatClampNeg) x2) = 0 then
          some (S, x4)
        else
          fX3_child_38 fu k_3 x1 x2 x4 S
      else
        fX3_child_38 fu k_3 x1 x2 x4 S) n
theorem fX3_child_3_s (fu : Nat) (n : Nat) (x1 : Int32) (x2 : Int64) (x4 : Int32) (S : St) : fX3_child_3 fu (n + 1) x1 x2 x4 S = (
    if (S.1 3 3) ≤ x4 then
      some (S, (-1 : Int32))
    else
      gd (ck x4 300) <|
      if (S.1 4 (x4).toNatClampNeg) = x1 then
        gd (ck x4 300) <|
        if (lg_cmp (S.2 5 (x4).toNatClampNeg) x2) = 0 then
          some (S, x4)
        else
          fX3_child_38 fu (fX3_child_3 fu n) x1 x2 x4 S
      else
        fX3_child_38 fu (fX3_child_3 fu n) x1 x2 x4 S) := rfl
noncomputable def fX3_child (fu : Nat) (x1 : Int32) (x2 : Int64) (S : St) : Option (St × Int32) :=
  fX3_child_3 fu fu x1 x2 (1 : Int32) S
noncomputable def fX3_missing_9 (fu : Nat) (n : Nat) : Int32 → Int32 → St → Option (St × Int32) :=
  Nat.rec (motive := fun _ => Int32 → Int32 → St → Option (St × Int32)) (fun _ _ _ => none) (fun _ k_9 x2 x3 S =>
    if x3 < 0 then
      some (S, (0 : Int32))
    else
      bd (fX8_labelAt fu 7 x3 S) fun S_17 r_17 =>
      bd (fX3_child fu x2 r_17 S_17) fun S_20 r_20 =>
      if r_20 = (-1 : Int32) then
        some (S_20, (x3 + (1 : Int32)))
      else
        k_9 r_20 (x3 + (-1 : Int32)) S_20) n
theorem fX3_missing_9_s (fu : Nat) (n : Nat) (x2 : Int32) (x3 : Int32) (S : St) : fX3_missing_9 fu (n + 1) x2 x3 S = (
    if x3 < 0 then
      some (S, (0 : Int32))
    else
      bd (fX8_labelAt fu 7 x3 S) fun S_17 r_17 =>
      bd (fX3_child fu x2 r_17 S_17) fun S_20 r_20 =>
      if r_20 = (-1 : Int32) then
        some (S_20, (x3 + (1 : Int32)))
      else
        (fX3_missing_9 fu n) r_20 (x3 + (-1 : Int32)) S_20) := rfl
noncomputable def fX3_missing (fu : Nat) (S : St) : Option (St × Int32) :=
  bd (fX8_size fu 7 S) fun S_3 r_3 =>
  fX3_missing_9 fu fu (0 : Int32) (r_3 - (1 : Int32)) S_3
noncomputable def fX3_add (fu : Nat) (x1 : Int32) (x2 : Int64) (x4 : Int32) (S : St) : Option (St × Int32) :=
  if (S.1 3 3) < (300 : Int32) then
    gd (ck (S.1 3 3) 300) <|
    sI 4 ((S.1 3 3)).toNatClampNeg x1 S fun S_21 =>
    gd (ck (S_21.1 3 3) 300) <|
    sJ 5 ((S_21.1 3 3)).toNatClampNeg x2 S_21 fun S_31 =>
    gd (ck (S_31.1 3 3) 300) <|
    sI 6 ((S_31.1 3 3)).toNatClampNeg x4 S_31 fun S_42 =>
    sI 3 3 ((S_42.1 3 3) + (1 : Int32)) S_42 fun S_50 =>
    some (S_50, ((S_50.1 3 3) - (1 : Int32)))
  else
    some (S, (-1 : Int32))
noncomputable def fX3_made_48 (fu : Nat) (g : Nat) (k_9 : Int32 → Int32 → St → Option (St × Int32)) (x3 : Int32) (x4 : Int32) (S : St) : Option (St × Int32) :=
  if x4 = (-1 : Int32) then
    some (S, (-1 : Int32))
  else
    k_9 x4 (x3 + (-1 : Int32)) S
noncomputable def fX3_made_9 (fu : Nat) (g : Nat) (n : Nat) : Int32 → Int32 → St → Option (St × Int32) :=
  Nat.rec (motive := fun _ => Int32 → Int32 → St → Option (St × Int32)) (fun _ _ _ => none) (fun _ k_9 x2 x3 S =>
    if x3 < 0 then
      some (S, x2)
    else
      bd (fX8_labelAt fu g x3 S) fun S_17 r_17 =>
      bd (fX3_child fu x2 r_17 S_17) fun S_20 r_20 =>
      if r_20 = (-1 : Int32) then
        bd (fX8_labelAt fu g x3 S_20) fun S_35 r_35 =>
        bd (fX8_lengthAt fu g x3 S_35) fun S_40 r_40 =>
        bd (fX3_add fu x2 r_35 r_40 S_40) fun S_43 r_43 =>
        fX3_made_48 fu g k_9 x3 r_43 S_43
      else
        fX3_made_48 fu g k_9 x3 r_20 S_20) n
theorem fX3_made_9_s (fu : Nat) (g : Nat) (n : Nat) (x2 : Int32) (x3 : Int32) (S : St) : fX3_made_9 fu g (n + 1) x2 x3 S = (
    if x3 < 0 then
      some (S, x2)
    else
      bd (fX8_labelAt fu g x3 S) fun S_17 r_17 =>
      bd (fX3_child fu x2 r_17 S_17) fun S_20 r_20 =>
      if r_20 = (-1 : Int32) then
        bd (fX8_labelAt fu g x3 S_20) fun S_35 r_35 =>
        bd (fX8_lengthAt fu g x3 S_35) fun S_40 r_40 =>
        bd (fX3_add fu x2 r_35 r_40 S_40) fun S_43 r_43 =>
        fX3_made_48 fu g (fX3_made_9 fu g n) x3 r_43 S_43
      else
        fX3_made_48 fu g (fX3_made_9 fu g n) x3 r_20 S_20) := rfl
noncomputable def fX3_made (fu : Nat) (g : Nat) (S : St) : Option (St × Int32) :=
  bd (fX8_size fu g S) fun S_3 r_3 =>
  fX3_made_9 fu g fu (0 : Int32) (r_3 - (1 : Int32)) S_3
noncomputable def fX5_size (fu : Nat) (q : Nat) (S : St) : Option (St × Int32) :=
  some (S, (S.1 q 5))
noncomputable def fX5_has (fu : Nat) (q : Nat) (x1 : Int32) (S : St) : Option (St × Int32) :=
  if x1 < 0 then
    some (S, (0 : Int32))
  else
    if (S.1 q 5) ≤ x1 then
      some (S, (0 : Int32))
    else
      some (S, (1 : Int32))
noncomputable def fX5_section (fu : Nat) (q : Nat) (x1 : Int32) (S : St) : Option (St × Int32) :=
  bd (fX5_has fu q x1 S) fun S_2 r_2 =>
  if r_2 = 0 then
    some (S_2, (-1 : Int32))
  else
    gd (ck x1 90) <|
    some (S_2, (S_2.1 (q + 1) (x1).toNatClampNeg))
noncomputable def fX5_owner (fu : Nat) (q : Nat) (x1 : Int32) (S : St) : Option (St × Int32) :=
  bd (fX5_has fu q x1 S) fun S_2 r_2 =>
  if r_2 = 0 then
    some (S_2, (-1 : Int32))
  else
    gd (ck x1 90) <|
    some (S_2, (S_2.1 (q + 2) (x1).toNatClampNeg))
noncomputable def fX5_type (fu : Nat) (q : Nat) (x1 : Int32) (S : St) : Option (St × Int32) :=
  bd (fX5_has fu q x1 S) fun S_2 r_2 =>
  if r_2 = 0 then
    some (S_2, (-1 : Int32))
  else
    gd (ck x1 90) <|
    some (S_2, (S_2.1 (q + 3) (x1).toNatClampNeg))
noncomputable def fX5_value (fu : Nat) (q : Nat) (x1 : Int32) (S : St) : Option (St × Int32) :=
  bd (fX5_has fu q x1 S) fun S_2 r_2 =>
  if r_2 = 0 then
    some (S_2, (0 : Int32))
  else
    gd (ck x1 90) <|
    some (S_2, (S_2.1 (q + 4) (x1).toNatClampNeg))
noncomputable def fX5_life (fu : Nat) (q : Nat) (x1 : Int32) (S : St) : Option (St × Int32) :=
  bd (fX5_has fu q x1 S) fun S_2 r_2 =>
  if r_2 = 0 then
    some (S_2, (0 : Int32))
  else
    gd (ck x1 90) <|
    some (S_2, (S_2.1 (q + 5) (x1).toNatClampNeg))
noncomputable def fX5_clear (fu : Nat) (q : Nat) (S : St) : Option (St × Int32) :=
  sI q 5 (0 : Int32) S fun S_2 =>
  some (S_2, (0 : Int32))
noncomputable def fX5_add (fu : Nat) (q : Nat) (x1 : Int32) (x2 : Int32) (x3 : Int32) (x4 : Int32) (x5 : Int32) (S : St) : Option (St × Int32) :=
  if (S.1 q 5) < (90 : Int32) then
    gd (ck (S.1 q 5) 90) <|
    sI (q + 1) ((S.1 q 5)).toNatClampNeg x1 S fun S_19 =>
    gd (ck (S_19.1 q 5) 90) <|
    sI (q + 2) ((S_19.1 q 5)).toNatClampNeg x2 S_19 fun S_29 =>
    gd (ck (S_29.1 q 5) 90) <|
    sI (q + 3) ((S_29.1 q 5)).toNatClampNeg x3 S_29 fun S_39 =>
    gd (ck (S_39.1 q 5) 90) <|
    sI (q + 4) ((S_39.1 q 5)).toNatClampNeg x4 S_39 fun S_50 =>
    gd (ck (S_50.1 q 5) 90) <|
    sI (q + 5) ((S_50.1 q 5)).toNatClampNeg x5 S_50 fun S_61 =>
    sI q 5 ((S_61.1 q 5) + (1 : Int32)) S_61 fun S_69 =>
    some (S_69, (0 : Int32))
  else
    some (S, (0 : Int32))
noncomputable def fX5_copy_6 (fu : Nat) (n : Nat) : Int32 → St → Option (St × Int32) :=
  Nat.rec (motive := fun _ => Int32 → St → Option (St × Int32)) (fun _ _ => none) (fun _ k_6 x2 S =>
    if (S.1 30 5) ≤ x2 then
      some (S, (0 : Int32))
    else
      gd (ck x2 90) <|
      gd (ck x2 90) <|
      gd (ck x2 90) <|
      gd (ck x2 90) <|
      gd (ck x2 90) <|
      bd (fX5_add fu 36 (S.1 31 (x2).toNatClampNeg) (S.1 32 (x2).toNatClampNeg) (S.1 33 (x2).toNatClampNeg) (S.1 34 (x2).toNatClampNeg) (S.1 35 (x2).toNatClampNeg) S) fun S_45 _ =>
      k_6 (x2 + (1 : Int32)) S_45) n
theorem fX5_copy_6_s (fu : Nat) (n : Nat) (x2 : Int32) (S : St) : fX5_copy_6 fu (n + 1) x2 S = (
    if (S.1 30 5) ≤ x2 then
      some (S, (0 : Int32))
    else
      gd (ck x2 90) <|
      gd (ck x2 90) <|
      gd (ck x2 90) <|
      gd (ck x2 90) <|
      gd (ck x2 90) <|
      bd (fX5_add fu 36 (S.1 31 (x2).toNatClampNeg) (S.1 32 (x2).toNatClampNeg) (S.1 33 (x2).toNatClampNeg) (S.1 34 (x2).toNatClampNeg) (S.1 35 (x2).toNatClampNeg) S) fun S_45 _ =>
      (fX5_copy_6 fu n) (x2 + (1 : Int32)) S_45) := rfl
noncomputable def fX5_copy (fu : Nat) (S : St) : Option (St × Int32) :=
  bd (fX5_clear fu 36 S) fun S_1 _ =>
  fX5_copy_6 fu fu (0 : Int32) S_1
noncomputable def fX5_isOf (fu : Nat) (q : Nat) (x1 : Int32) (x2 : Int32) (x3 : Int32) (x4 : Int32) (S : St) : Option (St × Int32) :=
  bd (fX5_has fu q x1 S) fun S_2 r_2 =>
  if r_2 = 0 then
    some (S_2, (0 : Int32))
  else
    gd (ck x1 90) <|
    if (S_2.1 (q + 1) (x1).toNatClampNeg) = x2 then
      gd (ck x1 90) <|
      if (S_2.1 (q + 2) (x1).toNatClampNeg) = x3 then
        gd (ck x1 90) <|
        if (S_2.1 (q + 3) (x1).toNatClampNeg) = x4 then
          some (S_2, (1 : Int32))
        else
          some (S_2, (0 : Int32))
      else
        some (S_2, (0 : Int32))
    else
      some (S_2, (0 : Int32))
noncomputable def fX5_first_32 (fu : Nat) (q : Nat) (k_2 : Int32 → Int32 → Int32 → St → Option (St × Int32)) (x1 : Int32) (x2 : Int32) (x3 : Int32) (S : St) : Option (St × Int32) :=
  k_2 x1 x2 (x3 + (1 : Int32)) S
noncomputable def fX5_first_2 (fu : Nat) (q : Nat) (n : Nat) : Int32 → Int32 → Int32 → St → Option (St × Int32) :=
  Nat.rec (motive := fun _ => Int32 → Int32 → Int32 → St → Option (St × Int32)) (fun _ _ _ _ => none) (fun _ k_2 x1 x2 x3 S =>
    if (S.1 q 5) ≤ x3 then
      some (S, (-1 : Int32))
    else
      gd (ck x3 90) <|
      if (S.1 (q + 1) (x3).toNatClampNeg) = x1 then
        gd (ck x3 90) <|
        if (S.1 (q + 3) (x3).toNatClampNeg) = x2 then
          some (S, x3)
        else
          fX5_first_32 fu q k_2 x1 x2 x3 S
      else
        fX5_first_32 fu q k_2 x1 x2 x3 S) n
theorem fX5_first_2_s (fu : Nat) (q : Nat) (n : Nat) (x1 : Int32) (x2 : Int32) (x3 : Int32) (S : St) : fX5_first_2 fu q (n + 1) x1 x2 x3 S = (
    if (S.1 q 5) ≤ x3 then
      some (S, (-1 : Int32))
    else
      gd (ck x3 90) <|
      if (S.1 (q + 1) (x3).toNatClampNeg) = x1 then
        gd (ck x3 90) <|
        if (S.1 (q + 3) (x3).toNatClampNeg) = x2 then
          some (S, x3)
        else
          fX5_first_32 fu q (fX5_first_2 fu q n) x1 x2 x3 S
      else
        fX5_first_32 fu q (fX5_first_2 fu q n) x1 x2 x3 S) := rfl
noncomputable def fX5_first (fu : Nat) (q : Nat) (x1 : Int32) (x2 : Int32) (S : St) : Option (St × Int32) :=
  fX5_first_2 fu q fu x1 x2 (0 : Int32) S
noncomputable def fX1_size (fu : Nat) (S : St) : Option (St × Int32) :=
  some (S, (S.1 42 6))
noncomputable def fX1_now (fu : Nat) (S : St) : Option (St × Int32) :=
  some (S, (S.1 42 8))
noncomputable def fX1_goOn (fu : Nat) (x1 : Int32) (S : St) : Option (St × Int32) :=
  sI 42 8 ((S.1 42 8) + x1) S fun S_7 =>
  some (S_7, (S_7.1 42 8))
noncomputable def fX1_slotOf_32 (fu : Nat) (k_2 : Int32 → Int32 → Int32 → St → Option (St × Int32)) (x1 : Int32) (x2 : Int32) (x3 : Int32) (S : St) : Option (St × Int32) :=
  k_2 x1 x2 (x3 + (1 : Int32)) S
noncomputable def fX1_slotOf_2 (fu : Nat) (n : Nat) : Int32 → Int32 → Int32 → St → Option (St × Int32) :=
  Nat.rec (motive := fun _ => Int32 → Int32 → Int32 → St → Option (St × Int32)) (fun _ _ _ _ => none) (fun _ k_2 x1 x2 x3 S =>
    if (S.1 42 6) ≤ x3 then
      some (S, (-1 : Int32))
    else
      gd (ck x3 100) <|
      if (S.1 43 (x3).toNatClampNeg) = x1 then
        gd (ck x3 100) <|
        if (S.1 44 (x3).toNatClampNeg) = x2 then
          some (S, x3)
        else
          fX1_slotOf_32 fu k_2 x1 x2 x3 S
      else
        fX1_slotOf_32 fu k_2 x1 x2 x3 S) n
theorem fX1_slotOf_2_s (fu : Nat) (n : Nat) (x1 : Int32) (x2 : Int32) (x3 : Int32) (S : St) : fX1_slotOf_2 fu (n + 1) x1 x2 x3 S = (
    if (S.1 42 6) ≤ x3 then
      some (S, (-1 : Int32))
    else
      gd (ck x3 100) <|
      if (S.1 43 (x3).toNatClampNeg) = x1 then
        gd (ck x3 100) <|
        if (S.1 44 (x3).toNatClampNeg) = x2 then
          some (S, x3)
        else
          fX1_slotOf_32 fu (fX1_slotOf_2 fu n) x1 x2 x3 S
      else
        fX1_slotOf_32 fu (fX1_slotOf_2 fu n) x1 x2 x3 S) := rfl
noncomputable def fX1_slotOf (fu : Nat) (x1 : Int32) (x2 : Int32) (S : St) : Option (St × Int32) :=
  fX1_slotOf_2 fu fu x1 x2 (0 : Int32) S
noncomputable def fX1_held (fu : Nat) (x1 : Int32) (x2 : Int32) (S : St) : Option (St × Int32) :=
  bd (fX1_slotOf fu x1 x2 S) fun S_3 r_3 =>
  if r_3 = (-1 : Int32) then
    some (S_3, (-1 : Int32))
  else
    gd (ck r_3 100) <|
    if 0 ≤ (lg_cmp ((S_3.1 42 8)).toInt64 (S_3.2 45 (r_3).toNatClampNeg)) then
      some (S_3, (-1 : Int32))
    else
      gd (ck r_3 100) <|
      some (S_3, (S_3.1 47 (r_3).toNatClampNeg))
noncomputable def fX1_setOf (fu : Nat) (x1 : Int32) (x2 : Int32) (S : St) : Option (St × Int32) :=
  bd (fX1_slotOf fu x1 x2 S) fun S_3 r_3 =>
  if r_3 = (-1 : Int32) then
    some (S_3, (-1 : Int32))
  else
    gd (ck r_3 100) <|
    if 0 ≤ (lg_cmp ((S_3.1 42 8)).toInt64 (S_3.2 45 (r_3).toNatClampNeg)) then
      some (S_3, (-1 : Int32))
    else
      gd (ck r_3 100) <|
      if (S_3.1 47 (r_3).toNatClampNeg) ≤ 0 then
        some (S_3, (-1 : Int32))
      else
        some (S_3, r_3)
noncomputable def fX1_sizeOf (fu : Nat) (x1 : Int32) (S : St) : Option (St × Int32) :=
  if x1 < 0 then
    some (S, (0 : Int32))
  else
    if (S.1 42 6) ≤ x1 then
      some (S, (0 : Int32))
    else
      gd (ck x1 100) <|
      some (S, (S.1 47 (x1).toNatClampNeg))
noncomputable def fX1_valueOf (fu : Nat) (x1 : Int32) (x2 : Int32) (S : St) : Option (St × Int32) :=
  if x2 < 0 then
    some (S, (0 : Int32))
  else
    bd (fX1_sizeOf fu x1 S) fun S_7 r_7 =>
    if r_7 ≤ x2 then
      some (S_7, (0 : Int32))
    else
      gd (ck ((x1 * (10 : Int32)) + x2) 1000) <|
      some (S_7, (S_7.1 48 (((x1 * (10 : Int32)) + x2)).toNatClampNeg))
noncomputable def fX1_firstToEnd_83 (fu : Nat) (k_4 : Int32 → Int32 → St → Option (St × Int32)) (x1 : Int32) (x2 : Int32) (S : St) : Option (St × Int32) :=
  k_4 x1 (x2 + (1 : Int32)) S
noncomputable def fX1_firstToEnd_81 (fu : Nat) (k_4 : Int32 → Int32 → St → Option (St × Int32)) (x2 : Int32) (S : St) : Option (St × Int32) :=
  fX1_firstToEnd_83 fu k_4 x2 x2 S
noncomputable def fX1_firstToEnd_70 (fu : Nat) (k_4 : Int32 → Int32 → St → Option (St × Int32)) (x1 : Int32) (x2 : Int32) (x3 : Int32) (t0 : Int32) (S : St) : Option (St × Int32) :=
  if x3 = 0 then
    if t0 = 0 then
      fX1_firstToEnd_83 fu k_4 x1 x2 S
    else
      fX1_firstToEnd_81 fu k_4 x2 S
  else
    fX1_firstToEnd_81 fu k_4 x2 S
noncomputable def fX1_firstToEnd_69 (fu : Nat) (k_4 : Int32 → Int32 → St → Option (St × Int32)) (x1 : Int32) (x2 : Int32) (x3 : Int32) (S : St) : Option (St × Int32) :=
  fX1_firstToEnd_70 fu k_4 x1 x2 x3 (0 : Int32) S
noncomputable def fX1_firstToEnd_33 (fu : Nat) (k_4 : Int32 → Int32 → St → Option (St × Int32)) (x1 : Int32) (x2 : Int32) (t0 : Int32) (S : St) : Option (St × Int32) :=
  gd (ck x2 100) <|
  gd (ck x1 100) <|
  if (lg_cmp (S.2 45 (x2).toNatClampNeg) (S.2 45 (x1).toNatClampNeg)) = 0 then
    gd (ck x2 100) <|
    gd (ck x1 100) <|
    if (S.1 46 (x1).toNatClampNeg) ≤ (S.1 46 (x2).toNatClampNeg) then
      fX1_firstToEnd_69 fu k_4 x1 x2 t0 S
    else
      fX1_firstToEnd_70 fu k_4 x1 x2 t0 (1 : Int32) S
  else
    fX1_firstToEnd_69 fu k_4 x1 x2 t0 S
noncomputable def fX1_firstToEnd_4 (fu : Nat) (n : Nat) : Int32 → Int32 → St → Option (St × Int32) :=
  Nat.rec (motive := fun _ => Int32 → Int32 → St → Option (St × Int32)) (fun _ _ _ => none) (fun _ k_4 x1 x2 S =>
    if (S.1 42 6) ≤ x2 then
      some (S, x1)
    else
      gd (ck x2 100) <|
      gd (ck x1 100) <|
      if 0 ≤ (lg_cmp (S.2 45 (x2).toNatClampNeg) (S.2 45 (x1).toNatClampNeg)) then
        fX1_firstToEnd_33 fu k_4 x1 x2 (0 : Int32) S
      else
        fX1_firstToEnd_33 fu k_4 x1 x2 (1 : Int32) S) n
theorem fX1_firstToEnd_4_s (fu : Nat) (n : Nat) (x1 : Int32) (x2 : Int32) (S : St) : fX1_firstToEnd_4 fu (n + 1) x1 x2 S = (
    if (S.1 42 6) ≤ x2 then
      some (S, x1)
    else
      gd (ck x2 100) <|
      gd (ck x1 100) <|
      if 0 ≤ (lg_cmp (S.2 45 (x2).toNatClampNeg) (S.2 45 (x1).toNatClampNeg)) then
        fX1_firstToEnd_33 fu (fX1_firstToEnd_4 fu n) x1 x2 (0 : Int32) S
      else
        fX1_firstToEnd_33 fu (fX1_firstToEnd_4 fu n) x1 x2 (1 : Int32) S) := rfl
noncomputable def fX1_firstToEnd (fu : Nat) (S : St) : Option (St × Int32) :=
  fX1_firstToEnd_4 fu fu (0 : Int32) (1 : Int32) S
noncomputable def fX1_put_114 (fu : Nat) (n : Nat) : Int32 → Int32 → Int32 → St → Option (St × Int32) :=
  Nat.rec (motive := fun _ => Int32 → Int32 → Int32 → St → Option (St × Int32)) (fun _ _ _ _ => none) (fun _ k_114 x4 x7 x8 S =>
    if x4 ≤ x8 then
      some (S, (0 : Int32))
    else
      if (10 : Int32) ≤ x8 then
        some (S, (0 : Int32))
      else
        if (Int32.ofNat 10) ≤ x8 then
          some (S, (0 : Int32))
        else
          gd (ck x8 10) <|
          gd (ck ((x7 * (10 : Int32)) + x8) 1000) <|
          sI 48 (((x7 * (10 : Int32)) + x8)).toNatClampNeg (S.1 61 (x8).toNatClampNeg) S fun S_151 =>
          gd (ck x7 100) <|
          sI 47 (x7).toNatClampNeg (x8 + (1 : Int32)) S_151 fun S_162 =>
          k_114 x4 x7 (x8 + (1 : Int32)) S_162) n
theorem fX1_put_114_s (fu : Nat) (n : Nat) (x4 : Int32) (x7 : Int32) (x8 : Int32) (S : St) : fX1_put_114 fu (n + 1) x4 x7 x8 S = (
    if x4 ≤ x8 then
      some (S, (0 : Int32))
    else
      if (10 : Int32) ≤ x8 then
        some (S, (0 : Int32))
      else
        if (Int32.ofNat 10) ≤ x8 then
          some (S, (0 : Int32))
        else
          gd (ck x8 10) <|
          gd (ck ((x7 * (10 : Int32)) + x8) 1000) <|
          sI 48 (((x7 * (10 : Int32)) + x8)).toNatClampNeg (S.1 61 (x8).toNatClampNeg) S fun S_151 =>
          gd (ck x7 100) <|
          sI 47 (x7).toNatClampNeg (x8 + (1 : Int32)) S_151 fun S_162 =>
          (fX1_put_114 fu n) x4 x7 (x8 + (1 : Int32)) S_162) := rfl
noncomputable def fX1_put_51 (fu : Nat) (x1 : Int32) (x2 : Int32) (x4 : Int32) (x5 : Int64) (x7 : Int32) (S : St) : Option (St × Int32) :=
  gd (ck x7 100) <|
  sI 43 (x7).toNatClampNeg x1 S fun S_58 =>
  gd (ck x7 100) <|
  sI 44 (x7).toNatClampNeg x2 S_58 fun S_66 =>
  gd (ck x7 100) <|
  sJ 45 (x7).toNatClampNeg (((S_66.1 42 8)).toInt64 + x5) S_66 fun S_81 =>
  gd (ck x7 100) <|
  sI 46 (x7).toNatClampNeg (S_81.1 42 7) S_81 fun S_92 =>
  sI 42 7 ((S_92.1 42 7) + (1 : Int32)) S_92 fun S_100 =>
  gd (ck x7 100) <|
  sI 47 (x7).toNatClampNeg (0 : Int32) S_100 fun S_110 =>
  fX1_put_114 fu fu x4 x7 (0 : Int32) S_110
noncomputable def fX1_put_39 (fu : Nat) (x1 : Int32) (x2 : Int32) (x4 : Int32) (x5 : Int64) (x7 : Int32) (S : St) : Option (St × Int32) :=
  if x7 = (-1 : Int32) then
    bd (fX1_firstToEnd fu S) fun S_46 r_46 =>
    fX1_put_51 fu x1 x2 x4 x5 r_46 S_46
  else
    fX1_put_51 fu x1 x2 x4 x5 x7 S
noncomputable def fX1_put (fu : Nat) (x1 : Int32) (x2 : Int32) (x4 : Int32) (x5 : Int64) (S : St) : Option (St × Int32) :=
  bd (fX1_slotOf fu x1 x2 S) fun S_3 r_3 =>
  if r_3 = (-1 : Int32) then
    if (100 : Int32) ≤ (S_3.1 42 6) then
      fX1_put_39 fu x1 x2 x4 x5 r_3 S_3
    else
      sI 42 6 ((S_3.1 42 6) + (1 : Int32)) S_3 fun S_36 =>
      fX1_put_39 fu x1 x2 x4 x5 (S_3.1 42 6) S_36
  else
    fX1_put_39 fu x1 x2 x4 x5 r_3 S_3
noncomputable def fX2_depth (fu : Nat) (S : St) : Option (St × Int32) :=
  some (S, (S.1 50 8))
noncomputable def fX2_topName (fu : Nat) (S : St) : Option (St × Int32) :=
  gd (ck (S.1 50 9) 4) <|
  some (S, (S.1 51 ((S.1 50 9)).toNatClampNeg))
noncomputable def fX2_topType (fu : Nat) (S : St) : Option (St × Int32) :=
  gd (ck (S.1 50 9) 4) <|
  some (S, (S.1 52 ((S.1 50 9)).toNatClampNeg))
noncomputable def fX2_topChains (fu : Nat) (S : St) : Option (St × Int32) :=
  gd (ck (S.1 50 9) 4) <|
  some (S, (S.1 53 ((S.1 50 9)).toNatClampNeg))
noncomputable def fX2_topPlace (fu : Nat) (S : St) : Option (St × Int32) :=
  gd (ck (S.1 50 9) 4) <|
  some (S, (S.1 54 ((S.1 50 9)).toNatClampNeg))
noncomputable def fX2_firstName (fu : Nat) (S : St) : Option (St × Int32) :=
  gd (ck (0 : Int32) 4) <|
  some (S, (S.1 51 ((0 : Int32)).toNatClampNeg))
noncomputable def fX2_firstChains (fu : Nat) (S : St) : Option (St × Int32) :=
  gd (ck (0 : Int32) 4) <|
  some (S, (S.1 53 ((0 : Int32)).toNatClampNeg))
noncomputable def fX2_clear (fu : Nat) (S : St) : Option (St × Int32) :=
  sI 50 8 (0 : Int32) S fun S_2 =>
  sI 50 9 (0 : Int32) S_2 fun S_7 =>
  some (S_7, (0 : Int32))
noncomputable def fX2_forget (fu : Nat) (S : St) : Option (St × Int32) :=
  gd (ck (S.1 50 9) 4) <|
  sI 56 ((S.1 50 9)).toNatClampNeg (0 : Int32) S fun S_9 =>
  gd (ck (S_9.1 50 9) 4) <|
  sI 58 ((S_9.1 50 9)).toNatClampNeg (0 : Int32) S_9 fun S_19 =>
  some (S_19, (0 : Int32))
noncomputable def fX2_push (fu : Nat) (x1 : Int32) (x2 : Int32) (S : St) : Option (St × Int32) :=
  if (S.1 50 8) < (4 : Int32) then
    sI 50 9 (S.1 50 8) S fun S_15 =>
    sI 50 8 ((S_15.1 50 8) + (1 : Int32)) S_15 fun S_25 =>
    gd (ck (S_25.1 50 9) 4) <|
    sI 51 ((S_25.1 50 9)).toNatClampNeg x1 S_25 fun S_37 =>
    gd (ck (S_37.1 50 9) 4) <|
    sI 52 ((S_37.1 50 9)).toNatClampNeg x2 S_37 fun S_47 =>
    gd (ck (S_47.1 50 9) 4) <|
    sI 53 ((S_47.1 50 9)).toNatClampNeg (0 : Int32) S_47 fun S_57 =>
    gd (ck (S_57.1 50 9) 4) <|
    sI 54 ((S_57.1 50 9)).toNatClampNeg (-1 : Int32) S_57 fun S_67 =>
    bd (fX2_forget fu S_67) fun S_69 _ =>
    some (S_69, (1 : Int32))
  else
    some (S, (0 : Int32))
noncomputable def fX2_pop_39 (fu : Nat) (t0 : Int32) (S : St) : Option (St × Int32) :=
  sI 50 9 t0 S fun S_39 =>
  some (S_39, (0 : Int32))
noncomputable def fX2_pop_18 (fu : Nat) (t0 : Int32) (S : St) : Option (St × Int32) :=
  sI 50 8 t0 S fun S_18 =>
  if (S_18.1 50 8) ≤ 0 then
    fX2_pop_39 fu (0 : Int32) S_18
  else
    fX2_pop_39 fu ((S_18.1 50 8) - (1 : Int32)) S_18
noncomputable def fX2_pop (fu : Nat) (S : St) : Option (St × Int32) :=
  if (S.1 50 8) ≤ 0 then
    fX2_pop_18 fu (0 : Int32) S
  else
    fX2_pop_18 fu ((S.1 50 8) - (1 : Int32)) S
noncomputable def fX2_follow (fu : Nat) (x1 : Int32) (S : St) : Option (St × Int32) :=
  gd (ck (S.1 50 9) 4) <|
  sI 51 ((S.1 50 9)).toNatClampNeg x1 S fun S_9 =>
  gd (ck (S_9.1 50 9) 4) <|
  gd (ck (S_9.1 50 9) 4) <|
  sI 53 ((S_9.1 50 9)).toNatClampNeg ((S_9.1 53 ((S_9.1 50 9)).toNatClampNeg) + (1 : Int32)) S_9 fun S_22 =>
  bd (fX2_forget fu S_22) fun S_24 _ =>
  some (S_24, (0 : Int32))
noncomputable def fX2_lead (fu : Nat) (x1 : Int32) (S : St) : Option (St × Int32) :=
  gd (ck (S.1 50 9) 4) <|
  if (S.1 54 ((S.1 50 9)).toNatClampNeg) = x1 then
    some (S, (0 : Int32))
  else
    gd (ck (S.1 50 9) 4) <|
    sI 54 ((S.1 50 9)).toNatClampNeg x1 S fun S_22 =>
    bd (fX2_forget fu S_22) fun S_24 _ =>
    some (S_24, (0 : Int32))
noncomputable def fX2_hasTried_2 (fu : Nat) (n : Nat) : Int32 → Int32 → St → Option (St × Int32) :=
  Nat.rec (motive := fun _ => Int32 → Int32 → St → Option (St × Int32)) (fun _ _ _ => none) (fun _ k_2 x1 x2 S =>
    gd (ck (S.1 50 9) 4) <|
    if (S.1 56 ((S.1 50 9)).toNatClampNeg) ≤ x2 then
      some (S, (0 : Int32))
    else
      gd (ck (((S.1 50 9) * (40 : Int32)) + x2) 160) <|
      if (S.1 55 ((((S.1 50 9) * (40 : Int32)) + x2)).toNatClampNeg) = x1 then
        some (S, (1 : Int32))
      else
        k_2 x1 (x2 + (1 : Int32)) S) n
theorem fX2_hasTried_2_s (fu : Nat) (n : Nat) (x1 : Int32) (x2 : Int32) (S : St) : fX2_hasTried_2 fu (n + 1) x1 x2 S = (
    gd (ck (S.1 50 9) 4) <|
    if (S.1 56 ((S.1 50 9)).toNatClampNeg) ≤ x2 then
      some (S, (0 : Int32))
    else
      gd (ck (((S.1 50 9) * (40 : Int32)) + x2) 160) <|
      if (S.1 55 ((((S.1 50 9) * (40 : Int32)) + x2)).toNatClampNeg) = x1 then
        some (S, (1 : Int32))
      else
        (fX2_hasTried_2 fu n) x1 (x2 + (1 : Int32)) S) := rfl
noncomputable def fX2_hasTried (fu : Nat) (x1 : Int32) (S : St) : Option (St × Int32) :=
  fX2_hasTried_2 fu fu x1 (0 : Int32) S
noncomputable def fX2_addTried (fu : Nat) (x1 : Int32) (S : St) : Option (St × Int32) :=
  gd (ck (S.1 50 9) 4) <|
  if (40 : Int32) ≤ (S.1 56 ((S.1 50 9)).toNatClampNeg) then
    some (S, (0 : Int32))
  else
    gd (ck (S.1 50 9) 4) <|
    gd (ck (((S.1 50 9) * (40 : Int32)) + (S.1 56 ((S.1 50 9)).toNatClampNeg)) 160) <|
    sI 55 ((((S.1 50 9) * (40 : Int32)) + (S.1 56 ((S.1 50 9)).toNatClampNeg))).toNatClampNeg x1 S fun S_36 =>
    gd (ck (S_36.1 50 9) 4) <|
    gd (ck (S_36.1 50 9) 4) <|
    sI 56 ((S_36.1 50 9)).toNatClampNeg ((S_36.1 56 ((S_36.1 50 9)).toNatClampNeg) + (1 : Int32)) S_36 fun S_49 =>
    some (S_49, (0 : Int32))
noncomputable def fX2_hasSentFor_2 (fu : Nat) (n : Nat) : Int32 → Int32 → St → Option (St × Int32) :=
  Nat.rec (motive := fun _ => Int32 → Int32 → St → Option (St × Int32)) (fun _ _ _ => none) (fun _ k_2 x1 x2 S =>
    gd (ck (S.1 50 9) 4) <|
    if (S.1 58 ((S.1 50 9)).toNatClampNeg) ≤ x2 then
      some (S, (0 : Int32))
    else
      gd (ck (((S.1 50 9) * (300 : Int32)) + x2) 1200) <|
      if (S.1 57 ((((S.1 50 9) * (300 : Int32)) + x2)).toNatClampNeg) = x1 then
        some (S, (1 : Int32))
      else
        k_2 x1 (x2 + (1 : Int32)) S) n
theorem fX2_hasSentFor_2_s (fu : Nat) (n : Nat) (x1 : Int32) (x2 : Int32) (S : St) : fX2_hasSentFor_2 fu (n + 1) x1 x2 S = (
    gd (ck (S.1 50 9) 4) <|
    if (S.1 58 ((S.1 50 9)).toNatClampNeg) ≤ x2 then
      some (S, (0 : Int32))
    else
      gd (ck (((S.1 50 9) * (300 : Int32)) + x2) 1200) <|
      if (S.1 57 ((((S.1 50 9) * (300 : Int32)) + x2)).toNatClampNeg) = x1 then
        some (S, (1 : Int32))
      else
        (fX2_hasSentFor_2 fu n) x1 (x2 + (1 : Int32)) S) := rfl
noncomputable def fX2_hasSentFor (fu : Nat) (x1 : Int32) (S : St) : Option (St × Int32) :=
  fX2_hasSentFor_2 fu fu x1 (0 : Int32) S
noncomputable def fX2_addSentFor (fu : Nat) (x1 : Int32) (S : St) : Option (St × Int32) :=
  gd (ck (S.1 50 9) 4) <|
  if (300 : Int32) ≤ (S.1 58 ((S.1 50 9)).toNatClampNeg) then
    some (S, (0 : Int32))
  else
    gd (ck (S.1 50 9) 4) <|
    gd (ck (((S.1 50 9) * (300 : Int32)) + (S.1 58 ((S.1 50 9)).toNatClampNeg)) 1200) <|
    sI 57 ((((S.1 50 9) * (300 : Int32)) + (S.1 58 ((S.1 50 9)).toNatClampNeg))).toNatClampNeg x1 S fun S_38 =>
    gd (ck (S_38.1 50 9) 4) <|
    gd (ck (S_38.1 50 9) 4) <|
    sI 58 ((S_38.1 50 9)).toNatClampNeg ((S_38.1 58 ((S_38.1 50 9)).toNatClampNeg) + (1 : Int32)) S_38 fun S_51 =>
    some (S_51, (0 : Int32))
noncomputable def fX11_isNamed_10 (fu : Nat) (S : St) : Option (St × Int32) :=
  some (S, (1 : Int32))
noncomputable def fX11_isNamed (fu : Nat) (x0 : Int32) (S : St) : Option (St × Int32) :=
  if x0 = (2 : Int32) then
    fX11_isNamed_10 fu S
  else
    if x0 = (5 : Int32) then
      fX11_isNamed_10 fu S
    else
      some (S, (0 : Int32))
noncomputable def fX11_isKept_21 (fu : Nat) (S : St) : Option (St × Int32) :=
  some (S, (1 : Int32))
noncomputable def fX11_isKept (fu : Nat) (x0 : Int32) (S : St) : Option (St × Int32) :=
  if x0 = (1 : Int32) then
    fX11_isKept_21 fu S
  else
    if x0 = (2 : Int32) then
      fX11_isKept_21 fu S
    else
      if x0 = (5 : Int32) then
        fX11_isKept_21 fu S
      else
        if x0 = (16 : Int32) then
          fX11_isKept_21 fu S
        else
          some (S, (0 : Int32))
noncomputable def fX11_isLife (fu : Nat) (x0 : Int32) (S : St) : Option (St × Int32) :=
  if x0 < (1 : Int32) then
    some (S, (0 : Int32))
  else
    if (100000 : Int32) < x0 then
      some (S, (0 : Int32))
    else
      some (S, (1 : Int32))
noncomputable def fJ7_fill_53178_5 (fu : Nat) (a na : Nat) (n : Nat) : Int32 → Int32 → Int32 → St → Option (St × Int32) :=
  Nat.rec (motive := fun _ => Int32 → Int32 → Int32 → St → Option (St × Int32)) (fun _ _ _ _ => none) (fun _ k_5 x1 x2 x3 S =>
    if x3 ≤ x2 then
      some (S, (0 : Int32))
    else
      gd (ck x2 na) <|
      sI a (x2).toNatClampNeg x1 S fun S_13 =>
      k_5 x1 (x2 + (1 : Int32)) x3 S_13) n
theorem fJ7_fill_53178_5_s (fu : Nat) (a na : Nat) (n : Nat) (x1 : Int32) (x2 : Int32) (x3 : Int32) (S : St) : fJ7_fill_53178_5 fu a na (n + 1) x1 x2 x3 S = (
    if x3 ≤ x2 then
      some (S, (0 : Int32))
    else
      gd (ck x2 na) <|
      sI a (x2).toNatClampNeg x1 S fun S_13 =>
      (fJ7_fill_53178_5 fu a na n) x1 (x2 + (1 : Int32)) x3 S_13) := rfl
noncomputable def fJ7_fill_53178 (fu : Nat) (a na : Nat) (x1 : Int32) (S : St) : Option (St × Int32) :=
  fJ7_fill_53178_5 fu a na fu x1 (0 : Int32) (Int32.ofNat na) S
noncomputable def fX9_message (fu : Nat) (S : St) : Option (St × Int32) :=
  some (S, (0 : Int32))
noncomputable def fX9_addName_120 (fu : Nat) (x2 : Int32) (S : St) : Option (St × Int32) :=
  if x2 = 0 then
    bd (fX0_add fu 19 (0 : Int32) S) fun S_129 _ =>
    some (S_129, (0 : Int32))
  else
    gd (ck x2 300) <|
    bd (fX0_addTwo fu 19 ((49152 : Int32) + (S.1 21 (x2).toNatClampNeg)) S) fun S_148 _ =>
    some (S_148, (0 : Int32))
noncomputable def fX9_addName_69 (fu : Nat) (k_19 : Int32 → Int32 → St → Option (St × Int32)) (n : Nat) : Int32 → Int32 → Int32 → St → Option (St × Int32) :=
  Nat.rec (motive := fun _ => Int32 → Int32 → Int32 → St → Option (St × Int32)) (fun _ _ _ _ => none) (fun _ k_69 x2 x3 x4 S =>
    bd (fX3_labelSize fu x2 S) fun S_76 r_76 =>
    if r_76 ≤ x4 then
      bd (fX3_above fu x2 S_76) fun S_110 r_110 =>
      k_19 r_110 (x3 + (1 : Int32)) S_110
    else
      bd (fX3_letter fu x2 x4 S_76) fun S_93 r_93 =>
      bd (fX0_add fu 19 r_93 S_93) fun S_96 _ =>
      k_69 x2 x3 (x4 + (1 : Int32)) S_96) n
theorem fX9_addName_69_s (fu : Nat) (k_19 : Int32 → Int32 → St → Option (St × Int32)) (n : Nat) (x2 : Int32) (x3 : Int32) (x4 : Int32) (S : St) : fX9_addName_69 fu k_19 (n + 1) x2 x3 x4 S = (
    bd (fX3_labelSize fu x2 S) fun S_76 r_76 =>
    if r_76 ≤ x4 then
      bd (fX3_above fu x2 S_76) fun S_110 r_110 =>
      k_19 r_110 (x3 + (1 : Int32)) S_110
    else
      bd (fX3_letter fu x2 x4 S_76) fun S_93 r_93 =>
      bd (fX0_add fu 19 r_93 S_93) fun S_96 _ =>
      (fX9_addName_69 fu k_19 n) x2 x3 (x4 + (1 : Int32)) S_96) := rfl
noncomputable def fX9_addName_19 (fu : Nat) (n : Nat) : Int32 → Int32 → St → Option (St × Int32) :=
  Nat.rec (motive := fun _ => Int32 → Int32 → St → Option (St × Int32)) (fun _ _ _ => none) (fun _ k_19 x2 x3 S =>
    if (6 : Int32) ≤ x3 then
      fX9_addName_120 fu x2 S
    else
      if x2 = 0 then
        fX9_addName_120 fu x2 S
      else
        gd (ck x2 300) <|
        if (S.1 21 (x2).toNatClampNeg) = 0 then
          bd (fX0_size fu 19 S) fun S_47 r_47 =>
          gd (ck x2 300) <|
          sI 21 (x2).toNatClampNeg r_47 S_47 fun S_50 =>
          bd (fX3_labelSize fu x2 S_50) fun S_60 r_60 =>
          bd (fX0_add fu 19 r_60 S_60) fun S_63 _ =>
          fX9_addName_69 fu k_19 fu x2 x3 (0 : Int32) S_63
        else
          fX9_addName_120 fu x2 S) n
theorem fX9_addName_19_s (fu : Nat) (n : Nat) (x2 : Int32) (x3 : Int32) (S : St) : fX9_addName_19 fu (n + 1) x2 x3 S = (
    if (6 : Int32) ≤ x3 then
      fX9_addName_120 fu x2 S
    else
      if x2 = 0 then
        fX9_addName_120 fu x2 S
      else
        gd (ck x2 300) <|
        if (S.1 21 (x2).toNatClampNeg) = 0 then
          bd (fX0_size fu 19 S) fun S_47 r_47 =>
          gd (ck x2 300) <|
          sI 21 (x2).toNatClampNeg r_47 S_47 fun S_50 =>
          bd (fX3_labelSize fu x2 S_50) fun S_60 r_60 =>
          bd (fX0_add fu 19 r_60 S_60) fun S_63 _ =>
          fX9_addName_69 fu (fX9_addName_19 fu n) fu x2 x3 (0 : Int32) S_63
        else
          fX9_addName_120 fu x2 S) := rfl
noncomputable def fX9_addName_16 (fu : Nat) (t0 : Int32) (S : St) : Option (St × Int32) :=
  fX9_addName_19 fu fu t0 (0 : Int32) S
noncomputable def fX9_addName (fu : Nat) (x1 : Int32) (S : St) : Option (St × Int32) :=
  bd (fX3_has fu x1 S) fun S_5 r_5 =>
  if r_5 = 0 then
    fX9_addName_16 fu (0 : Int32) S_5
  else
    fX9_addName_16 fu x1 S_5
noncomputable def fX9_begin (fu : Nat) (x1 : Int32) (x2 : Int32) (x3 : Int32) (S : St) : Option (St × Int32) :=
  bd (fX0_clear fu 19 S) fun S_4 _ =>
  bd (fJ7_fill_53178 fu 21 300 (0 : Int32) S_4) fun S_12 _ =>
  bd (fJ7_fill_53178 fu 22 3 (0 : Int32) S_12) fun S_20 _ =>
  bd (fX0_addTwo fu 19 x1 S_20) fun S_28 _ =>
  bd (fX0_addTwo fu 19 (32768 : Int32) S_28) fun S_37 _ =>
  bd (fX0_addTwo fu 19 (1 : Int32) S_37) fun S_45 _ =>
  bd (fX0_addTwo fu 19 (0 : Int32) S_45) fun S_53 _ =>
  bd (fX0_addFour fu 19 (0 : Int32) S_53) fun S_61 _ =>
  bd (fX9_addName fu x2 S_61) fun S_66 _ =>
  bd (fX0_addTwo fu 19 x3 S_66) fun S_74 _ =>
  bd (fX0_addTwo fu 19 (1 : Int32) S_74) fun S_82 _ =>
  some (S_82, (0 : Int32))
noncomputable def fX9_openRecord_19 (fu : Nat) (x2 : Int32) (x3 : Int32) (x4 : Int32) (S : St) : Option (St × Int32) :=
  bd (fX9_addName fu x2 S) fun S_21 _ =>
  bd (fX0_addTwo fu 19 x3 S_21) fun S_29 _ =>
  bd (fX0_addTwo fu 19 (1 : Int32) S_29) fun S_37 _ =>
  bd (fX0_addFour fu 19 x4 S_37) fun S_46 _ =>
  bd (fX0_size fu 19 S_46) fun S_53 r_53 =>
  bd (fX0_addTwo fu 19 (0 : Int32) S_53) fun S_63 _ =>
  some (S_63, r_53)
noncomputable def fX9_openRecord (fu : Nat) (x1 : Int32) (x2 : Int32) (x3 : Int32) (x4 : Int32) (S : St) : Option (St × Int32) :=
  if x1 < 0 then
    fX9_openRecord_19 fu x2 x3 x4 S
  else
    if (3 : Int32) ≤ x1 then
      fX9_openRecord_19 fu x2 x3 x4 S
    else
      gd (ck x1 3) <|
      gd (ck x1 3) <|
      sI 22 (x1).toNatClampNeg ((S.1 22 (x1).toNatClampNeg) + (1 : Int32)) S fun S_18 =>
      fX9_openRecord_19 fu x2 x3 x4 S_18
noncomputable def fX9_closeRecord (fu : Nat) (x1 : Int32) (S : St) : Option (St × Int32) :=
  bd (fX0_size fu 19 S) fun S_9 r_9 =>
  bd (fX0_setTwo fu 19 x1 ((r_9 - x1) - (2 : Int32)) S_9) fun S_16 _ =>
  some (S_16, (0 : Int32))
noncomputable def fX9_addRecord_50 (fu : Nat) (x6 : Int32) (S : St) : Option (St × Int32) :=
  bd (fX9_closeRecord fu x6 S) fun S_53 _ =>
  some (S_53, (0 : Int32))
noncomputable def fX9_addRecord_41 (fu : Nat) (x4 : Int32) (x6 : Int32) (S : St) : Option (St × Int32) :=
  bd (fX0_addFour fu 19 x4 S) fun S_47 _ =>
  fX9_addRecord_50 fu x6 S_47
noncomputable def fX9_addRecord (fu : Nat) (x1 : Int32) (x2 : Int32) (x3 : Int32) (x4 : Int32) (x5 : Int32) (S : St) : Option (St × Int32) :=
  bd (fX9_openRecord fu x1 x2 x3 x5 S) fun S_6 r_6 =>
  bd (fX11_isNamed fu x3 S_6) fun S_12 r_12 =>
  if r_12 = 0 then
    if x3 = (16 : Int32) then
      bd (fX0_add fu 19 (4 : Int32) S_12) fun S_38 _ =>
      fX9_addRecord_41 fu x4 r_6 S_38
    else
      fX9_addRecord_41 fu x4 r_6 S_12
  else
    bd (fX9_addName fu x4 S_12) fun S_21 _ =>
    fX9_addRecord_50 fu r_6 S_21
noncomputable def fX9_addSoa (fu : Nat) (x1 : Int32) (x2 : Int32) (S : St) : Option (St × Int32) :=
  bd (fX9_openRecord fu (1 : Int32) x1 (6 : Int32) x2 S) fun S_6 r_6 =>
  bd (fX9_addName fu (0 : Int32) S_6) fun S_12 _ =>
  bd (fX9_addName fu (0 : Int32) S_12) fun S_17 _ =>
  bd (fX0_addFour fu 19 (1 : Int32) S_17) fun S_25 _ =>
  bd (fX0_addFour fu 19 (0 : Int32) S_25) fun S_33 _ =>
  bd (fX0_addFour fu 19 (0 : Int32) S_33) fun S_41 _ =>
  bd (fX0_addFour fu 19 (0 : Int32) S_41) fun S_49 _ =>
  bd (fX0_addFour fu 19 x2 S_49) fun S_57 _ =>
  bd (fX9_closeRecord fu r_6 S_57) fun S_62 _ =>
  some (S_62, (0 : Int32))
noncomputable def fX9_finish (fu : Nat) (x1 : Int32) (S : St) : Option (St × Int32) :=
  bd (fX0_isTooLong fu 19 S) fun S_4 r_4 =>
  if r_4 = 0 then
    bd (fX0_setTwo fu 19 (2 : Int32) ((32768 : Int32) + x1) S_4) fun S_21 _ =>
    gd (ck (0 : Int32) 3) <|
    bd (fX0_setTwo fu 19 (6 : Int32) (S_21.1 22 ((0 : Int32)).toNatClampNeg) S_21) fun S_36 _ =>
    gd (ck (1 : Int32) 3) <|
    bd (fX0_setTwo fu 19 (8 : Int32) (S_36.1 22 ((1 : Int32)).toNatClampNeg) S_36) fun S_51 _ =>
    gd (ck (2 : Int32) 3) <|
    bd (fX0_setTwo fu 19 (10 : Int32) (S_51.1 22 ((2 : Int32)).toNatClampNeg) S_51) fun S_66 _ =>
    some (S_66, (1 : Int32))
  else
    some (S_4, (0 : Int32))
noncomputable def fX10_size (fu : Nat) (S : St) : Option (St × Int32) :=
  some (S, (S.1 10 3))
noncomputable def fX10_records (fu : Nat) (S : St) : Option (St × Int32) :=
  some (S, (S.1 10 9))
noncomputable def fX10_has (fu : Nat) (x1 : Int32) (S : St) : Option (St × Int32) :=
  if x1 < 0 then
    some (S, (0 : Int32))
  else
    if (S.1 10 3) ≤ x1 then
      some (S, (0 : Int32))
    else
      some (S, (1 : Int32))
noncomputable def fX10_apexOf (fu : Nat) (x1 : Int32) (S : St) : Option (St × Int32) :=
  bd (fX10_has fu x1 S) fun S_2 r_2 =>
  if r_2 = 0 then
    some (S_2, (0 : Int32))
  else
    gd (ck x1 12) <|
    some (S_2, (S_2.1 11 (x1).toNatClampNeg))
noncomputable def fX10_ofApex_2 (fu : Nat) (n : Nat) : Int32 → Int32 → St → Option (St × Int32) :=
  Nat.rec (motive := fun _ => Int32 → Int32 → St → Option (St × Int32)) (fun _ _ _ => none) (fun _ k_2 x1 x2 S =>
    if (S.1 10 3) ≤ x2 then
      some (S, (-1 : Int32))
    else
      gd (ck x2 12) <|
      if (S.1 11 (x2).toNatClampNeg) = x1 then
        some (S, x2)
      else
        k_2 x1 (x2 + (1 : Int32)) S) n
theorem fX10_ofApex_2_s (fu : Nat) (n : Nat) (x1 : Int32) (x2 : Int32) (S : St) : fX10_ofApex_2 fu (n + 1) x1 x2 S = (
    if (S.1 10 3) ≤ x2 then
      some (S, (-1 : Int32))
    else
      gd (ck x2 12) <|
      if (S.1 11 (x2).toNatClampNeg) = x1 then
        some (S, x2)
      else
        (fX10_ofApex_2 fu n) x1 (x2 + (1 : Int32)) S) := rfl
noncomputable def fX10_ofApex (fu : Nat) (x1 : Int32) (S : St) : Option (St × Int32) :=
  fX10_ofApex_2 fu fu x1 (0 : Int32) S
noncomputable def fX10_open (fu : Nat) (x1 : Int32) (x2 : Int32) (S : St) : Option (St × Int32) :=
  if (S.1 10 3) < (12 : Int32) then
    gd (ck (S.1 10 3) 12) <|
    sI 11 ((S.1 10 3)).toNatClampNeg x1 S fun S_20 =>
    gd (ck (S_20.1 10 3) 12) <|
    sI 12 ((S_20.1 10 3)).toNatClampNeg x2 S_20 fun S_30 =>
    sI 10 3 ((S_30.1 10 3) + (1 : Int32)) S_30 fun S_38 =>
    some (S_38, ((S_38.1 10 3) - (1 : Int32)))
  else
    some (S, (-1 : Int32))
noncomputable def fX10_add (fu : Nat) (x1 : Int32) (x2 : Int32) (x3 : Int32) (x4 : Int32) (x5 : Int32) (S : St) : Option (St × Int32) :=
  if (S.1 10 9) < (150 : Int32) then
    gd (ck (S.1 10 9) 150) <|
    sI 13 ((S.1 10 9)).toNatClampNeg x1 S fun S_20 =>
    gd (ck (S_20.1 10 9) 150) <|
    sI 14 ((S_20.1 10 9)).toNatClampNeg x2 S_20 fun S_30 =>
    gd (ck (S_30.1 10 9) 150) <|
    sI 15 ((S_30.1 10 9)).toNatClampNeg x3 S_30 fun S_40 =>
    gd (ck (S_40.1 10 9) 150) <|
    sI 16 ((S_40.1 10 9)).toNatClampNeg x4 S_40 fun S_51 =>
    gd (ck (S_51.1 10 9) 150) <|
    sI 17 ((S_51.1 10 9)).toNatClampNeg x5 S_51 fun S_62 =>
    sI 10 9 ((S_62.1 10 9) + (1 : Int32)) S_62 fun S_70 =>
    some (S_70, (0 : Int32))
  else
    some (S, (0 : Int32))
noncomputable def fX10_recordsOf_25 (fu : Nat) (k_4 : Int32 → Int32 → Int32 → St → Option (St × Int32)) (x1 : Int32) (x2 : Int32) (x3 : Int32) (S : St) : Option (St × Int32) :=
  k_4 x1 x2 (x3 + (1 : Int32)) S
noncomputable def fX10_recordsOf_4 (fu : Nat) (n : Nat) : Int32 → Int32 → Int32 → St → Option (St × Int32) :=
  Nat.rec (motive := fun _ => Int32 → Int32 → Int32 → St → Option (St × Int32)) (fun _ _ _ _ => none) (fun _ k_4 x1 x2 x3 S =>
    if (S.1 10 9) ≤ x3 then
      some (S, x2)
    else
      gd (ck x3 150) <|
      if (S.1 13 (x3).toNatClampNeg) = x1 then
        fX10_recordsOf_25 fu k_4 x1 (x2 + (1 : Int32)) x3 S
      else
        fX10_recordsOf_25 fu k_4 x1 x2 x3 S) n
theorem fX10_recordsOf_4_s (fu : Nat) (n : Nat) (x1 : Int32) (x2 : Int32) (x3 : Int32) (S : St) : fX10_recordsOf_4 fu (n + 1) x1 x2 x3 S = (
    if (S.1 10 9) ≤ x3 then
      some (S, x2)
    else
      gd (ck x3 150) <|
      if (S.1 13 (x3).toNatClampNeg) = x1 then
        fX10_recordsOf_25 fu (fX10_recordsOf_4 fu n) x1 (x2 + (1 : Int32)) x3 S
      else
        fX10_recordsOf_25 fu (fX10_recordsOf_4 fu n) x1 x2 x3 S) := rfl
noncomputable def fX10_recordsOf (fu : Nat) (x1 : Int32) (S : St) : Option (St × Int32) :=
  fX10_recordsOf_4 fu fu x1 (0 : Int32) (0 : Int32) S
noncomputable def fX10_isOf (fu : Nat) (x1 : Int32) (x2 : Int32) (x3 : Int32) (x4 : Int32) (S : St) : Option (St × Int32) :=
  gd (ck x1 150) <|
  if (S.1 13 (x1).toNatClampNeg) = x2 then
    gd (ck x1 150) <|
    if (S.1 14 (x1).toNatClampNeg) = x3 then
      gd (ck x1 150) <|
      if (S.1 15 (x1).toNatClampNeg) = x4 then
        some (S, (1 : Int32))
      else
        some (S, (0 : Int32))
    else
      some (S, (0 : Int32))
  else
    some (S, (0 : Int32))
noncomputable def fX10_remove_104 (fu : Nat) (k_12 : Int32 → Int32 → Int32 → Int32 → Int32 → Int32 → St → Option (St × Int32)) (x1 : Int32) (x2 : Int32) (x3 : Int32) (x4 : Int32) (x5 : Int32) (x6 : Int32) (S : St) : Option (St × Int32) :=
  k_12 x1 x2 x3 x4 x5 (x6 + (1 : Int32)) S
noncomputable def fX10_remove_12 (fu : Nat) (n : Nat) : Int32 → Int32 → Int32 → Int32 → Int32 → Int32 → St → Option (St × Int32) :=
  Nat.rec (motive := fun _ => Int32 → Int32 → Int32 → Int32 → Int32 → Int32 → St → Option (St × Int32)) (fun _ _ _ _ _ _ _ => none) (fun _ k_12 x1 x2 x3 x4 x5 x6 S =>
    if x4 ≤ x6 then
      sI 10 9 x5 S fun S_113 =>
      some (S_113, (x4 - x5))
    else
      bd (fX10_isOf fu x6 x1 x2 x3 S) fun S_25 r_25 =>
      if r_25 = 0 then
        gd (ck x6 150) <|
        gd (ck x5 150) <|
        sI 13 (x5).toNatClampNeg (S_25.1 13 (x6).toNatClampNeg) S_25 fun S_44 =>
        gd (ck x6 150) <|
        gd (ck x5 150) <|
        sI 14 (x5).toNatClampNeg (S_44.1 14 (x6).toNatClampNeg) S_44 fun S_58 =>
        gd (ck x6 150) <|
        gd (ck x5 150) <|
        sI 15 (x5).toNatClampNeg (S_58.1 15 (x6).toNatClampNeg) S_58 fun S_72 =>
        gd (ck x6 150) <|
        gd (ck x5 150) <|
        sI 16 (x5).toNatClampNeg (S_72.1 16 (x6).toNatClampNeg) S_72 fun S_86 =>
        gd (ck x6 150) <|
        gd (ck x5 150) <|
        sI 17 (x5).toNatClampNeg (S_86.1 17 (x6).toNatClampNeg) S_86 fun S_100 =>
        fX10_remove_104 fu k_12 x1 x2 x3 x4 (x5 + (1 : Int32)) x6 S_100
      else
        fX10_remove_104 fu k_12 x1 x2 x3 x4 x5 x6 S_25) n
theorem fX10_remove_12_s (fu : Nat) (n : Nat) (x1 : Int32) (x2 : Int32) (x3 : Int32) (x4 : Int32) (x5 : Int32) (x6 : Int32) (S : St) : fX10_remove_12 fu (n + 1) x1 x2 x3 x4 x5 x6 S = (
    if x4 ≤ x6 then
      sI 10 9 x5 S fun S_113 =>
      some (S_113, (x4 - x5))
    else
      bd (fX10_isOf fu x6 x1 x2 x3 S) fun S_25 r_25 =>
      if r_25 = 0 then
        gd (ck x6 150) <|
        gd (ck x5 150) <|
        sI 13 (x5).toNatClampNeg (S_25.1 13 (x6).toNatClampNeg) S_25 fun S_44 =>
        gd (ck x6 150) <|
        gd (ck x5 150) <|
        sI 14 (x5).toNatClampNeg (S_44.1 14 (x6).toNatClampNeg) S_44 fun S_58 =>
        gd (ck x6 150) <|
        gd (ck x5 150) <|
        sI 15 (x5).toNatClampNeg (S_58.1 15 (x6).toNatClampNeg) S_58 fun S_72 =>
        gd (ck x6 150) <|
        gd (ck x5 150) <|
        sI 16 (x5).toNatClampNeg (S_72.1 16 (x6).toNatClampNeg) S_72 fun S_86 =>
        gd (ck x6 150) <|
        gd (ck x5 150) <|
        sI 17 (x5).toNatClampNeg (S_86.1 17 (x6).toNatClampNeg) S_86 fun S_100 =>
        fX10_remove_104 fu (fX10_remove_12 fu n) x1 x2 x3 x4 (x5 + (1 : Int32)) x6 S_100
      else
        fX10_remove_104 fu (fX10_remove_12 fu n) x1 x2 x3 x4 x5 x6 S_25) := rfl
noncomputable def fX10_remove (fu : Nat) (x1 : Int32) (x2 : Int32) (x3 : Int32) (S : St) : Option (St × Int32) :=
  fX10_remove_12 fu fu x1 x2 x3 (S.1 10 9) (0 : Int32) (0 : Int32) S
noncomputable def fX10_owns_3 (fu : Nat) (n : Nat) : Int32 → Int32 → Int32 → Int32 → St → Option (St × Int32) :=
  Nat.rec (motive := fun _ => Int32 → Int32 → Int32 → Int32 → St → Option (St × Int32)) (fun _ _ _ _ _ => none) (fun _ k_3 x1 x2 x3 x4 S =>
    if (S.1 10 9) ≤ x4 then
      some (S, (0 : Int32))
    else
      bd (fX10_isOf fu x4 x1 x2 x3 S) fun S_18 r_18 =>
      if r_18 = 0 then
        k_3 x1 x2 x3 (x4 + (1 : Int32)) S_18
      else
        some (S_18, (1 : Int32))) n
theorem fX10_owns_3_s (fu : Nat) (n : Nat) (x1 : Int32) (x2 : Int32) (x3 : Int32) (x4 : Int32) (S : St) : fX10_owns_3 fu (n + 1) x1 x2 x3 x4 S = (
    if (S.1 10 9) ≤ x4 then
      some (S, (0 : Int32))
    else
      bd (fX10_isOf fu x4 x1 x2 x3 S) fun S_18 r_18 =>
      if r_18 = 0 then
        (fX10_owns_3 fu n) x1 x2 x3 (x4 + (1 : Int32)) S_18
      else
        some (S_18, (1 : Int32))) := rfl
noncomputable def fX10_owns (fu : Nat) (x1 : Int32) (x2 : Int32) (x3 : Int32) (S : St) : Option (St × Int32) :=
  fX10_owns_3 fu fu x1 x2 x3 (0 : Int32) S
noncomputable def fX10_highestCut_39 (fu : Nat) (k_8 : Int32 → Int32 → Int32 → Int32 → St → Option (St × Int32)) (x1 : Int32) (x3 : Int32) (x4 : Int32) (x5 : Int32) (S : St) : Option (St × Int32) :=
  bd (fX3_above fu x4 S) fun S_45 r_45 =>
  k_8 x1 x3 r_45 (x5 + (1 : Int32)) S_45
noncomputable def fX10_highestCut_8 (fu : Nat) (n : Nat) : Int32 → Int32 → Int32 → Int32 → St → Option (St × Int32) :=
  Nat.rec (motive := fun _ => Int32 → Int32 → Int32 → Int32 → St → Option (St × Int32)) (fun _ _ _ _ _ => none) (fun _ k_8 x1 x3 x4 x5 S =>
    if (6 : Int32) ≤ x5 then
      some (S, x3)
    else
      bd (fX10_apexOf fu x1 S) fun S_19 r_19 =>
      if x4 = r_19 then
        some (S_19, x3)
      else
        bd (fX10_owns fu x1 x4 (2 : Int32) S_19) fun S_30 r_30 =>
        if r_30 = 0 then
          fX10_highestCut_39 fu k_8 x1 x3 x4 x5 S_30
        else
          fX10_highestCut_39 fu k_8 x1 x4 x4 x5 S_30) n
theorem fX10_highestCut_8_s (fu : Nat) (n : Nat) (x1 : Int32) (x3 : Int32) (x4 : Int32) (x5 : Int32) (S : St) : fX10_highestCut_8 fu (n + 1) x1 x3 x4 x5 S = (
    if (6 : Int32) ≤ x5 then
      some (S, x3)
    else
      bd (fX10_apexOf fu x1 S) fun S_19 r_19 =>
      if x4 = r_19 then
        some (S_19, x3)
      else
        bd (fX10_owns fu x1 x4 (2 : Int32) S_19) fun S_30 r_30 =>
        if r_30 = 0 then
          fX10_highestCut_39 fu (fX10_highestCut_8 fu n) x1 x3 x4 x5 S_30
        else
          fX10_highestCut_39 fu (fX10_highestCut_8 fu n) x1 x4 x4 x5 S_30) := rfl
noncomputable def fX10_highestCut (fu : Nat) (x1 : Int32) (x2 : Int32) (S : St) : Option (St × Int32) :=
  fX10_highestCut_8 fu fu x1 (-1 : Int32) x2 (0 : Int32) S
noncomputable def fX10_tellAll_60 (fu : Nat) (k_6 : Int32 → Int32 → Int32 → Int32 → Int32 → Int32 → Int32 → St → Option (St × Int32)) (x1 : Int32) (x2 : Int32) (x3 : Int32) (x4 : Int32) (x5 : Int32) (x7 : Int32) (x8 : Int32) (S : St) : Option (St × Int32) :=
  k_6 x1 x2 x3 x4 x5 x7 (x8 + (1 : Int32)) S
noncomputable def fX10_tellAll_6 (fu : Nat) (n : Nat) : Int32 → Int32 → Int32 → Int32 → Int32 → Int32 → Int32 → St → Option (St × Int32) :=
  Nat.rec (motive := fun _ => Int32 → Int32 → Int32 → Int32 → Int32 → Int32 → Int32 → St → Option (St × Int32)) (fun _ _ _ _ _ _ _ _ => none) (fun _ k_6 x1 x2 x3 x4 x5 x7 x8 S =>
    if (S.1 10 9) ≤ x8 then
      some (S, x7)
    else
      if x5 ≤ x7 then
        some (S, x7)
      else
        bd (fX10_isOf fu x8 x1 x2 x3 S) fun S_28 r_28 =>
        if r_28 = 0 then
          fX10_tellAll_60 fu k_6 x1 x2 x3 x4 x5 x7 x8 S_28
        else
          gd (ck x8 150) <|
          gd (ck x8 150) <|
          bd (fX9_addRecord fu x4 x2 x3 (S_28.1 16 (x8).toNatClampNeg) (S_28.1 17 (x8).toNatClampNeg) S_28) fun S_54 _ =>
          fX10_tellAll_60 fu k_6 x1 x2 x3 x4 x5 (x7 + (1 : Int32)) x8 S_54) n
theorem fX10_tellAll_6_s (fu : Nat) (n : Nat) (x1 : Int32) (x2 : Int32) (x3 : Int32) (x4 : Int32) (x5 : Int32) (x7 : Int32) (x8 : Int32) (S : St) : fX10_tellAll_6 fu (n + 1) x1 x2 x3 x4 x5 x7 x8 S = (
    if (S.1 10 9) ≤ x8 then
      some (S, x7)
    else
      if x5 ≤ x7 then
        some (S, x7)
      else
        bd (fX10_isOf fu x8 x1 x2 x3 S) fun S_28 r_28 =>
        if r_28 = 0 then
          fX10_tellAll_60 fu (fX10_tellAll_6 fu n) x1 x2 x3 x4 x5 x7 x8 S_28
        else
          gd (ck x8 150) <|
          gd (ck x8 150) <|
          bd (fX9_addRecord fu x4 x2 x3 (S_28.1 16 (x8).toNatClampNeg) (S_28.1 17 (x8).toNatClampNeg) S_28) fun S_54 _ =>
          fX10_tellAll_60 fu (fX10_tellAll_6 fu n) x1 x2 x3 x4 x5 (x7 + (1 : Int32)) x8 S_54) := rfl
noncomputable def fX10_tellAll (fu : Nat) (x1 : Int32) (x2 : Int32) (x3 : Int32) (x4 : Int32) (x5 : Int32) (S : St) : Option (St × Int32) :=
  fX10_tellAll_6 fu fu x1 x2 x3 x4 x5 (0 : Int32) (0 : Int32) S
noncomputable def fX10_isHost_37 (fu : Nat) (k_3 : Int32 → Int32 → Int32 → Int32 → St → Option (St × Int32)) (x1 : Int32) (x2 : Int32) (x3 : Int32) (x4 : Int32) (S : St) : Option (St × Int32) :=
  k_3 x1 x2 x3 (x4 + (1 : Int32)) S
noncomputable def fX10_isHost_3 (fu : Nat) (n : Nat) : Int32 → Int32 → Int32 → Int32 → St → Option (St × Int32) :=
  Nat.rec (motive := fun _ => Int32 → Int32 → Int32 → Int32 → St → Option (St × Int32)) (fun _ _ _ _ _ => none) (fun _ k_3 x1 x2 x3 x4 S =>
    if (S.1 10 9) ≤ x4 then
      some (S, (0 : Int32))
    else
      bd (fX10_isOf fu x4 x1 x2 (2 : Int32) S) fun S_18 r_18 =>
      if r_18 = 0 then
        fX10_isHost_37 fu k_3 x1 x2 x3 x4 S_18
      else
        gd (ck x4 150) <|
        if (S_18.1 16 (x4).toNatClampNeg) = x3 then
          some (S_18, (1 : Int32))
        else
          fX10_isHost_37 fu k_3 x1 x2 x3 x4 S_18) n
theorem fX10_isHost_3_s (fu : Nat) (n : Nat) (x1 : Int32) (x2 : Int32) (x3 : Int32) (x4 : Int32) (S : St) : fX10_isHost_3 fu (n + 1) x1 x2 x3 x4 S = (
    if (S.1 10 9) ≤ x4 then
      some (S, (0 : Int32))
    else
      bd (fX10_isOf fu x4 x1 x2 (2 : Int32) S) fun S_18 r_18 =>
      if r_18 = 0 then
        fX10_isHost_37 fu (fX10_isHost_3 fu n) x1 x2 x3 x4 S_18
      else
        gd (ck x4 150) <|
        if (S_18.1 16 (x4).toNatClampNeg) = x3 then
          some (S_18, (1 : Int32))
        else
          fX10_isHost_37 fu (fX10_isHost_3 fu n) x1 x2 x3 x4 S_18) := rfl
noncomputable def fX10_isHost (fu : Nat) (x1 : Int32) (x2 : Int32) (x3 : Int32) (S : St) : Option (St × Int32) :=
  fX10_isHost_3 fu fu x1 x2 x3 (0 : Int32) S
noncomputable def fX10_tellHosts_77 (fu : Nat) (k_3 : Int32 → Int32 → Int32 → St → Option (St × Int32)) (x1 : Int32) (x2 : Int32) (x4 : Int32) (S : St) : Option (St × Int32) :=
  k_3 x1 x2 (x4 + (1 : Int32)) S
noncomputable def fX10_tellHosts_3 (fu : Nat) (n : Nat) : Int32 → Int32 → Int32 → St → Option (St × Int32) :=
  Nat.rec (motive := fun _ => Int32 → Int32 → Int32 → St → Option (St × Int32)) (fun _ _ _ _ => none) (fun _ k_3 x1 x2 x4 S =>
    if (S.1 10 9) ≤ x4 then
      some (S, (0 : Int32))
    else
      gd (ck x4 150) <|
      if (S.1 13 (x4).toNatClampNeg) = x1 then
        gd (ck x4 150) <|
        if (S.1 15 (x4).toNatClampNeg) = (1 : Int32) then
          gd (ck x4 150) <|
          bd (fX10_isHost fu x1 x2 (S.1 14 (x4).toNatClampNeg) S) fun S_44 r_44 =>
          if r_44 = 0 then
            fX10_tellHosts_77 fu k_3 x1 x2 x4 S_44
          else
            gd (ck x4 150) <|
            gd (ck x4 150) <|
            gd (ck x4 150) <|
            bd (fX9_addRecord fu (2 : Int32) (S_44.1 14 (x4).toNatClampNeg) (1 : Int32) (S_44.1 16 (x4).toNatClampNeg) (S_44.1 17 (x4).toNatClampNeg) S_44) fun S_74 _ =>
            fX10_tellHosts_77 fu k_3 x1 x2 x4 S_74
        else
          fX10_tellHosts_77 fu k_3 x1 x2 x4 S
      else
        fX10_tellHosts_77 fu k_3 x1 x2 x4 S) n
theorem fX10_tellHosts_3_s (fu : Nat) (n : Nat) (x1 : Int32) (x2 : Int32) (x4 : Int32) (S : St) : fX10_tellHosts_3 fu (n + 1) x1 x2 x4 S = (
    if (S.1 10 9) ≤ x4 then
      some (S, (0 : Int32))
    else
      gd (ck x4 150) <|
      if (S.1 13 (x4).toNatClampNeg) = x1 then
        gd (ck x4 150) <|
        if (S.1 15 (x4).toNatClampNeg) = (1 : Int32) then
          gd (ck x4 150) <|
          bd (fX10_isHost fu x1 x2 (S.1 14 (x4).toNatClampNeg) S) fun S_44 r_44 =>
          if r_44 = 0 then
            fX10_tellHosts_77 fu (fX10_tellHosts_3 fu n) x1 x2 x4 S_44
          else
            gd (ck x4 150) <|
            gd (ck x4 150) <|
            gd (ck x4 150) <|
            bd (fX9_addRecord fu (2 : Int32) (S_44.1 14 (x4).toNatClampNeg) (1 : Int32) (S_44.1 16 (x4).toNatClampNeg) (S_44.1 17 (x4).toNatClampNeg) S_44) fun S_74 _ =>
            fX10_tellHosts_77 fu (fX10_tellHosts_3 fu n) x1 x2 x4 S_74
        else
          fX10_tellHosts_77 fu (fX10_tellHosts_3 fu n) x1 x2 x4 S
      else
        fX10_tellHosts_77 fu (fX10_tellHosts_3 fu n) x1 x2 x4 S) := rfl
noncomputable def fX10_tellHosts (fu : Nat) (x1 : Int32) (x2 : Int32) (S : St) : Option (St × Int32) :=
  fX10_tellHosts_3 fu fu x1 x2 (0 : Int32) S
noncomputable def fX10_isThere_50 (fu : Nat) (k_13 : Int32 → Int32 → Int32 → St → Option (St × Int32)) (x1 : Int32) (x2 : Int32) (x3 : Int32) (S : St) : Option (St × Int32) :=
  k_13 x1 x2 (x3 + (1 : Int32)) S
noncomputable def fX10_isThere_13 (fu : Nat) (n : Nat) : Int32 → Int32 → Int32 → St → Option (St × Int32) :=
  Nat.rec (motive := fun _ => Int32 → Int32 → Int32 → St → Option (St × Int32)) (fun _ _ _ _ => none) (fun _ k_13 x1 x2 x3 S =>
    if (S.1 10 9) ≤ x3 then
      some (S, (0 : Int32))
    else
      gd (ck x3 150) <|
      if (S.1 13 (x3).toNatClampNeg) = x1 then
        gd (ck x3 150) <|
        bd (fX3_isIn fu (S.1 14 (x3).toNatClampNeg) x2 S) fun S_42 r_42 =>
        if r_42 = 0 then
          fX10_isThere_50 fu k_13 x1 x2 x3 S_42
        else
          some (S_42, (1 : Int32))
      else
        fX10_isThere_50 fu k_13 x1 x2 x3 S) n
theorem fX10_isThere_13_s (fu : Nat) (n : Nat) (x1 : Int32) (x2 : Int32) (x3 : Int32) (S : St) : fX10_isThere_13 fu (n + 1) x1 x2 x3 S = (
    if (S.1 10 9) ≤ x3 then
      some (S, (0 : Int32))
    else
      gd (ck x3 150) <|
      if (S.1 13 (x3).toNatClampNeg) = x1 then
        gd (ck x3 150) <|
        bd (fX3_isIn fu (S.1 14 (x3).toNatClampNeg) x2 S) fun S_42 r_42 =>
        if r_42 = 0 then
          fX10_isThere_50 fu (fX10_isThere_13 fu n) x1 x2 x3 S_42
        else
          some (S_42, (1 : Int32))
      else
        fX10_isThere_50 fu (fX10_isThere_13 fu n) x1 x2 x3 S) := rfl
noncomputable def fX10_isThere (fu : Nat) (x1 : Int32) (x2 : Int32) (S : St) : Option (St × Int32) :=
  bd (fX10_apexOf fu x1 S) fun S_3 r_3 =>
  if x2 = r_3 then
    some (S_3, (1 : Int32))
  else
    fX10_isThere_13 fu fu x1 x2 (0 : Int32) S_3
noncomputable def fX10_tell_172 (fu : Nat) (t0 : Int32) (S : St) : Option (St × Int32) :=
  bd (fX9_finish fu t0 S) fun S_172 r_172 =>
  gd (isB r_172) <|
  some (S_172, r_172)
noncomputable def fX10_tell_149 (fu : Nat) (x1 : Int32) (x2 : Int32) (t0 : Int32) (t1 : Int32) (S : St) : Option (St × Int32) :=
  bd (fX9_addSoa fu t1 t0 S) fun S_149 _ =>
  bd (fX10_isThere fu x1 x2 S_149) fun S_157 r_157 =>
  if r_157 = 0 then
    fX10_tell_172 fu (1027 : Int32) S_157
  else
    fX10_tell_172 fu (1024 : Int32) S_157
noncomputable def fX10_tell_108 (fu : Nat) (x1 : Int32) (x2 : Int32) (t0 : Int32) (S : St) : Option (St × Int32) :=
  if t0 ≤ 0 then
    bd (fX10_apexOf fu x1 S) fun S_128 r_128 =>
    bd (fX10_has fu x1 S_128) fun S_133 r_133 =>
    if r_133 = 0 then
      fX10_tell_149 fu x1 x2 (1 : Int32) r_128 S_133
    else
      gd (ck x1 12) <|
      fX10_tell_149 fu x1 x2 (S_133.1 12 (x1).toNatClampNeg) r_128 S_133
  else
    bd (fX9_finish fu (1024 : Int32) S) fun S_120 r_120 =>
    gd (isB r_120) <|
    some (S_120, r_120)
noncomputable def fX10_tell_74 (fu : Nat) (x1 : Int32) (x2 : Int32) (x3 : Int32) (t0 : Int32) (S : St) : Option (St × Int32) :=
  if t0 = 0 then
    bd (fX10_tellAll fu x1 x2 x3 (0 : Int32) (150 : Int32) S) fun S_105 r_105 =>
    fX10_tell_108 fu x1 x2 r_105 S_105
  else
    bd (fX10_tellAll fu x1 x2 (5 : Int32) (0 : Int32) (1 : Int32) S) fun S_89 r_89 =>
    fX10_tell_108 fu x1 x2 r_89 S_89
noncomputable def fX10_tell_73 (fu : Nat) (x1 : Int32) (x2 : Int32) (x3 : Int32) (S : St) : Option (St × Int32) :=
  fX10_tell_74 fu x1 x2 x3 (0 : Int32) S
noncomputable def fX10_tell (fu : Nat) (x1 : Int32) (x2 : Int32) (x3 : Int32) (x4 : Int32) (S : St) : Option (St × Int32) :=
  bd (fX9_begin fu x4 x2 x3 S) fun S_6 _ =>
  bd (fX10_highestCut fu x1 x2 S_6) fun S_12 r_12 =>
  if r_12 = (-1 : Int32) then
    if x3 = (5 : Int32) then
      fX10_tell_73 fu x1 x2 x3 S_12
    else
      bd (fX10_owns fu x1 x2 (5 : Int32) S_12) fun S_63 r_63 =>
      if r_63 = 0 then
        fX10_tell_73 fu x1 x2 x3 S_63
      else
        fX10_tell_74 fu x1 x2 x3 (1 : Int32) S_63
  else
    bd (fX10_tellAll fu x1 r_12 (2 : Int32) (1 : Int32) (150 : Int32) S_12) fun S_34 r_34 =>
    bd (fX10_tellHosts fu x1 r_12 S_34) fun S_44 _ =>
    bd (fX9_finish fu (0 : Int32) S_44) fun S_50 r_50 =>
    gd (isB r_50) <|
    some (S_50, r_50)
noncomputable def fX7_size (fu : Nat) (S : St) : Option (St × Int32) :=
  some (S, (S.1 23 4))
noncomputable def fX7_has (fu : Nat) (x1 : Int32) (S : St) : Option (St × Int32) :=
  if x1 < 0 then
    some (S, (0 : Int32))
  else
    if (S.1 23 4) ≤ x1 then
      some (S, (0 : Int32))
    else
      some (S, (1 : Int32))
noncomputable def fX7_ofAddress_2 (fu : Nat) (n : Nat) : Int32 → Int32 → St → Option (St × Int32) :=
  Nat.rec (motive := fun _ => Int32 → Int32 → St → Option (St × Int32)) (fun _ _ _ => none) (fun _ k_2 x1 x2 S =>
    if (S.1 23 4) ≤ x2 then
      some (S, (-1 : Int32))
    else
      gd (ck x2 12) <|
      if (S.1 24 (x2).toNatClampNeg) = x1 then
        some (S, x2)
      else
        k_2 x1 (x2 + (1 : Int32)) S) n
theorem fX7_ofAddress_2_s (fu : Nat) (n : Nat) (x1 : Int32) (x2 : Int32) (S : St) : fX7_ofAddress_2 fu (n + 1) x1 x2 S = (
    if (S.1 23 4) ≤ x2 then
      some (S, (-1 : Int32))
    else
      gd (ck x2 12) <|
      if (S.1 24 (x2).toNatClampNeg) = x1 then
        some (S, x2)
      else
        (fX7_ofAddress_2 fu n) x1 (x2 + (1 : Int32)) S) := rfl
noncomputable def fX7_ofAddress (fu : Nat) (x1 : Int32) (S : St) : Option (St × Int32) :=
  fX7_ofAddress_2 fu fu x1 (0 : Int32) S
noncomputable def fX7_open (fu : Nat) (x1 : Int32) (S : St) : Option (St × Int32) :=
  if (S.1 23 4) < (12 : Int32) then
    gd (ck (S.1 23 4) 12) <|
    sI 24 ((S.1 23 4)).toNatClampNeg x1 S fun S_20 =>
    gd (ck (S_20.1 23 4) 12) <|
    sI 25 ((S_20.1 23 4)).toNatClampNeg (0 : Int32) S_20 fun S_30 =>
    sI 23 4 ((S_30.1 23 4) + (1 : Int32)) S_30 fun S_38 =>
    some (S_38, ((S_38.1 23 4) - (1 : Int32)))
  else
    some (S, (-1 : Int32))
noncomputable def fX7_isServed (fu : Nat) (x1 : Int32) (x2 : Int32) (S : St) : Option (St × Int32) :=
  bd (fX7_has fu x1 S) fun S_2 r_2 =>
  if r_2 = 0 then
    some (S_2, (0 : Int32))
  else
    gd (ck x1 12) <|
    if (((S_2.1 25 (x1).toNatClampNeg) >>> (x2 &&& 31)) &&& (1 : Int32)) = (1 : Int32) then
      some (S_2, (1 : Int32))
    else
      some (S_2, (0 : Int32))
noncomputable def fX7_change (fu : Nat) (x1 : Int32) (x2 : Int32) (x3 : Int32) (S : St) : Option (St × Int32) :=
  bd (fX7_has fu x1 S) fun S_2 r_2 =>
  if r_2 = 0 then
    some (S_2, (0 : Int32))
  else
    bd (fX7_isServed fu x1 x2 S_2) fun S_11 r_11 =>
    if r_11 = x3 then
      some (S_11, (0 : Int32))
    else
      gd (ck x1 12) <|
      gd (ck x1 12) <|
      sI 25 (x1).toNatClampNeg ((S_11.1 25 (x1).toNatClampNeg) ^^^ ((1 : Int32) <<< (x2 &&& 31))) S_11 fun S_31 =>
      some (S_31, (1 : Int32))
noncomputable def fX7_zoneFor_41 (fu : Nat) (k_5 : Int32 → Int32 → Int32 → St → Option (St × Int32)) (x1 : Int32) (x3 : Int32) (x4 : Int32) (S : St) : Option (St × Int32) :=
  bd (fX3_above fu x3 S) fun S_46 r_46 =>
  k_5 x1 r_46 (x4 + (1 : Int32)) S_46
noncomputable def fX7_zoneFor_5 (fu : Nat) (n : Nat) : Int32 → Int32 → Int32 → St → Option (St × Int32) :=
  Nat.rec (motive := fun _ => Int32 → Int32 → Int32 → St → Option (St × Int32)) (fun _ _ _ _ => none) (fun _ k_5 x1 x3 x4 S =>
    if (6 : Int32) < x4 then
      some (S, (-1 : Int32))
    else
      bd (fX10_ofApex fu x3 S) fun S_17 r_17 =>
      if r_17 = (-1 : Int32) then
        fX7_zoneFor_41 fu k_5 x1 x3 x4 S_17
      else
        bd (fX7_isServed fu x1 r_17 S_17) fun S_32 r_32 =>
        if r_32 = 0 then
          fX7_zoneFor_41 fu k_5 x1 x3 x4 S_32
        else
          some (S_32, r_17)) n
theorem fX7_zoneFor_5_s (fu : Nat) (n : Nat) (x1 : Int32) (x3 : Int32) (x4 : Int32) (S : St) : fX7_zoneFor_5 fu (n + 1) x1 x3 x4 S = (
    if (6 : Int32) < x4 then
      some (S, (-1 : Int32))
    else
      bd (fX10_ofApex fu x3 S) fun S_17 r_17 =>
      if r_17 = (-1 : Int32) then
        fX7_zoneFor_41 fu (fX7_zoneFor_5 fu n) x1 x3 x4 S_17
      else
        bd (fX7_isServed fu x1 r_17 S_17) fun S_32 r_32 =>
        if r_32 = 0 then
          fX7_zoneFor_41 fu (fX7_zoneFor_5 fu n) x1 x3 x4 S_32
        else
          some (S_32, r_17)) := rfl
noncomputable def fX7_zoneFor (fu : Nat) (x1 : Int32) (x2 : Int32) (S : St) : Option (St × Int32) :=
  fX7_zoneFor_5 fu fu x1 x2 (0 : Int32) S
noncomputable def fX4_rows (fu : Nat) (S : St) : Option (St × Int32) :=
  some (S, (0 : Int32))
noncomputable def fX4_flags (fu : Nat) (S : St) : Option (St × Int32) :=
  some (S, (S.1 26 4))
noncomputable def fX4_isReplyTo (fu : Nat) (x1 : Int32) (x2 : Int32) (x3 : Int32) (S : St) : Option (St × Int32) :=
  if (S.1 26 3) = x1 then
    if (S.1 26 5) = x2 then
      if (S.1 26 6) = x3 then
        if (S.1 26 7) = (1 : Int32) then
          if ((S.1 26 4) &&& (32768 : Int32)) = 0 then
            some (S, (0 : Int32))
          else
            some (S, (1 : Int32))
        else
          some (S, (0 : Int32))
      else
        some (S, (0 : Int32))
    else
      some (S, (0 : Int32))
  else
    some (S, (0 : Int32))
noncomputable def fX4_readLabel_21 (fu : Nat) (u : Nat) (n : Nat) : Int32 → Int32 → Int32 → St → Option (St × Int32) :=
  Nat.rec (motive := fun _ => Int32 → Int32 → Int32 → St → Option (St × Int32)) (fun _ _ _ _ => none) (fun _ k_21 x2 x3 x4 S =>
    if x3 < x4 then
      some (S, (0 : Int32))
    else
      bd (fX0_at fu u (x2 + x4) S) fun S_32 r_32 =>
      if r_32 = (-1 : Int32) then
        some (S_32, (3 : Int32))
      else
        bd (fX8_add fu 27 r_32 S_32) fun S_51 r_51 =>
        if r_51 = 0 then
          some (S_51, (2 : Int32))
        else
          k_21 x2 x3 (x4 + (1 : Int32)) S_51) n
theorem fX4_readLabel_21_s (fu : Nat) (u : Nat) (n : Nat) (x2 : Int32) (x3 : Int32) (x4 : Int32) (S : St) : fX4_readLabel_21 fu u (n + 1) x2 x3 x4 S = (
    if x3 < x4 then
      some (S, (0 : Int32))
    else
      bd (fX0_at fu u (x2 + x4) S) fun S_32 r_32 =>
      if r_32 = (-1 : Int32) then
        some (S_32, (3 : Int32))
      else
        bd (fX8_add fu 27 r_32 S_32) fun S_51 r_51 =>
        if r_51 = 0 then
          some (S_51, (2 : Int32))
        else
          (fX4_readLabel_21 fu u n) x2 x3 (x4 + (1 : Int32)) S_51) := rfl
noncomputable def fX4_readLabel (fu : Nat) (u : Nat) (x2 : Int32) (x3 : Int32) (S : St) : Option (St × Int32) :=
  if (10 : Int32) < x3 then
    some (S, (2 : Int32))
  else
    bd (fX8_open fu 27 S) fun S_10 r_10 =>
    if r_10 = 0 then
      some (S_10, (2 : Int32))
    else
      fX4_readLabel_21 fu u fu x2 x3 (1 : Int32) S_10
noncomputable def fX4_readName_195 (fu : Nat) (u : Nat) (k_23 : Int32 → Int32 → Int32 → Int32 → St → Option (St × Int32)) (x2 : Int32) (x3 : Int32) (x4 : Int32) (x5 : Int32) (S : St) : Option (St × Int32) :=
  k_23 x2 x3 x4 (x5 + (1 : Int32)) S
noncomputable def fX4_readName_187 (fu : Nat) (u : Nat) (k_23 : Int32 → Int32 → Int32 → Int32 → St → Option (St × Int32)) (x5 : Int32) (x8 : Int32) (t0 : Int32) (S : St) : Option (St × Int32) :=
  fX4_readName_195 fu u k_23 x8 x8 t0 x5 S
noncomputable def fX4_readName_66 (fu : Nat) (u : Nat) (t0 : Int32) (S : St) : Option (St × Int32) :=
  sI 26 8 t0 S fun S_66 =>
  bd (fX3_made fu 27 S_66) fun S_78 r_78 =>
  sI 26 9 r_78 S_78 fun S_81 =>
  if (S_81.1 26 9) = (-1 : Int32) then
    some (S_81, (6 : Int32))
  else
    some (S_81, (0 : Int32))
noncomputable def fX4_readName_23 (fu : Nat) (u : Nat) (n : Nat) : Int32 → Int32 → Int32 → Int32 → St → Option (St × Int32) :=
  Nat.rec (motive := fun _ => Int32 → Int32 → Int32 → Int32 → St → Option (St × Int32)) (fun _ _ _ _ _ => none) (fun _ k_23 x2 x3 x4 x5 S =>
    if (1012 : Int32) ≤ x5 then
      some (S, (2 : Int32))
    else
      bd (fX0_at fu u x3 S) fun S_33 r_33 =>
      if r_33 = (-1 : Int32) then
        some (S_33, (3 : Int32))
      else
        if r_33 = 0 then
          if x4 = (-1 : Int32) then
            fX4_readName_66 fu u (x3 + (1 : Int32)) S_33
          else
            fX4_readName_66 fu u x4 S_33
        else
          if (192 : Int32) ≤ r_33 then
            bd (fX0_at fu u (x3 + (1 : Int32)) S_33) fun S_139 r_139 =>
            if r_139 = (-1 : Int32) then
              some (S_139, (3 : Int32))
            else
              if (((r_33 &&& (63 : Int32)) <<< ((8 : Int32) &&& 31)) + r_139) < x2 then
                if x4 = (-1 : Int32) then
                  fX4_readName_187 fu u k_23 x5 (((r_33 &&& (63 : Int32)) <<< ((8 : Int32) &&& 31)) + r_139) (x3 + (2 : Int32)) S_139
                else
                  fX4_readName_187 fu u k_23 x5 (((r_33 &&& (63 : Int32)) <<< ((8 : Int32) &&& 31)) + r_139) x4 S_139
              else
                some (S_139, (2 : Int32))
          else
            bd (fX4_readLabel fu u x3 r_33 S_33) fun S_112 r_112 =>
            if r_112 = 0 then
              fX4_readName_195 fu u k_23 x2 (x3 + (r_33 + (1 : Int32))) x4 x5 S_112
            else
              some (S_112, r_112)) n
theorem fX4_readName_23_s (fu : Nat) (u : Nat) (n : Nat) (x2 : Int32) (x3 : Int32) (x4 : Int32) (x5 : Int32) (S : St) : fX4_readName_23 fu u (n + 1) x2 x3 x4 x5 S = (
    if (1012 : Int32) ≤ x5 then
      some (S, (2 : Int32))
    else
      bd (fX0_at fu u x3 S) fun S_33 r_33 =>
      if r_33 = (-1 : Int32) then
        some (S_33, (3 : Int32))
      else
        if r_33 = 0 then
          if x4 = (-1 : Int32) then
            fX4_readName_66 fu u (x3 + (1 : Int32)) S_33
          else
            fX4_readName_66 fu u x4 S_33
        else
          if (192 : Int32) ≤ r_33 then
            bd (fX0_at fu u (x3 + (1 : Int32)) S_33) fun S_139 r_139 =>
            if r_139 = (-1 : Int32) then
              some (S_139, (3 : Int32))
            else
              if (((r_33 &&& (63 : Int32)) <<< ((8 : Int32) &&& 31)) + r_139) < x2 then
                if x4 = (-1 : Int32) then
                  fX4_readName_187 fu u (fX4_readName_23 fu u n) x5 (((r_33 &&& (63 : Int32)) <<< ((8 : Int32) &&& 31)) + r_139) (x3 + (2 : Int32)) S_139
                else
                  fX4_readName_187 fu u (fX4_readName_23 fu u n) x5 (((r_33 &&& (63 : Int32)) <<< ((8 : Int32) &&& 31)) + r_139) x4 S_139
              else
                some (S_139, (2 : Int32))
          else
            bd (fX4_readLabel fu u x3 r_33 S_33) fun S_112 r_112 =>
            if r_112 = 0 then
              fX4_readName_195 fu u (fX4_readName_23 fu u n) x2 (x3 + (r_33 + (1 : Int32))) x4 x5 S_112
            else
              some (S_112, r_112)) := rfl
noncomputable def fX4_readName (fu : Nat) (u : Nat) (S : St) : Option (St × Int32) :=
  bd (fX8_clear fu 27 S) fun S_4 _ =>
  fX4_readName_23 fu u fu (S_4.1 26 8) (S_4.1 26 8) (-1 : Int32) (0 : Int32) S_4
noncomputable def fX4_readQuestion (fu : Nat) (u : Nat) (S : St) : Option (St × Int32) :=
  bd (fX4_readName fu u S) fun S_2 r_2 =>
  if r_2 = 0 then
    bd (fX0_size fu u S_2) fun S_19 r_19 =>
    if ((S_2.1 26 8) + (4 : Int32)) ≤ r_19 then
      sI 26 5 (S_19.1 26 9) S_19 fun S_32 =>
      bd (fX0_two fu u (S_32.1 26 8) S_32) fun S_41 r_41 =>
      sI 26 6 r_41 S_41 fun S_44 =>
      bd (fX0_two fu u ((S_44.1 26 8) + (2 : Int32)) S_44) fun S_55 r_55 =>
      sI 26 7 r_55 S_55 fun S_58 =>
      sI 26 8 ((S_58.1 26 8) + (4 : Int32)) S_58 fun S_68 =>
      some (S_68, (0 : Int32))
    else
      some (S_19, (3 : Int32))
  else
    some (S_2, r_2)
noncomputable def fX4_readDataName (fu : Nat) (u : Nat) (x2 : Int32) (x3 : Int32) (S : St) : Option (St × Int32) :=
  sI 26 8 x2 S fun S_2 =>
  bd (fX4_readName fu u S_2) fun S_7 r_7 =>
  if r_7 = (6 : Int32) then
    some (S_7, r_7)
  else
    if r_7 = 0 then
      if (S_7.1 26 8) = x3 then
        some (S_7, (0 : Int32))
      else
        some (S_7, (4 : Int32))
    else
      some (S_7, (4 : Int32))
noncomputable def fX4_readData (fu : Nat) (u : Nat) (x2 : Int32) (x3 : Int32) (x4 : Int32) (S : St) : Option (St × Int32) :=
  if x2 = (1 : Int32) then
    bd (fX0_four fu u x3 S) fun S_43 r_43 =>
    sI 26 9 r_43 S_43 fun S_46 =>
    if (x4 - x3) = (4 : Int32) then
      some (S_46, (0 : Int32))
    else
      some (S_46, (4 : Int32))
  else
  if x2 = (6 : Int32) then
    bd (fX0_four fu u (x4 - (4 : Int32)) S) fun S_99 r_99 =>
    sI 26 9 r_99 S_99 fun S_102 =>
    if (x4 - x3) = (22 : Int32) then
      bd (fX0_two fu u x3 S_102) fun S_114 r_114 =>
      if r_114 = 0 then
        some (S_114, (0 : Int32))
      else
        some (S_114, (4 : Int32))
    else
      some (S_102, (4 : Int32))
  else
  if x2 = (16 : Int32) then
    bd (fX0_four fu u (x3 + (1 : Int32)) S) fun S_66 r_66 =>
    sI 26 9 r_66 S_66 fun S_69 =>
    if (x4 - x3) = (5 : Int32) then
      bd (fX0_at fu u x3 S_69) fun S_80 r_80 =>
      if r_80 = (4 : Int32) then
        some (S_80, (0 : Int32))
      else
        some (S_80, (4 : Int32))
    else
      some (S_69, (4 : Int32))
  else
    some (S, (0 : Int32))
noncomputable def fX4_readRecord_146 (fu : Nat) (u : Nat) (x2 : Int32) (x4 : Int32) (x5 : Int32) (x7 : Int32) (S : St) : Option (St × Int32) :=
  bd (fX0_four fu u (x5 + (4 : Int32)) S) fun S_164 r_164 =>
  bd (fX5_add fu 30 x2 x4 x7 (S.1 26 9) r_164 S_164) fun S_167 _ =>
  some (S_167, (0 : Int32))
noncomputable def fX4_readRecord_106 (fu : Nat) (u : Nat) (x2 : Int32) (x4 : Int32) (x5 : Int32) (x7 : Int32) (x8 : Int32) (t0 : Int32) (S : St) : Option (St × Int32) :=
  if t0 = 0 then
    sI 26 8 x8 S fun S_116 =>
    bd (fX0_two fu u (x5 + (2 : Int32)) S_116) fun S_124 r_124 =>
    if r_124 = (1 : Int32) then
      bd (fX11_isKept fu x7 S_124) fun S_133 r_133 =>
      if r_133 = 0 then
        if x7 = (6 : Int32) then
          fX4_readRecord_146 fu u x2 x4 x5 x7 S_133
        else
          some (S_133, (0 : Int32))
      else
        fX4_readRecord_146 fu u x2 x4 x5 x7 S_133
    else
      some (S_124, (0 : Int32))
  else
    some (S, t0)
noncomputable def fX4_readRecord (fu : Nat) (u : Nat) (x2 : Int32) (S : St) : Option (St × Int32) :=
  bd (fX4_readName fu u S) fun S_2 r_2 =>
  if r_2 = 0 then
    bd (fX0_size fu u S_2) fun S_34 r_34 =>
    if ((S_2.1 26 8) + (10 : Int32)) ≤ r_34 then
      bd (fX0_two fu u (S_2.1 26 8) S_34) fun S_45 r_45 =>
      bd (fX0_two fu u ((S_2.1 26 8) + (8 : Int32)) S_45) fun S_58 r_58 =>
      bd (fX0_size fu u S_58) fun S_67 r_67 =>
      if (((S_2.1 26 8) + (10 : Int32)) + r_58) ≤ r_67 then
        bd (fX11_isNamed fu r_45 S_67) fun S_77 r_77 =>
        if r_77 = 0 then
          bd (fX4_readData fu u r_45 ((S_2.1 26 8) + (10 : Int32)) (((S_2.1 26 8) + (10 : Int32)) + r_58) S_77) fun S_103 r_103 =>
          fX4_readRecord_106 fu u x2 (S_2.1 26 9) (S_2.1 26 8) r_45 (((S_2.1 26 8) + (10 : Int32)) + r_58) r_103 S_103
        else
          bd (fX4_readDataName fu u ((S_2.1 26 8) + (10 : Int32)) (((S_2.1 26 8) + (10 : Int32)) + r_58) S_77) fun S_89 r_89 =>
          fX4_readRecord_106 fu u x2 (S_2.1 26 9) (S_2.1 26 8) r_45 (((S_2.1 26 8) + (10 : Int32)) + r_58) r_89 S_89
      else
        some (S_67, (3 : Int32))
    else
      some (S_34, (3 : Int32))
  else
    some (S_2, r_2)
noncomputable def fX4_read_103 (fu : Nat) (u : Nat) (k_59 : Int32 → Int32 → St → Option (St × Int32)) (x2 : Int32) (x3 : Int32) (S : St) : Option (St × Int32) :=
  k_59 x2 (x3 + (1 : Int32)) S
noncomputable def fX4_read_79 (fu : Nat) (u : Nat) (k_59 : Int32 → Int32 → St → Option (St × Int32)) (n : Nat) : Int32 → Int32 → Int32 → Int32 → St → Option (St × Int32) :=
  Nat.rec (motive := fun _ => Int32 → Int32 → Int32 → Int32 → St → Option (St × Int32)) (fun _ _ _ _ _ => none) (fun _ k_79 x2 x3 x4 x5 S =>
    if x4 ≤ x5 then
      fX4_read_103 fu u k_59 x2 x3 S
    else
      if x2 = 0 then
        bd (fX4_readRecord fu u x3 S) fun S_93 r_93 =>
        k_79 r_93 x3 x4 (x5 + (1 : Int32)) S_93
      else
        fX4_read_103 fu u k_59 x2 x3 S) n
theorem fX4_read_79_s (fu : Nat) (u : Nat) (k_59 : Int32 → Int32 → St → Option (St × Int32)) (n : Nat) (x2 : Int32) (x3 : Int32) (x4 : Int32) (x5 : Int32) (S : St) : fX4_read_79 fu u k_59 (n + 1) x2 x3 x4 x5 S = (
    if x4 ≤ x5 then
      fX4_read_103 fu u k_59 x2 x3 S
    else
      if x2 = 0 then
        bd (fX4_readRecord fu u x3 S) fun S_93 r_93 =>
        (fX4_read_79 fu u k_59 n) r_93 x3 x4 (x5 + (1 : Int32)) S_93
      else
        fX4_read_103 fu u k_59 x2 x3 S) := rfl
noncomputable def fX4_read_59 (fu : Nat) (u : Nat) (n : Nat) : Int32 → Int32 → St → Option (St × Int32) :=
  Nat.rec (motive := fun _ => Int32 → Int32 → St → Option (St × Int32)) (fun _ _ _ => none) (fun _ k_59 x2 x3 S =>
    if (3 : Int32) ≤ x3 then
      if x2 = 0 then
        bd (fX0_size fu u S) fun S_118 r_118 =>
        if r_118 ≤ (S.1 26 8) then
          some (S_118, x2)
        else
          some (S_118, (5 : Int32))
      else
        some (S, x2)
    else
      bd (fX0_two fu u ((6 : Int32) + ((2 : Int32) * x3)) S) fun S_71 r_71 =>
      fX4_read_79 fu u k_59 fu x2 x3 r_71 (0 : Int32) S_71) n
theorem fX4_read_59_s (fu : Nat) (u : Nat) (n : Nat) (x2 : Int32) (x3 : Int32) (S : St) : fX4_read_59 fu u (n + 1) x2 x3 S = (
    if (3 : Int32) ≤ x3 then
      if x2 = 0 then
        bd (fX0_size fu u S) fun S_118 r_118 =>
        if r_118 ≤ (S.1 26 8) then
          some (S_118, x2)
        else
          some (S_118, (5 : Int32))
      else
        some (S, x2)
    else
      bd (fX0_two fu u ((6 : Int32) + ((2 : Int32) * x3)) S) fun S_71 r_71 =>
      fX4_read_79 fu u (fX4_read_59 fu u n) fu x2 x3 r_71 (0 : Int32) S_71) := rfl
noncomputable def fX4_read (fu : Nat) (u : Nat) (S : St) : Option (St × Int32) :=
  bd (fX5_clear fu 30 S) fun S_4 _ =>
  bd (fX0_size fu u S_4) fun S_8 r_8 =>
  if r_8 < (12 : Int32) then
    some (S_8, (1 : Int32))
  else
    bd (fX0_two fu u (4 : Int32) S_8) fun S_18 r_18 =>
    if r_18 = (1 : Int32) then
      bd (fX0_two fu u (0 : Int32) S_18) fun S_30 r_30 =>
      sI 26 3 r_30 S_30 fun S_33 =>
      bd (fX0_two fu u (2 : Int32) S_33) fun S_39 r_39 =>
      sI 26 4 r_39 S_39 fun S_42 =>
      sI 26 8 (12 : Int32) S_42 fun S_48 =>
      bd (fX4_readQuestion fu u S_48) fun S_53 r_53 =>
      fX4_read_59 fu u fu r_53 (0 : Int32) S_53
    else
      some (S_18, (1 : Int32))
noncomputable def fX6_addHint (fu : Nat) (x1 : Int32) (S : St) : Option (St × Int32) :=
  if (S.1 49 4) < (4 : Int32) then
    gd (ck (S.1 49 4) 4) <|
    sI 59 ((S.1 49 4)).toNatClampNeg x1 S fun S_19 =>
    sI 49 4 ((S_19.1 49 4) + (1 : Int32)) S_19 fun S_27 =>
    some (S_27, (S_27.1 49 4))
  else
    some (S, (-1 : Int32))
noncomputable def fX6_hints (fu : Nat) (S : St) : Option (St × Int32) :=
  some (S, (S.1 49 4))
noncomputable def fX6_state (fu : Nat) (S : St) : Option (St × Int32) :=
  some (S, (S.1 49 5))
noncomputable def fX6_isWaiting (fu : Nat) (S : St) : Option (St × Int32) :=
  gd (isB (S.1 49 8)) <|
  some (S, (S.1 49 8))
noncomputable def fX6_address (fu : Nat) (S : St) : Option (St × Int32) :=
  some (S, (S.1 49 9))
noncomputable def fX6_id (fu : Nat) (S : St) : Option (St × Int32) :=
  some (S, ((S.1 49 7) &&& (65535 : Int32)))
noncomputable def fX6_askedName (fu : Nat) (S : St) : Option (St × Int32) :=
  bd (fX2_topName fu S) fun S_4 r_4 =>
  some (S_4, r_4)
noncomputable def fX6_askedType (fu : Nat) (S : St) : Option (St × Int32) :=
  bd (fX2_topType fu S) fun S_4 r_4 =>
  some (S_4, r_4)
noncomputable def fX6_depth (fu : Nat) (S : St) : Option (St × Int32) :=
  bd (fX2_depth fu S) fun S_4 r_4 =>
  some (S_4, r_4)
noncomputable def fX6_place (fu : Nat) (S : St) : Option (St × Int32) :=
  bd (fX2_topPlace fu S) fun S_4 r_4 =>
  some (S_4, r_4)
noncomputable def fX6_sent (fu : Nat) (S : St) : Option (St × Int32) :=
  some (S, (S.1 49 6))
noncomputable def fX6_sentEver (fu : Nat) (S : St) : Option (St × Int32) :=
  some (S, (S.1 49 7))
noncomputable def fX6_firstChains (fu : Nat) (S : St) : Option (St × Int32) :=
  bd (fX2_firstChains fu S) fun S_4 r_4 =>
  some (S_4, r_4)
noncomputable def fX6_firstName (fu : Nat) (S : St) : Option (St × Int32) :=
  bd (fX2_firstName fu S) fun S_4 r_4 =>
  some (S_4, r_4)
noncomputable def fX6_foundSize (fu : Nat) (S : St) : Option (St × Int32) :=
  some (S, (S.1 49 11))
noncomputable def fX6_found (fu : Nat) (x1 : Int32) (S : St) : Option (St × Int32) :=
  if x1 < 0 then
    some (S, (0 : Int32))
  else
    if (S.1 49 11) ≤ x1 then
      some (S, (0 : Int32))
    else
      gd (ck x1 10) <|
      some (S, (S.1 60 (x1).toNatClampNeg))
noncomputable def fX6_begin (fu : Nat) (x1 : Int32) (x2 : Int32) (S : St) : Option (St × Int32) :=
  sI 49 5 (4 : Int32) S fun S_2 =>
  sI 49 6 (0 : Int32) S_2 fun S_7 =>
  sI 49 11 (0 : Int32) S_7 fun S_12 =>
  bd (fX2_clear fu S_12) fun S_19 _ =>
  bd (fX2_push fu x1 x2 S_19) fun S_28 r_28 =>
  some (S_28, (0 : Int32))
noncomputable def fX6_endFrame_30 (fu : Nat) (n : Nat) : Int32 → Int32 → St → Option (St × Int32) :=
  Nat.rec (motive := fun _ => Int32 → Int32 → St → Option (St × Int32)) (fun _ _ _ => none) (fun _ k_30 x2 x3 S =>
    bd (fX1_sizeOf fu x2 S) fun S_36 r_36 =>
    if r_36 ≤ x3 then
      some (S_36, (0 : Int32))
    else
      if (10 : Int32) ≤ x3 then
        some (S_36, (0 : Int32))
      else
        bd (fX1_valueOf fu x2 x3 S_36) fun S_59 r_59 =>
        gd (ck x3 10) <|
        sI 60 (x3).toNatClampNeg r_59 S_59 fun S_62 =>
        sI 49 11 (x3 + (1 : Int32)) S_62 fun S_67 =>
        k_30 x2 (x3 + (1 : Int32)) S_67) n
theorem fX6_endFrame_30_s (fu : Nat) (n : Nat) (x2 : Int32) (x3 : Int32) (S : St) : fX6_endFrame_30 fu (n + 1) x2 x3 S = (
    bd (fX1_sizeOf fu x2 S) fun S_36 r_36 =>
    if r_36 ≤ x3 then
      some (S_36, (0 : Int32))
    else
      if (10 : Int32) ≤ x3 then
        some (S_36, (0 : Int32))
      else
        bd (fX1_valueOf fu x2 x3 S_36) fun S_59 r_59 =>
        gd (ck x3 10) <|
        sI 60 (x3).toNatClampNeg r_59 S_59 fun S_62 =>
        sI 49 11 (x3 + (1 : Int32)) S_62 fun S_67 =>
        (fX6_endFrame_30 fu n) x2 (x3 + (1 : Int32)) S_67) := rfl
noncomputable def fX6_endFrame (fu : Nat) (x1 : Int32) (x2 : Int32) (S : St) : Option (St × Int32) :=
  bd (fX2_pop fu S) fun S_4 _ =>
  bd (fX2_depth fu S_4) fun S_11 r_11 =>
  if r_11 ≤ 0 then
    sI 49 5 x1 S_11 fun S_20 =>
    sI 49 11 (0 : Int32) S_20 fun S_25 =>
    fX6_endFrame_30 fu fu x2 (0 : Int32) S_25
  else
    some (S_11, (0 : Int32))
noncomputable def fX6_followAlias (fu : Nat) (x1 : Int32) (S : St) : Option (St × Int32) :=
  bd (fX2_topChains fu S) fun S_4 r_4 =>
  if r_4 < (8 : Int32) then
    bd (fX1_valueOf fu x1 (0 : Int32) S_4) fun S_31 r_31 =>
    bd (fX2_follow fu r_31 S_31) fun S_34 _ =>
    some (S_34, (0 : Int32))
  else
    bd (fX6_endFrame fu (3 : Int32) (-1 : Int32) S_4) fun S_15 _ =>
    some (S_15, (0 : Int32))
noncomputable def fX6_placeOf_4 (fu : Nat) (n : Nat) : Int32 → Int32 → St → Option (St × Int32) :=
  Nat.rec (motive := fun _ => Int32 → Int32 → St → Option (St × Int32)) (fun _ _ _ => none) (fun _ k_4 x2 x3 S =>
    if (6 : Int32) ≤ x3 then
      some (S, (0 : Int32))
    else
      if x2 = 0 then
        some (S, (0 : Int32))
      else
        bd (fX1_setOf fu x2 (2 : Int32) S) fun S_20 r_20 =>
        if r_20 = (-1 : Int32) then
          bd (fX3_above fu x2 S_20) fun S_34 r_34 =>
          k_4 r_34 (x3 + (1 : Int32)) S_34
        else
          some (S_20, x2)) n
theorem fX6_placeOf_4_s (fu : Nat) (n : Nat) (x2 : Int32) (x3 : Int32) (S : St) : fX6_placeOf_4 fu (n + 1) x2 x3 S = (
    if (6 : Int32) ≤ x3 then
      some (S, (0 : Int32))
    else
      if x2 = 0 then
        some (S, (0 : Int32))
      else
        bd (fX1_setOf fu x2 (2 : Int32) S) fun S_20 r_20 =>
        if r_20 = (-1 : Int32) then
          bd (fX3_above fu x2 S_20) fun S_34 r_34 =>
          (fX6_placeOf_4 fu n) r_34 (x3 + (1 : Int32)) S_34
        else
          some (S_20, x2)) := rfl
noncomputable def fX6_placeOf (fu : Nat) (x1 : Int32) (S : St) : Option (St × Int32) :=
  fX6_placeOf_4 fu fu x1 (0 : Int32) S
noncomputable def fX6_sendTo (fu : Nat) (x1 : Int32) (S : St) : Option (St × Int32) :=
  if (S.1 49 6) < (40 : Int32) then
    bd (fX2_addTried fu x1 S) fun S_20 _ =>
    sI 49 9 x1 S_20 fun S_25 =>
    sI 49 6 ((S_25.1 49 6) + (1 : Int32)) S_25 fun S_35 =>
    sI 49 7 ((S_35.1 49 7) + (1 : Int32)) S_35 fun S_45 =>
    sI 49 8 (1 : Int32) S_45 fun S_50 =>
    some (S_50, (0 : Int32))
  else
    sI 49 5 (3 : Int32) S fun S_11 =>
    some (S_11, (0 : Int32))
noncomputable def fX6_tryHints_2 (fu : Nat) (n : Nat) : Int32 → St → Option (St × Int32) :=
  Nat.rec (motive := fun _ => Int32 → St → Option (St × Int32)) (fun _ _ => none) (fun _ k_2 x1 S =>
    if (S.1 49 4) ≤ x1 then
      some (S, (0 : Int32))
    else
      gd (ck x1 4) <|
      bd (fX2_hasTried fu (S.1 59 (x1).toNatClampNeg) S) fun S_20 r_20 =>
      if r_20 = 0 then
        gd (ck x1 4) <|
        bd (fX6_sendTo fu (S_20.1 59 (x1).toNatClampNeg) S_20) fun S_33 _ =>
        some (S_33, (1 : Int32))
      else
        k_2 (x1 + (1 : Int32)) S_20) n
theorem fX6_tryHints_2_s (fu : Nat) (n : Nat) (x1 : Int32) (S : St) : fX6_tryHints_2 fu (n + 1) x1 S = (
    if (S.1 49 4) ≤ x1 then
      some (S, (0 : Int32))
    else
      gd (ck x1 4) <|
      bd (fX2_hasTried fu (S.1 59 (x1).toNatClampNeg) S) fun S_20 r_20 =>
      if r_20 = 0 then
        gd (ck x1 4) <|
        bd (fX6_sendTo fu (S_20.1 59 (x1).toNatClampNeg) S_20) fun S_33 _ =>
        some (S_33, (1 : Int32))
      else
        (fX6_tryHints_2 fu n) (x1 + (1 : Int32)) S_20) := rfl
noncomputable def fX6_tryHints (fu : Nat) (S : St) : Option (St × Int32) :=
  fX6_tryHints_2 fu fu (0 : Int32) S
noncomputable def fX6_tryHosts_35 (fu : Nat) (k_2 : Int32 → Int32 → St → Option (St × Int32)) (n : Nat) : Int32 → Int32 → Int32 → Int32 → St → Option (St × Int32) :=
  Nat.rec (motive := fun _ => Int32 → Int32 → Int32 → Int32 → St → Option (St × Int32)) (fun _ _ _ _ _ => none) (fun _ k_35 x1 x2 x3 x4 S =>
    bd (fX1_sizeOf fu x3 S) fun S_42 r_42 =>
    if r_42 ≤ x4 then
      k_2 x1 (x2 + (1 : Int32)) S_42
    else
      bd (fX1_valueOf fu x3 x4 S_42) fun S_55 r_55 =>
      bd (fX2_hasTried fu r_55 S_55) fun S_66 r_66 =>
      if r_66 = 0 then
        bd (fX6_sendTo fu r_55 S_66) fun S_75 _ =>
        some (S_75, (1 : Int32))
      else
        k_35 x1 x2 x3 (x4 + (1 : Int32)) S_66) n
theorem fX6_tryHosts_35_s (fu : Nat) (k_2 : Int32 → Int32 → St → Option (St × Int32)) (n : Nat) (x1 : Int32) (x2 : Int32) (x3 : Int32) (x4 : Int32) (S : St) : fX6_tryHosts_35 fu k_2 (n + 1) x1 x2 x3 x4 S = (
    bd (fX1_sizeOf fu x3 S) fun S_42 r_42 =>
    if r_42 ≤ x4 then
      k_2 x1 (x2 + (1 : Int32)) S_42
    else
      bd (fX1_valueOf fu x3 x4 S_42) fun S_55 r_55 =>
      bd (fX2_hasTried fu r_55 S_55) fun S_66 r_66 =>
      if r_66 = 0 then
        bd (fX6_sendTo fu r_55 S_66) fun S_75 _ =>
        some (S_75, (1 : Int32))
      else
        (fX6_tryHosts_35 fu k_2 n) x1 x2 x3 (x4 + (1 : Int32)) S_66) := rfl
noncomputable def fX6_tryHosts_2 (fu : Nat) (n : Nat) : Int32 → Int32 → St → Option (St × Int32) :=
  Nat.rec (motive := fun _ => Int32 → Int32 → St → Option (St × Int32)) (fun _ _ _ => none) (fun _ k_2 x1 x2 S =>
    bd (fX1_sizeOf fu x1 S) fun S_8 r_8 =>
    if r_8 ≤ x2 then
      some (S_8, (0 : Int32))
    else
      bd (fX1_valueOf fu x1 x2 S_8) fun S_24 r_24 =>
      bd (fX1_setOf fu r_24 (1 : Int32) S_24) fun S_28 r_28 =>
      fX6_tryHosts_35 fu k_2 fu x1 x2 r_28 (0 : Int32) S_28) n
theorem fX6_tryHosts_2_s (fu : Nat) (n : Nat) (x1 : Int32) (x2 : Int32) (S : St) : fX6_tryHosts_2 fu (n + 1) x1 x2 S = (
    bd (fX1_sizeOf fu x1 S) fun S_8 r_8 =>
    if r_8 ≤ x2 then
      some (S_8, (0 : Int32))
    else
      bd (fX1_valueOf fu x1 x2 S_8) fun S_24 r_24 =>
      bd (fX1_setOf fu r_24 (1 : Int32) S_24) fun S_28 r_28 =>
      fX6_tryHosts_35 fu (fX6_tryHosts_2 fu n) fu x1 x2 r_28 (0 : Int32) S_28) := rfl
noncomputable def fX6_tryHosts (fu : Nat) (x1 : Int32) (S : St) : Option (St × Int32) :=
  fX6_tryHosts_2 fu fu x1 (0 : Int32) S
noncomputable def fX6_sendForHost_66 (fu : Nat) (k_2 : Int32 → Int32 → St → Option (St × Int32)) (x1 : Int32) (x2 : Int32) (S : St) : Option (St × Int32) :=
  k_2 x1 (x2 + (1 : Int32)) S
noncomputable def fX6_sendForHost_2 (fu : Nat) (n : Nat) : Int32 → Int32 → St → Option (St × Int32) :=
  Nat.rec (motive := fun _ => Int32 → Int32 → St → Option (St × Int32)) (fun _ _ _ => none) (fun _ k_2 x1 x2 S =>
    bd (fX1_sizeOf fu x1 S) fun S_8 r_8 =>
    if r_8 ≤ x2 then
      some (S_8, (0 : Int32))
    else
      bd (fX1_valueOf fu x1 x2 S_8) fun S_20 r_20 =>
      bd (fX1_setOf fu r_20 (1 : Int32) S_20) fun S_30 r_30 =>
      if r_30 = (-1 : Int32) then
        bd (fX2_hasSentFor fu r_20 S_30) fun S_42 r_42 =>
        if r_42 = 0 then
          bd (fX2_addSentFor fu r_20 S_42) fun S_53 _ =>
          bd (fX2_push fu r_20 (1 : Int32) S_53) fun S_62 r_62 =>
          gd (isB r_62) <|
          some (S_62, r_62)
        else
          fX6_sendForHost_66 fu k_2 x1 x2 S_42
      else
        fX6_sendForHost_66 fu k_2 x1 x2 S_30) n
theorem fX6_sendForHost_2_s (fu : Nat) (n : Nat) (x1 : Int32) (x2 : Int32) (S : St) : fX6_sendForHost_2 fu (n + 1) x1 x2 S = (
    bd (fX1_sizeOf fu x1 S) fun S_8 r_8 =>
    if r_8 ≤ x2 then
      some (S_8, (0 : Int32))
    else
      bd (fX1_valueOf fu x1 x2 S_8) fun S_20 r_20 =>
      bd (fX1_setOf fu r_20 (1 : Int32) S_20) fun S_30 r_30 =>
      if r_30 = (-1 : Int32) then
        bd (fX2_hasSentFor fu r_20 S_30) fun S_42 r_42 =>
        if r_42 = 0 then
          bd (fX2_addSentFor fu r_20 S_42) fun S_53 _ =>
          bd (fX2_push fu r_20 (1 : Int32) S_53) fun S_62 r_62 =>
          gd (isB r_62) <|
          some (S_62, r_62)
        else
          fX6_sendForHost_66 fu (fX6_sendForHost_2 fu n) x1 x2 S_42
      else
        fX6_sendForHost_66 fu (fX6_sendForHost_2 fu n) x1 x2 S_30) := rfl
noncomputable def fX6_sendForHost (fu : Nat) (x1 : Int32) (S : St) : Option (St × Int32) :=
  fX6_sendForHost_2 fu fu x1 (0 : Int32) S
noncomputable def fX6_moveOut_41 (fu : Nat) (x3 : Int32) (t0 : Int32) (S : St) : Option (St × Int32) :=
  if t0 = 0 then
    bd (fX6_sendForHost fu x3 S) fun S_50 r_50 =>
    if r_50 = 0 then
      bd (fX6_endFrame fu (3 : Int32) (-1 : Int32) S_50) fun S_59 _ =>
      some (S_59, (0 : Int32))
    else
      some (S_50, (0 : Int32))
  else
    some (S, (0 : Int32))
noncomputable def fX6_moveOut (fu : Nat) (x1 : Int32) (S : St) : Option (St × Int32) :=
  bd (fX6_placeOf fu x1 S) fun S_2 r_2 =>
  bd (fX2_lead fu r_2 S_2) fun S_11 _ =>
  bd (fX1_setOf fu r_2 (2 : Int32) S_11) fun S_20 r_20 =>
  if r_20 = (-1 : Int32) then
    bd (fX6_tryHints fu S_20) fun S_30 r_30 =>
    fX6_moveOut_41 fu r_20 r_30 S_30
  else
    bd (fX6_tryHosts fu r_20 S_20) fun S_38 r_38 =>
    fX6_moveOut_41 fu r_20 r_38 S_38
noncomputable def fX6_move_56 (fu : Nat) (x1 : Int32) (x2 : Int32) (t0 : Int32) (S : St) : Option (St × Int32) :=
  if t0 = (-1 : Int32) then
    bd (fX1_held fu x1 (0 : Int32) S) fun S_79 r_79 =>
    if r_79 = 0 then
      bd (fX6_endFrame fu (2 : Int32) (-1 : Int32) S_79) fun S_88 _ =>
      some (S_88, (0 : Int32))
    else
      bd (fX1_held fu x1 x2 S_79) fun S_100 r_100 =>
      if r_100 = 0 then
        bd (fX6_endFrame fu (1 : Int32) (-1 : Int32) S_100) fun S_109 _ =>
        some (S_109, (0 : Int32))
      else
        bd (fX6_moveOut fu x1 S_100) fun S_117 _ =>
        some (S_117, (0 : Int32))
  else
    bd (fX6_followAlias fu t0 S) fun S_67 _ =>
    some (S_67, (0 : Int32))
noncomputable def fX6_move (fu : Nat) (S : St) : Option (St × Int32) :=
  bd (fX2_topName fu S) fun S_4 r_4 =>
  bd (fX2_topType fu S_4) fun S_12 r_12 =>
  bd (fX1_setOf fu r_4 r_12 S_12) fun S_22 r_22 =>
  if r_22 = (-1 : Int32) then
    if r_12 = (5 : Int32) then
      fX6_move_56 fu r_4 r_12 (-1 : Int32) S_22
    else
      bd (fX1_setOf fu r_4 (5 : Int32) S_22) fun S_53 r_53 =>
      fX6_move_56 fu r_4 r_12 r_53 S_53
  else
    bd (fX6_endFrame fu (0 : Int32) r_22 S_22) fun S_34 _ =>
    some (S_34, (0 : Int32))
noncomputable def fX6_goOn_58 (fu : Nat) (S : St) : Option (St × Int32) :=
  if (S.1 49 8) = 0 then
    some (S, (0 : Int32))
  else
    some (S, (1 : Int32))
noncomputable def fX6_goOn_38 (fu : Nat) (S : St) : Option (St × Int32) :=
  if (S.1 49 8) = 0 then
    if (S.1 49 5) = (4 : Int32) then
      sI 49 5 (3 : Int32) S fun S_55 =>
      fX6_goOn_58 fu S_55
    else
      fX6_goOn_58 fu S
  else
    fX6_goOn_58 fu S
noncomputable def fX6_goOn_7 (fu : Nat) (n : Nat) : Int32 → St → Option (St × Int32) :=
  Nat.rec (motive := fun _ => Int32 → St → Option (St × Int32)) (fun _ _ => none) (fun _ k_7 x1 S =>
    if (1000000 : Int32) ≤ x1 then
      fX6_goOn_38 fu S
    else
      if (S.1 49 5) = (4 : Int32) then
        if (S.1 49 8) = 0 then
          bd (fX6_move fu S) fun S_29 _ =>
          k_7 (x1 + (1 : Int32)) S_29
        else
          fX6_goOn_38 fu S
      else
        fX6_goOn_38 fu S) n
theorem fX6_goOn_7_s (fu : Nat) (n : Nat) (x1 : Int32) (S : St) : fX6_goOn_7 fu (n + 1) x1 S = (
    if (1000000 : Int32) ≤ x1 then
      fX6_goOn_38 fu S
    else
      if (S.1 49 5) = (4 : Int32) then
        if (S.1 49 8) = 0 then
          bd (fX6_move fu S) fun S_29 _ =>
          (fX6_goOn_7 fu n) (x1 + (1 : Int32)) S_29
        else
          fX6_goOn_38 fu S
      else
        fX6_goOn_38 fu S) := rfl
noncomputable def fX6_goOn (fu : Nat) (S : St) : Option (St × Int32) :=
  sI 49 8 (0 : Int32) S fun S_2 =>
  fX6_goOn_7 fu fu (0 : Int32) S_2
noncomputable def fX6_isAnsweredBy (fu : Nat) (S : St) : Option (St × Int32) :=
  bd (fX6_id fu S) fun S_2 r_2 =>
  bd (fX6_askedName fu S_2) fun S_6 r_6 =>
  bd (fX6_askedType fu S_6) fun S_10 r_10 =>
  bd (fX4_isReplyTo fu r_2 r_6 r_10 S_10) fun S_13 r_13 =>
  gd (isB r_13) <|
  some (S_13, r_13)
noncomputable def fX6_unsigned (fu : Nat) (x0 : Int32) (S : St) : Option (St × Int64) :=
  some (S, ((x0).toInt64 &&& (4294967295 : Int64)))
noncomputable def fX6_addUnlike_31 (fu : Nat) (x1 : Int32) (x2 : Int32) (S : St) : Option (St × Int32) :=
  if x1 < 0 then
    some (S, x1)
  else
    if x1 < (10 : Int32) then
      gd (ck x1 10) <|
      sI 61 (x1).toNatClampNeg x2 S fun S_49 =>
      some (S_49, (x1 + (1 : Int32)))
    else
      some (S, x1)
noncomputable def fX6_addUnlike_2 (fu : Nat) (n : Nat) : Int32 → Int32 → Int32 → St → Option (St × Int32) :=
  Nat.rec (motive := fun _ => Int32 → Int32 → Int32 → St → Option (St × Int32)) (fun _ _ _ _ => none) (fun _ k_2 x1 x2 x3 S =>
    if x1 ≤ x3 then
      fX6_addUnlike_31 fu x1 x2 S
    else
      if (10 : Int32) ≤ x3 then
        fX6_addUnlike_31 fu x1 x2 S
      else
        gd (ck x3 10) <|
        if (S.1 61 (x3).toNatClampNeg) = x2 then
          some (S, x1)
        else
          k_2 x1 x2 (x3 + (1 : Int32)) S) n
theorem fX6_addUnlike_2_s (fu : Nat) (n : Nat) (x1 : Int32) (x2 : Int32) (x3 : Int32) (S : St) : fX6_addUnlike_2 fu (n + 1) x1 x2 x3 S = (
    if x1 ≤ x3 then
      fX6_addUnlike_31 fu x1 x2 S
    else
      if (10 : Int32) ≤ x3 then
        fX6_addUnlike_31 fu x1 x2 S
      else
        gd (ck x3 10) <|
        if (S.1 61 (x3).toNatClampNeg) = x2 then
          some (S, x1)
        else
          (fX6_addUnlike_2 fu n) x1 x2 (x3 + (1 : Int32)) S) := rfl
noncomputable def fX6_addUnlike (fu : Nat) (x1 : Int32) (x2 : Int32) (S : St) : Option (St × Int32) :=
  fX6_addUnlike_2 fu fu x1 x2 (0 : Int32) S
noncomputable def fX6_keepSet_63 (fu : Nat) (k_11 : Int32 → Int32 → Int32 → Int32 → Int64 → Int32 → St → Option (St × Int32)) (x2 : Int32) (x3 : Int32) (x4 : Int32) (x5 : Int32) (x6 : Int64) (x8 : Int32) (S : St) : Option (St × Int32) :=
  k_11 x2 x3 x4 x5 x6 (x8 + (1 : Int32)) S
noncomputable def fX6_keepSet_11 (fu : Nat) (n : Nat) : Int32 → Int32 → Int32 → Int32 → Int64 → Int32 → St → Option (St × Int32) :=
  Nat.rec (motive := fun _ => Int32 → Int32 → Int32 → Int32 → Int64 → Int32 → St → Option (St × Int32)) (fun _ _ _ _ _ _ _ => none) (fun _ k_11 x2 x3 x4 x5 x6 x8 S =>
    bd (fX5_size fu 30 S) fun S_14 r_14 =>
    if r_14 ≤ x8 then
      if x5 ≤ 0 then
        some (S_14, x5)
      else
        bd (fX1_put fu x3 x4 x5 x6 S_14) fun S_89 _ =>
        some (S_89, x5)
    else
      bd (fX5_isOf fu 30 x8 x2 x3 x4 S_14) fun S_27 r_27 =>
      if r_27 = 0 then
        fX6_keepSet_63 fu k_11 x2 x3 x4 x5 x6 x8 S_27
      else
        bd (fX5_life fu 30 x8 S_27) fun S_38 r_38 =>
        bd (fX6_unsigned fu r_38 S_38) fun S_41 r_41 =>
        bd (fX5_value fu 30 x8 S_41) fun S_55 r_55 =>
        bd (fX6_addUnlike fu x5 r_55 S_55) fun S_58 r_58 =>
        fX6_keepSet_63 fu k_11 x2 x3 x4 r_58 (if r_41 < x6 then r_41 else x6) x8 S_58) n
theorem fX6_keepSet_11_s (fu : Nat) (n : Nat) (x2 : Int32) (x3 : Int32) (x4 : Int32) (x5 : Int32) (x6 : Int64) (x8 : Int32) (S : St) : fX6_keepSet_11 fu (n + 1) x2 x3 x4 x5 x6 x8 S = (
    bd (fX5_size fu 30 S) fun S_14 r_14 =>
    if r_14 ≤ x8 then
      if x5 ≤ 0 then
        some (S_14, x5)
      else
        bd (fX1_put fu x3 x4 x5 x6 S_14) fun S_89 _ =>
        some (S_89, x5)
    else
      bd (fX5_isOf fu 30 x8 x2 x3 x4 S_14) fun S_27 r_27 =>
      if r_27 = 0 then
        fX6_keepSet_63 fu (fX6_keepSet_11 fu n) x2 x3 x4 x5 x6 x8 S_27
      else
        bd (fX5_life fu 30 x8 S_27) fun S_38 r_38 =>
        bd (fX6_unsigned fu r_38 S_38) fun S_41 r_41 =>
        bd (fX5_value fu 30 x8 S_41) fun S_55 r_55 =>
        bd (fX6_addUnlike fu x5 r_55 S_55) fun S_58 r_58 =>
        fX6_keepSet_63 fu (fX6_keepSet_11 fu n) x2 x3 x4 r_58 (if r_41 < x6 then r_41 else x6) x8 S_58) := rfl
noncomputable def fX6_keepSet (fu : Nat) (x2 : Int32) (x3 : Int32) (x4 : Int32) (S : St) : Option (St × Int32) :=
  fX6_keepSet_11 fu fu x2 x3 x4 (0 : Int32) (4294967296 : Int64) (0 : Int32) S
noncomputable def fX6_keepFirstAlias_2 (fu : Nat) (n : Nat) : Int32 → Int32 → St → Option (St × Int32) :=
  Nat.rec (motive := fun _ => Int32 → Int32 → St → Option (St × Int32)) (fun _ _ _ => none) (fun _ k_2 x2 x3 S =>
    bd (fX5_size fu 30 S) fun S_4 r_4 =>
    if r_4 ≤ x3 then
      some (S_4, (0 : Int32))
    else
      bd (fX5_isOf fu 30 x3 (0 : Int32) x2 (5 : Int32) S_4) fun S_15 r_15 =>
      if r_15 = 0 then
        k_2 x2 (x3 + (1 : Int32)) S_15
      else
        bd (fX5_value fu 30 x3 S_15) fun S_28 r_28 =>
        gd (ck (0 : Int32) 10) <|
        sI 61 ((0 : Int32)).toNatClampNeg r_28 S_28 fun S_31 =>
        bd (fX5_life fu 30 x3 S_31) fun S_45 r_45 =>
        bd (fX6_unsigned fu r_45 S_45) fun S_48 r_48 =>
        bd (fX1_put fu x2 (5 : Int32) (1 : Int32) r_48 S_48) fun S_51 _ =>
        some (S_51, (1 : Int32))) n
theorem fX6_keepFirstAlias_2_s (fu : Nat) (n : Nat) (x2 : Int32) (x3 : Int32) (S : St) : fX6_keepFirstAlias_2 fu (n + 1) x2 x3 S = (
    bd (fX5_size fu 30 S) fun S_4 r_4 =>
    if r_4 ≤ x3 then
      some (S_4, (0 : Int32))
    else
      bd (fX5_isOf fu 30 x3 (0 : Int32) x2 (5 : Int32) S_4) fun S_15 r_15 =>
      if r_15 = 0 then
        (fX6_keepFirstAlias_2 fu n) x2 (x3 + (1 : Int32)) S_15
      else
        bd (fX5_value fu 30 x3 S_15) fun S_28 r_28 =>
        gd (ck (0 : Int32) 10) <|
        sI 61 ((0 : Int32)).toNatClampNeg r_28 S_28 fun S_31 =>
        bd (fX5_life fu 30 x3 S_31) fun S_45 r_45 =>
        bd (fX6_unsigned fu r_45 S_45) fun S_48 r_48 =>
        bd (fX1_put fu x2 (5 : Int32) (1 : Int32) r_48 S_48) fun S_51 _ =>
        some (S_51, (1 : Int32))) := rfl
noncomputable def fX6_keepFirstAlias (fu : Nat) (x2 : Int32) (S : St) : Option (St × Int32) :=
  fX6_keepFirstAlias_2 fu fu x2 (0 : Int32) S
noncomputable def fX6_keepNothing (fu : Nat) (x2 : Int32) (x3 : Int32) (x4 : Int32) (S : St) : Option (St × Int32) :=
  bd (fX5_life fu 30 x2 S) fun S_2 r_2 =>
  bd (fX6_unsigned fu r_2 S_2) fun S_5 r_5 =>
  bd (fX5_value fu 30 x2 S_5) fun S_10 r_10 =>
  bd (fX6_unsigned fu r_10 S_10) fun S_13 r_13 =>
  bd (fX1_put fu x3 x4 (0 : Int32) (if r_13 < r_5 then r_13 else r_5) S_13) fun S_35 _ =>
  some (S_35, (0 : Int32))
noncomputable def fX6_keepReferral_115 (fu : Nat) (n : Nat) : Int32 → Int32 → St → Option (St × Int32) :=
  Nat.rec (motive := fun _ => Int32 → Int32 → St → Option (St × Int32)) (fun _ _ _ => none) (fun _ k_115 x6 x7 S =>
    if x6 ≤ x7 then
      some (S, (0 : Int32))
    else
      if (10 : Int32) ≤ x7 then
        some (S, (0 : Int32))
      else
        gd (ck x7 10) <|
        bd (fX6_keepSet fu (2 : Int32) (S.1 62 (x7).toNatClampNeg) (1 : Int32) S) fun S_140 r_140 =>
        k_115 x6 (x7 + (1 : Int32)) S_140) n
theorem fX6_keepReferral_115_s (fu : Nat) (n : Nat) (x6 : Int32) (x7 : Int32) (S : St) : fX6_keepReferral_115 fu (n + 1) x6 x7 S = (
    if x6 ≤ x7 then
      some (S, (0 : Int32))
    else
      if (10 : Int32) ≤ x7 then
        some (S, (0 : Int32))
      else
        gd (ck x7 10) <|
        bd (fX6_keepSet fu (2 : Int32) (S.1 62 (x7).toNatClampNeg) (1 : Int32) S) fun S_140 r_140 =>
        (fX6_keepReferral_115 fu n) x6 (x7 + (1 : Int32)) S_140) := rfl
noncomputable def fX6_keepReferral_112 (fu : Nat) (x6 : Int32) (S : St) : Option (St × Int32) :=
  fX6_keepReferral_115 fu fu x6 (0 : Int32) S
noncomputable def fX6_keepReferral_78 (fu : Nat) (n : Nat) : Int32 → Int32 → St → Option (St × Int32) :=
  Nat.rec (motive := fun _ => Int32 → Int32 → St → Option (St × Int32)) (fun _ _ _ => none) (fun _ k_78 x6 x7 S =>
    if x6 ≤ x7 then
      fX6_keepReferral_112 fu x6 S
    else
      if (10 : Int32) ≤ x7 then
        fX6_keepReferral_112 fu x6 S
      else
        gd (ck x7 10) <|
        gd (ck x7 10) <|
        sI 62 (x7).toNatClampNeg (S.1 61 (x7).toNatClampNeg) S fun S_105 =>
        k_78 x6 (x7 + (1 : Int32)) S_105) n
theorem fX6_keepReferral_78_s (fu : Nat) (n : Nat) (x6 : Int32) (x7 : Int32) (S : St) : fX6_keepReferral_78 fu (n + 1) x6 x7 S = (
    if x6 ≤ x7 then
      fX6_keepReferral_112 fu x6 S
    else
      if (10 : Int32) ≤ x7 then
        fX6_keepReferral_112 fu x6 S
      else
        gd (ck x7 10) <|
        gd (ck x7 10) <|
        sI 62 (x7).toNatClampNeg (S.1 61 (x7).toNatClampNeg) S fun S_105 =>
        (fX6_keepReferral_78 fu n) x6 (x7 + (1 : Int32)) S_105) := rfl
noncomputable def fX6_keepReferral (fu : Nat) (x2 : Int32) (S : St) : Option (St × Int32) :=
  bd (fX5_first fu 30 (1 : Int32) (2 : Int32) S) fun S_3 r_3 =>
  if r_3 = (-1 : Int32) then
    some (S_3, (0 : Int32))
  else
    bd (fX5_owner fu 30 r_3 S_3) fun S_15 r_15 =>
    bd (fX2_topPlace fu S_15) fun S_24 r_24 =>
    if r_15 = r_24 then
      some (S_24, (0 : Int32))
    else
      bd (fX3_isIn fu r_15 r_24 S_24) fun S_44 r_44 =>
      if r_44 = 0 then
        some (S_44, (0 : Int32))
      else
        bd (fX3_isIn fu x2 r_15 S_44) fun S_57 r_57 =>
        if r_57 = 0 then
          some (S_57, (0 : Int32))
        else
          bd (fX6_keepSet fu (1 : Int32) r_15 (2 : Int32) S_57) fun S_70 r_70 =>
          fX6_keepReferral_78 fu fu r_70 (0 : Int32) S_70
noncomputable def fX6_learn_122 (fu : Nat) (x3 : Int32) (S : St) : Option (St × Int32) :=
  bd (fX6_keepReferral fu x3 S) fun S_125 _ =>
  some (S_125, (0 : Int32))
noncomputable def fX6_learn_87 (fu : Nat) (x3 : Int32) (x4 : Int32) (x5 : Int32) (x6 : Int32) (S : St) : Option (St × Int32) :=
  if x5 = (-1 : Int32) then
    fX6_learn_122 fu x3 S
  else
    if x6 = 0 then
      bd (fX4_flags fu S) fun S_99 r_99 =>
      if (r_99 &&& (1024 : Int32)) = 0 then
        fX6_learn_122 fu x3 S_99
      else
        bd (fX6_keepNothing fu x5 x3 x4 S_99) fun S_116 _ =>
        some (S_116, (0 : Int32))
    else
      fX6_learn_122 fu x3 S
noncomputable def fX6_learn_45 (fu : Nat) (x3 : Int32) (x4 : Int32) (S : St) : Option (St × Int32) :=
  bd (fX5_first fu 30 (1 : Int32) (6 : Int32) S) fun S_49 r_49 =>
  bd (fX4_flags fu S_49) fun S_55 r_55 =>
  if r_49 = (-1 : Int32) then
    fX6_learn_87 fu x3 x4 r_49 (r_55 &&& (15 : Int32)) S_55
  else
    if (r_55 &&& (15 : Int32)) = (3 : Int32) then
      bd (fX6_keepNothing fu r_49 x3 (0 : Int32) S_55) fun S_81 _ =>
      some (S_81, (0 : Int32))
    else
      fX6_learn_87 fu x3 x4 r_49 (r_55 &&& (15 : Int32)) S_55
noncomputable def fX6_learn (fu : Nat) (S : St) : Option (St × Int32) :=
  bd (fX4_rows fu S) fun S_1 _ =>
  bd (fX6_askedName fu S_1) fun S_6 r_6 =>
  bd (fX6_askedType fu S_6) fun S_11 r_11 =>
  bd (fX6_keepSet fu (0 : Int32) r_6 r_11 S_11) fun S_22 r_22 =>
  if r_22 ≤ 0 then
    if r_11 = (5 : Int32) then
      fX6_learn_45 fu r_6 r_11 S_22
    else
      bd (fX6_keepFirstAlias fu r_6 S_22) fun S_38 r_38 =>
      if r_38 = 0 then
        fX6_learn_45 fu r_6 r_11 S_38
      else
        some (S_38, (0 : Int32))
  else
    some (S_22, (0 : Int32))
noncomputable def fX12_thrown (fu : Nat) (S : St) : Option (St × Int32) :=
  some (S, (S.1 63 0))
noncomputable def fX12_throwsIf (fu : Nat) (x1 : Int32) (x2 : Int32) (S : St) : Option (St × Int32) :=
  if x1 = 0 then
    gd (isB x1) <|
    some (S, x1)
  else
    sI 63 0 x2 S fun S_6 =>
    gd (isB x1) <|
    some (S_6, x1)
noncomputable def fX12_noName_12 (fu : Nat) (S : St) : Option (St × Int32) :=
  some (S, (1 : Int32))
noncomputable def fX12_noName (fu : Nat) (x1 : Int32) (S : St) : Option (St × Int32) :=
  if x1 < 0 then
    fX12_noName_12 fu S
  else
    if x1 < (S.1 63 5) then
      some (S, (0 : Int32))
    else
      fX12_noName_12 fu S
noncomputable def fX12_child_92 (fu : Nat) (a na : Nat) (k_3 : Int32 → Int32 → Int32 → Int32 → St → Option (St × Int32)) (x1 : Int32) (x3 : Int32) (x4 : Int32) (x5 : Int32) (x6 : Int32) (S : St) : Option (St × Int32) :=
  if x6 = 0 then
    k_3 x1 x3 x4 (x5 + (1 : Int32)) S
  else
    some (S, x5)
noncomputable def fX12_child_84 (fu : Nat) (a na : Nat) (k_3 : Int32 → Int32 → Int32 → Int32 → St → Option (St × Int32)) (k_45 : Int32 → Int32 → Int32 → Int32 → Int32 → Int32 → St → Option (St × Int32)) (x1 : Int32) (x3 : Int32) (x4 : Int32) (x5 : Int32) (x7 : Int32) (t0 : Int32) (S : St) : Option (St × Int32) :=
  k_45 x1 x3 x4 x5 t0 (x7 + (1 : Int32)) S
noncomputable def fX12_child_45 (fu : Nat) (a na : Nat) (k_3 : Int32 → Int32 → Int32 → Int32 → St → Option (St × Int32)) (n : Nat) : Int32 → Int32 → Int32 → Int32 → Int32 → Int32 → St → Option (St × Int32) :=
  Nat.rec (motive := fun _ => Int32 → Int32 → Int32 → Int32 → Int32 → Int32 → St → Option (St × Int32)) (fun _ _ _ _ _ _ _ => none) (fun _ k_45 x1 x3 x4 x5 x6 x7 S =>
    if x6 = 0 then
      fX12_child_92 fu a na k_3 x1 x3 x4 x5 x6 S
    else
      if x4 ≤ x7 then
        fX12_child_92 fu a na k_3 x1 x3 x4 x5 x6 S
      else
        gd (ck (((10 : Int32) * x5) + x7) 3000) <|
        gd (ck (x3 + x7) na) <|
        if (S.1 65 ((((10 : Int32) * x5) + x7)).toNatClampNeg) = (S.1 a ((x3 + x7)).toNatClampNeg) then
          fX12_child_84 fu a na k_3 k_45 x1 x3 x4 x5 x7 (1 : Int32) S
        else
          fX12_child_84 fu a na k_3 k_45 x1 x3 x4 x5 x7 (0 : Int32) S) n
theorem fX12_child_45_s (fu : Nat) (a na : Nat) (k_3 : Int32 → Int32 → Int32 → Int32 → St → Option (St × Int32)) (n : Nat) (x1 : Int32) (x3 : Int32) (x4 : Int32) (x5 : Int32) (x6 : Int32) (x7 : Int32) (S : St) : fX12_child_45 fu a na k_3 (n + 1) x1 x3 x4 x5 x6 x7 S = (
    if x6 = 0 then
      fX12_child_92 fu a na k_3 x1 x3 x4 x5 x6 S
    else
      if x4 ≤ x7 then
        fX12_child_92 fu a na k_3 x1 x3 x4 x5 x6 S
      else
        gd (ck (((10 : Int32) * x5) + x7) 3000) <|
        gd (ck (x3 + x7) na) <|
        if (S.1 65 ((((10 : Int32) * x5) + x7)).toNatClampNeg) = (S.1 a ((x3 + x7)).toNatClampNeg) then
          fX12_child_84 fu a na k_3 (fX12_child_45 fu a na k_3 n) x1 x3 x4 x5 x7 (1 : Int32) S
        else
          fX12_child_84 fu a na k_3 (fX12_child_45 fu a na k_3 n) x1 x3 x4 x5 x7 (0 : Int32) S) := rfl
noncomputable def fX12_child_40 (fu : Nat) (a na : Nat) (k_3 : Int32 → Int32 → Int32 → Int32 → St → Option (St × Int32)) (x1 : Int32) (x3 : Int32) (x4 : Int32) (x5 : Int32) (t0 : Int32) (S : St) : Option (St × Int32) :=
  fX12_child_45 fu a na k_3 fu x1 x3 x4 x5 t0 (0 : Int32) S
noncomputable def fX12_child_39 (fu : Nat) (a na : Nat) (k_3 : Int32 → Int32 → Int32 → Int32 → St → Option (St × Int32)) (x1 : Int32) (x3 : Int32) (x4 : Int32) (x5 : Int32) (S : St) : Option (St × Int32) :=
  fX12_child_40 fu a na k_3 x1 x3 x4 x5 (0 : Int32) S
noncomputable def fX12_child_3 (fu : Nat) (a na : Nat) (n : Nat) : Int32 → Int32 → Int32 → Int32 → St → Option (St × Int32) :=
  Nat.rec (motive := fun _ => Int32 → Int32 → Int32 → Int32 → St → Option (St × Int32)) (fun _ _ _ _ _ => none) (fun _ k_3 x1 x3 x4 x5 S =>
    if (S.1 63 5) ≤ x5 then
      some (S, (-1 : Int32))
    else
      gd (ck x5 300) <|
      if (S.1 64 (x5).toNatClampNeg) = x1 then
        gd (ck x5 300) <|
        if (S.1 66 (x5).toNatClampNeg) = x4 then
          fX12_child_40 fu a na k_3 x1 x3 x4 x5 (1 : Int32) S
        else
          fX12_child_39 fu a na k_3 x1 x3 x4 x5 S
      else
        fX12_child_39 fu a na k_3 x1 x3 x4 x5 S) n
theorem fX12_child_3_s (fu : Nat) (a na : Nat) (n : Nat) (x1 : Int32) (x3 : Int32) (x4 : Int32) (x5 : Int32) (S : St) : fX12_child_3 fu a na (n + 1) x1 x3 x4 x5 S = (
    if (S.1 63 5) ≤ x5 then
      some (S, (-1 : Int32))
    else
      gd (ck x5 300) <|
      if (S.1 64 (x5).toNatClampNeg) = x1 then
        gd (ck x5 300) <|
        if (S.1 66 (x5).toNatClampNeg) = x4 then
          fX12_child_40 fu a na (fX12_child_3 fu a na n) x1 x3 x4 x5 (1 : Int32) S
        else
          fX12_child_39 fu a na (fX12_child_3 fu a na n) x1 x3 x4 x5 S
      else
        fX12_child_39 fu a na (fX12_child_3 fu a na n) x1 x3 x4 x5 S) := rfl
noncomputable def fX12_child (fu : Nat) (a na : Nat) (x1 : Int32) (x3 : Int32) (x4 : Int32) (S : St) : Option (St × Int32) :=
  fX12_child_3 fu a na fu x1 x3 x4 (1 : Int32) S
noncomputable def fX12_makes_51 (fu : Nat) (a na : Nat) (n : Nat) : Int32 → Int32 → Int32 → Int32 → St → Option (St × Int32) :=
  Nat.rec (motive := fun _ => Int32 → Int32 → Int32 → Int32 → St → Option (St × Int32)) (fun _ _ _ _ _ => none) (fun _ k_51 x3 x4 x5 x6 S =>
    if x4 ≤ x6 then
      some (S, x5)
    else
      gd (ck (x3 + x6) na) <|
      gd (ck (((10 : Int32) * x5) + x6) 3000) <|
      sI 65 ((((10 : Int32) * x5) + x6)).toNatClampNeg (vp_nar .byte (S.1 a ((x3 + x6)).toNatClampNeg)) S fun S_76 =>
      k_51 x3 x4 x5 (x6 + (1 : Int32)) S_76) n
theorem fX12_makes_51_s (fu : Nat) (a na : Nat) (n : Nat) (x3 : Int32) (x4 : Int32) (x5 : Int32) (x6 : Int32) (S : St) : fX12_makes_51 fu a na (n + 1) x3 x4 x5 x6 S = (
    if x4 ≤ x6 then
      some (S, x5)
    else
      gd (ck (x3 + x6) na) <|
      gd (ck (((10 : Int32) * x5) + x6) 3000) <|
      sI 65 ((((10 : Int32) * x5) + x6)).toNatClampNeg (vp_nar .byte (S.1 a ((x3 + x6)).toNatClampNeg)) S fun S_76 =>
      (fX12_makes_51 fu a na n) x3 x4 x5 (x6 + (1 : Int32)) S_76) := rfl
noncomputable def fX12_makes (fu : Nat) (a na : Nat) (x1 : Int32) (x3 : Int32) (x4 : Int32) (S : St) : Option (St × Int32) :=
  sI 63 5 ((S.1 63 5) + (1 : Int32)) S fun S_13 =>
  gd (ck (S.1 63 5) 300) <|
  sI 64 ((S.1 63 5)).toNatClampNeg x1 S_13 fun S_23 =>
  gd (ck x1 300) <|
  gd (ck (S.1 63 5) 300) <|
  sI 67 ((S.1 63 5)).toNatClampNeg ((S_23.1 67 (x1).toNatClampNeg) + (1 : Int32)) S_23 fun S_38 =>
  gd (ck (S.1 63 5) 300) <|
  sI 66 ((S.1 63 5)).toNatClampNeg x4 S_38 fun S_47 =>
  fX12_makes_51 fu a na fu x3 x4 (S.1 63 5) (0 : Int32) S_47
noncomputable def fX12_isIn_2 (fu : Nat) (n : Nat) : Int32 → Int32 → St → Option (St × Int32) :=
  Nat.rec (motive := fun _ => Int32 → Int32 → St → Option (St × Int32)) (fun _ _ _ => none) (fun _ k_2 x2 x3 S =>
    gd (ck x3 300) <|
    gd (ck x2 300) <|
    if (S.1 67 (x3).toNatClampNeg) ≤ (S.1 67 (x2).toNatClampNeg) then
      if x3 = x2 then
        some (S, (1 : Int32))
      else
        some (S, (0 : Int32))
    else
      gd (ck x3 300) <|
      k_2 x2 (S.1 64 (x3).toNatClampNeg) S) n
theorem fX12_isIn_2_s (fu : Nat) (n : Nat) (x2 : Int32) (x3 : Int32) (S : St) : fX12_isIn_2 fu (n + 1) x2 x3 S = (
    gd (ck x3 300) <|
    gd (ck x2 300) <|
    if (S.1 67 (x3).toNatClampNeg) ≤ (S.1 67 (x2).toNatClampNeg) then
      if x3 = x2 then
        some (S, (1 : Int32))
      else
        some (S, (0 : Int32))
    else
      gd (ck x3 300) <|
      (fX12_isIn_2 fu n) x2 (S.1 64 (x3).toNatClampNeg) S) := rfl
noncomputable def fX12_isIn (fu : Nat) (x1 : Int32) (x2 : Int32) (S : St) : Option (St × Int32) :=
  fX12_isIn_2 fu fu x2 x1 S
noncomputable def fX12_isLetter_30 (fu : Nat) (S : St) : Option (St × Int32) :=
  some (S, (1 : Int32))
noncomputable def fX12_isLetter_24 (fu : Nat) (x0 : Int32) (S : St) : Option (St × Int32) :=
  if x0 = (45 : Int32) then
    fX12_isLetter_30 fu S
  else
    some (S, (0 : Int32))
noncomputable def fX12_isLetter_12 (fu : Nat) (x0 : Int32) (S : St) : Option (St × Int32) :=
  if x0 < (48 : Int32) then
    fX12_isLetter_24 fu x0 S
  else
    if x0 ≤ (57 : Int32) then
      fX12_isLetter_30 fu S
    else
      fX12_isLetter_24 fu x0 S
noncomputable def fX12_isLetter (fu : Nat) (x0 : Int32) (S : St) : Option (St × Int32) :=
  if x0 < (97 : Int32) then
    fX12_isLetter_12 fu x0 S
  else
    if x0 ≤ (122 : Int32) then
      fX12_isLetter_30 fu S
    else
      fX12_isLetter_12 fu x0 S
noncomputable def fX12_missing_9 (fu : Nat) (a na : Nat) (n : Nat) : Int32 → Int32 → St → Option (St × Int32) :=
  Nat.rec (motive := fun _ => Int32 → Int32 → St → Option (St × Int32)) (fun _ _ _ => none) (fun _ k_9 x2 x3 S =>
    if x3 < 0 then
      some (S, (0 : Int32))
    else
      gd (ck x3 8) <|
      gd (ck x3 8) <|
      bd (fX12_child fu a na x2 (S.1 68 (x3).toNatClampNeg) (S.1 69 (x3).toNatClampNeg) S) fun S_28 r_28 =>
      if 0 ≤ r_28 then
        k_9 r_28 (x3 + (-1 : Int32)) S_28
      else
        some (S_28, (x3 + (1 : Int32)))) n
theorem fX12_missing_9_s (fu : Nat) (a na : Nat) (n : Nat) (x2 : Int32) (x3 : Int32) (S : St) : fX12_missing_9 fu a na (n + 1) x2 x3 S = (
    if x3 < 0 then
      some (S, (0 : Int32))
    else
      gd (ck x3 8) <|
      gd (ck x3 8) <|
      bd (fX12_child fu a na x2 (S.1 68 (x3).toNatClampNeg) (S.1 69 (x3).toNatClampNeg) S) fun S_28 r_28 =>
      if 0 ≤ r_28 then
        (fX12_missing_9 fu a na n) r_28 (x3 + (-1 : Int32)) S_28
      else
        some (S_28, (x3 + (1 : Int32)))) := rfl
noncomputable def fX12_missing (fu : Nat) (a na : Nat) (S : St) : Option (St × Int32) :=
  fX12_missing_9 fu a na fu (0 : Int32) ((S.1 63 8) - (1 : Int32)) S
noncomputable def fX12_named_78 (fu : Nat) (a na : Nat) (k_9 : Int32 → Int32 → St → Option (St × Int32)) (x3 : Int32) (t0 : Int32) (S : St) : Option (St × Int32) :=
  k_9 t0 (x3 + (-1 : Int32)) S
noncomputable def fX12_named_50 (fu : Nat) (a na : Nat) (k_9 : Int32 → Int32 → St → Option (St × Int32)) (x2 : Int32) (x3 : Int32) (x4 : Int32) (S : St) : Option (St × Int32) :=
  if 0 ≤ x4 then
    fX12_named_78 fu a na k_9 x3 x4 S
  else
    gd (ck x3 8) <|
    gd (ck x3 8) <|
    bd (fX12_makes fu a na x2 (S.1 68 (x3).toNatClampNeg) (S.1 69 (x3).toNatClampNeg) S) fun S_70 r_70 =>
    fX12_named_78 fu a na k_9 x3 r_70 S_70
noncomputable def fX12_named_9 (fu : Nat) (a na : Nat) (n : Nat) : Int32 → Int32 → St → Option (St × Int32) :=
  Nat.rec (motive := fun _ => Int32 → Int32 → St → Option (St × Int32)) (fun _ _ _ => none) (fun _ k_9 x2 x3 S =>
    if x3 < 0 then
      some (S, x2)
    else
      gd (ck x3 8) <|
      gd (ck x3 8) <|
      bd (fX12_child fu a na x2 (S.1 68 (x3).toNatClampNeg) (S.1 69 (x3).toNatClampNeg) S) fun S_28 r_28 =>
      if 0 ≤ r_28 then
        fX12_named_50 fu a na k_9 x2 x3 r_28 S_28
      else
        if (S_28.1 63 5) = (300 : Int32) then
          some (S_28, (-1 : Int32))
        else
          fX12_named_50 fu a na k_9 x2 x3 r_28 S_28) n
theorem fX12_named_9_s (fu : Nat) (a na : Nat) (n : Nat) (x2 : Int32) (x3 : Int32) (S : St) : fX12_named_9 fu a na (n + 1) x2 x3 S = (
    if x3 < 0 then
      some (S, x2)
    else
      gd (ck x3 8) <|
      gd (ck x3 8) <|
      bd (fX12_child fu a na x2 (S.1 68 (x3).toNatClampNeg) (S.1 69 (x3).toNatClampNeg) S) fun S_28 r_28 =>
      if 0 ≤ r_28 then
        fX12_named_50 fu a na (fX12_named_9 fu a na n) x2 x3 r_28 S_28
      else
        if (S_28.1 63 5) = (300 : Int32) then
          some (S_28, (-1 : Int32))
        else
          fX12_named_50 fu a na (fX12_named_9 fu a na n) x2 x3 r_28 S_28) := rfl
noncomputable def fX12_named (fu : Nat) (a na : Nat) (S : St) : Option (St × Int32) :=
  fX12_named_9 fu a na fu (0 : Int32) ((S.1 63 8) - (1 : Int32)) S
noncomputable def fX12_feed_60 (fu : Nat) (n : Nat) : Int32 → St → Option (St × Int32) :=
  Nat.rec (motive := fun _ => Int32 → St → Option (St × Int32)) (fun _ _ => none) (fun _ k_60 x6 S =>
    if (20 : Int32) ≤ x6 then
      sI 63 10 ((S.1 63 10) + (20 : Int32)) S fun S_114 =>
      some (S_114, (S_114.1 63 10))
    else
      gd (ck (x6 / (4 : Int32)) 5) <|
      gd (ck ((S.1 63 10) + x6) 1040) <|
      sI 70 (((S.1 63 10) + x6)).toNatClampNeg (vp_nar .byte (((S.1 71 ((x6 / (4 : Int32))).toNatClampNeg) >>> (((24 : Int32) - ((8 : Int32) * (x6 - x6 / (4 : Int32) * (4 : Int32)))) &&& 31))).toInt8.toInt32) S fun S_99 =>
      k_60 (x6 + (1 : Int32)) S_99) n
theorem fX12_feed_60_s (fu : Nat) (n : Nat) (x6 : Int32) (S : St) : fX12_feed_60 fu (n + 1) x6 S = (
    if (20 : Int32) ≤ x6 then
      sI 63 10 ((S.1 63 10) + (20 : Int32)) S fun S_114 =>
      some (S_114, (S_114.1 63 10))
    else
      gd (ck (x6 / (4 : Int32)) 5) <|
      gd (ck ((S.1 63 10) + x6) 1040) <|
      sI 70 (((S.1 63 10) + x6)).toNatClampNeg (vp_nar .byte (((S.1 71 ((x6 / (4 : Int32))).toNatClampNeg) >>> (((24 : Int32) - ((8 : Int32) * (x6 - x6 / (4 : Int32) * (4 : Int32)))) &&& 31))).toInt8.toInt32) S fun S_99 =>
      (fX12_feed_60 fu n) (x6 + (1 : Int32)) S_99) := rfl
noncomputable def fX12_feed (fu : Nat) (x1 : Int32) (x2 : Int32) (x3 : Int32) (x4 : Int32) (x5 : Int32) (S : St) : Option (St × Int32) :=
  sI 63 0 (0 : Int32) S fun S_2 =>
  if ((S_2.1 63 10) + (20 : Int32)) ≤ (1000 : Int32) then
    gd (ck (0 : Int32) 5) <|
    sI 71 ((0 : Int32)).toNatClampNeg x1 S_2 fun S_26 =>
    gd (ck (1 : Int32) 5) <|
    sI 71 ((1 : Int32)).toNatClampNeg x2 S_26 fun S_33 =>
    gd (ck (2 : Int32) 5) <|
    sI 71 ((2 : Int32)).toNatClampNeg x3 S_33 fun S_40 =>
    gd (ck (3 : Int32) 5) <|
    sI 71 ((3 : Int32)).toNatClampNeg x4 S_40 fun S_48 =>
    gd (ck (4 : Int32) 5) <|
    sI 71 ((4 : Int32)).toNatClampNeg x5 S_48 fun S_56 =>
    fX12_feed_60 fu fu (0 : Int32) S_56
  else
    some (S_2, (-1 : Int32))
noncomputable def fX12_end (fu : Nat) (x1 : Int32) (S : St) : Option (St × Int32) :=
  sI 63 0 (0 : Int32) S fun S_2 =>
  if x1 < 0 then
    some (S_2, (0 : Int32))
  else
    if x1 ≤ (S_2.1 63 10) then
      sI 63 10 x1 S_2 fun S_21 =>
      some (S_21, (1 : Int32))
    else
      some (S_2, (0 : Int32))
noncomputable def fX12_turn (fu : Nat) (x1 : Int32) (x2 : Int32) (S : St) : Option (St × Int32) :=
  sI 63 0 (0 : Int32) S fun S_2 =>
  if x1 < 0 then
    some (S_2, (0 : Int32))
  else
    if x1 < (S_2.1 63 10) then
      gd (ck x1 1040) <|
      sI 70 (x1).toNatClampNeg (vp_nar .byte (x2).toInt8.toInt32) S_2 fun S_26 =>
      some (S_26, (1 : Int32))
    else
      some (S_2, (0 : Int32))
noncomputable def fX12_used (fu : Nat) (S : St) : Option (St × Int32) :=
  sI 63 0 (0 : Int32) S fun S_2 =>
  sI 63 10 (0 : Int32) S_2 fun S_12 =>
  some (S_12, (S_2.1 63 10))
noncomputable def fX12_isText_122 (fu : Nat) (k_27 : Int32 → Int32 → Int32 → St → Option (St × Int32)) (x1 : Int32) (x2 : Int32) (x3 : Int32) (S : St) : Option (St × Int32) :=
  k_27 x1 x2 (x3 + (1 : Int32)) S
noncomputable def fX12_isText_62 (fu : Nat) (k_27 : Int32 → Int32 → Int32 → St → Option (St × Int32)) (x1 : Int32) (x2 : Int32) (x3 : Int32) (S : St) : Option (St × Int32) :=
  if x3 = x2 then
    some (S, (0 : Int32))
  else
    if (10 : Int32) < (x3 - x2) then
      some (S, (0 : Int32))
    else
      if (S.1 63 8) = (6 : Int32) then
        some (S, (0 : Int32))
      else
        gd (ck (S.1 63 8) 8) <|
        sI 68 ((S.1 63 8)).toNatClampNeg x2 S fun S_95 =>
        gd (ck (S_95.1 63 8) 8) <|
        sI 69 ((S_95.1 63 8)).toNatClampNeg (x3 - x2) S_95 fun S_107 =>
        sI 63 8 ((S_107.1 63 8) + (1 : Int32)) S_107 fun S_115 =>
        fX12_isText_122 fu k_27 x1 (x3 + (1 : Int32)) x3 S_115
noncomputable def fX12_isText_27 (fu : Nat) (n : Nat) : Int32 → Int32 → Int32 → St → Option (St × Int32) :=
  Nat.rec (motive := fun _ => Int32 → Int32 → Int32 → St → Option (St × Int32)) (fun _ _ _ _ => none) (fun _ k_27 x1 x2 x3 S =>
    if x1 < x3 then
      some (S, (1 : Int32))
    else
      if x1 ≤ x3 then
        fX12_isText_62 fu k_27 x1 x2 x3 S
      else
        gd (ck x3 1040) <|
        if (S.1 70 (x3).toNatClampNeg) = (46 : Int32) then
          fX12_isText_62 fu k_27 x1 x2 x3 S
        else
          gd (ck x3 1040) <|
          bd (fX12_isLetter fu (S.1 70 (x3).toNatClampNeg) S) fun S_54 r_54 =>
          if r_54 = 0 then
            some (S_54, (0 : Int32))
          else
            fX12_isText_122 fu k_27 x1 x2 x3 S_54) n
theorem fX12_isText_27_s (fu : Nat) (n : Nat) (x1 : Int32) (x2 : Int32) (x3 : Int32) (S : St) : fX12_isText_27 fu (n + 1) x1 x2 x3 S = (
    if x1 < x3 then
      some (S, (1 : Int32))
    else
      if x1 ≤ x3 then
        fX12_isText_62 fu (fX12_isText_27 fu n) x1 x2 x3 S
      else
        gd (ck x3 1040) <|
        if (S.1 70 (x3).toNatClampNeg) = (46 : Int32) then
          fX12_isText_62 fu (fX12_isText_27 fu n) x1 x2 x3 S
        else
          gd (ck x3 1040) <|
          bd (fX12_isLetter fu (S.1 70 (x3).toNatClampNeg) S) fun S_54 r_54 =>
          if r_54 = 0 then
            some (S_54, (0 : Int32))
          else
            fX12_isText_122 fu (fX12_isText_27 fu n) x1 x2 x3 S_54) := rfl
noncomputable def fX12_isText_23 (fu : Nat) (x1 : Int32) (S : St) : Option (St × Int32) :=
  fX12_isText_27 fu fu x1 (0 : Int32) (0 : Int32) S
noncomputable def fX12_isText (fu : Nat) (x1 : Int32) (S : St) : Option (St × Int32) :=
  sI 63 8 (0 : Int32) S fun S_2 =>
  if x1 = (1 : Int32) then
    gd (ck (0 : Int32) 1040) <|
    if (S_2.1 70 ((0 : Int32)).toNatClampNeg) = (46 : Int32) then
      some (S_2, (1 : Int32))
    else
      fX12_isText_23 fu x1 S_2
  else
    fX12_isText_23 fu x1 S_2
noncomputable def fX12_name_51 (fu : Nat) (t0 : Int32) (S : St) : Option (St × Int32) :=
  bd (fX12_throwsIf fu t0 (2 : Int32) S) fun S_52 r_52 =>
  if r_52 = 0 then
    bd (fX12_named fu 70 1040 S_52) fun S_65 r_65 =>
    some (S_65, r_65)
  else
    some (S_52, (0 : Int32))
noncomputable def fX12_name_19 (fu : Nat) (t0 : Int32) (S : St) : Option (St × Int32) :=
  bd (fX12_throwsIf fu t0 (1 : Int32) S) fun S_20 r_20 =>
  if r_20 = 0 then
    bd (fX12_missing fu 70 1040 S_20) fun S_36 r_36 =>
    if ((S_20.1 63 5) + r_36) ≤ (300 : Int32) then
      fX12_name_51 fu (0 : Int32) S_36
    else
      fX12_name_51 fu (1 : Int32) S_36
  else
    some (S_20, (0 : Int32))
noncomputable def fX12_name (fu : Nat) (S : St) : Option (St × Int32) :=
  bd (fX12_used fu S) fun S_1 r_1 =>
  bd (fX12_isText fu r_1 S_1) fun S_8 r_8 =>
  if r_8 = 0 then
    fX12_name_19 fu (1 : Int32) S_8
  else
    fX12_name_19 fu (0 : Int32) S_8
noncomputable def fX12_textSize_10 (fu : Nat) (n : Nat) : Int32 → Int32 → St → Option (St × Int32) :=
  Nat.rec (motive := fun _ => Int32 → Int32 → St → Option (St × Int32)) (fun _ _ _ => none) (fun _ k_10 x2 x3 S =>
    if x3 ≤ 0 then
      some (S, x2)
    else
      gd (ck x3 300) <|
      gd (ck x3 300) <|
      k_10 (x2 + ((1 : Int32) + (S.1 66 (x3).toNatClampNeg))) (S.1 64 (x3).toNatClampNeg) S) n
theorem fX12_textSize_10_s (fu : Nat) (n : Nat) (x2 : Int32) (x3 : Int32) (S : St) : fX12_textSize_10 fu (n + 1) x2 x3 S = (
    if x3 ≤ 0 then
      some (S, x2)
    else
      gd (ck x3 300) <|
      gd (ck x3 300) <|
      (fX12_textSize_10 fu n) (x2 + ((1 : Int32) + (S.1 66 (x3).toNatClampNeg))) (S.1 64 (x3).toNatClampNeg) S) := rfl
noncomputable def fX12_textSize (fu : Nat) (x1 : Int32) (S : St) : Option (St × Int32) :=
  if x1 = 0 then
    some (S, (1 : Int32))
  else
    fX12_textSize_10 fu fu (-1 : Int32) x1 S
noncomputable def fX12_look (fu : Nat) (x1 : Int32) (x2 : Int32) (S : St) : Option (St × Int32) :=
  sI 63 0 (0 : Int32) S fun S_2 =>
  bd (fX12_noName fu x1 S_2) fun S_8 r_8 =>
  bd (fX12_throwsIf fu r_8 (1 : Int32) S_8) fun S_12 r_12 =>
  if r_12 = 0 then
    if x2 = (0 : Int32) then
      gd (ck x1 300) <|
      some (S_12, (S_12.1 67 (x1).toNatClampNeg))
    else
    if x2 = (1 : Int32) then
      gd (ck x1 300) <|
      some (S_12, (S_12.1 64 (x1).toNatClampNeg))
    else
    if x2 = (2 : Int32) then
      bd (fX12_textSize fu x1 S_12) fun S_64 r_64 =>
      some (S_64, r_64)
    else
      sI 63 0 (2 : Int32) S_12 fun S_70 =>
      some (S_70, (0 : Int32))
  else
    some (S_12, (0 : Int32))
noncomputable def fX12_text_47 (fu : Nat) (n : Nat) : Int32 → Int32 → St → Option (St × Int32) :=
  Nat.rec (motive := fun _ => Int32 → Int32 → St → Option (St × Int32)) (fun _ _ _ => none) (fun _ k_47 x3 x4 S =>
    if x4 ≤ 0 then
      some (S, (-1 : Int32))
    else
      gd (ck x4 300) <|
      if (S.1 66 (x4).toNatClampNeg) ≤ x3 then
        gd (ck x4 300) <|
        if x3 = (S.1 66 (x4).toNatClampNeg) then
          some (S, (46 : Int32))
        else
          gd (ck x4 300) <|
          gd (ck x4 300) <|
          k_47 (x3 - ((S.1 66 (x4).toNatClampNeg) + (1 : Int32))) (S.1 64 (x4).toNatClampNeg) S
      else
        gd (ck (((10 : Int32) * x4) + x3) 3000) <|
        some (S, (S.1 65 ((((10 : Int32) * x4) + x3)).toNatClampNeg))) n
theorem fX12_text_47_s (fu : Nat) (n : Nat) (x3 : Int32) (x4 : Int32) (S : St) : fX12_text_47 fu (n + 1) x3 x4 S = (
    if x4 ≤ 0 then
      some (S, (-1 : Int32))
    else
      gd (ck x4 300) <|
      if (S.1 66 (x4).toNatClampNeg) ≤ x3 then
        gd (ck x4 300) <|
        if x3 = (S.1 66 (x4).toNatClampNeg) then
          some (S, (46 : Int32))
        else
          gd (ck x4 300) <|
          gd (ck x4 300) <|
          (fX12_text_47 fu n) (x3 - ((S.1 66 (x4).toNatClampNeg) + (1 : Int32))) (S.1 64 (x4).toNatClampNeg) S
      else
        gd (ck (((10 : Int32) * x4) + x3) 3000) <|
        some (S, (S.1 65 ((((10 : Int32) * x4) + x3)).toNatClampNeg))) := rfl
noncomputable def fX12_text (fu : Nat) (x1 : Int32) (x2 : Int32) (S : St) : Option (St × Int32) :=
  sI 63 0 (0 : Int32) S fun S_2 =>
  bd (fX12_noName fu x1 S_2) fun S_8 r_8 =>
  bd (fX12_throwsIf fu r_8 (1 : Int32) S_8) fun S_12 r_12 =>
  if r_12 = 0 then
    if x2 < 0 then
      some (S_12, (-1 : Int32))
    else
      bd (fX12_textSize fu x1 S_12) fun S_27 r_27 =>
      if x2 < r_27 then
        if x1 = 0 then
          some (S_27, (46 : Int32))
        else
          fX12_text_47 fu fu x2 x1 S_27
      else
        some (S_27, (-1 : Int32))
  else
    some (S_12, (0 : Int32))
noncomputable def fX12_noZone_12 (fu : Nat) (S : St) : Option (St × Int32) :=
  some (S, (1 : Int32))
noncomputable def fX12_noZone (fu : Nat) (x1 : Int32) (S : St) : Option (St × Int32) :=
  if x1 < 0 then
    fX12_noZone_12 fu S
  else
    if x1 < (S.1 63 14) then
      some (S, (0 : Int32))
    else
      fX12_noZone_12 fu S
noncomputable def fX12_noServer_12 (fu : Nat) (S : St) : Option (St × Int32) :=
  some (S, (1 : Int32))
noncomputable def fX12_noServer (fu : Nat) (x1 : Int32) (S : St) : Option (St × Int32) :=
  if x1 < 0 then
    fX12_noServer_12 fu S
  else
    if x1 < (S.1 63 23) then
      some (S, (0 : Int32))
    else
      fX12_noServer_12 fu S
noncomputable def fX12_isType_21 (fu : Nat) (S : St) : Option (St × Int32) :=
  some (S, (1 : Int32))
noncomputable def fX12_isType (fu : Nat) (x0 : Int32) (S : St) : Option (St × Int32) :=
  if x0 = (1 : Int32) then
    fX12_isType_21 fu S
  else
    if x0 = (2 : Int32) then
      fX12_isType_21 fu S
    else
      if x0 = (5 : Int32) then
        fX12_isType_21 fu S
      else
        if x0 = (16 : Int32) then
          fX12_isType_21 fu S
        else
          some (S, (0 : Int32))
noncomputable def fX12_isLife (fu : Nat) (x0 : Int32) (S : St) : Option (St × Int32) :=
  if x0 < (1 : Int32) then
    some (S, (0 : Int32))
  else
    if (100000 : Int32) < x0 then
      some (S, (0 : Int32))
    else
      some (S, (1 : Int32))
noncomputable def fX12_zone_96 (fu : Nat) (x1 : Int32) (x2 : Int32) (t0 : Int32) (S : St) : Option (St × Int32) :=
  bd (fX12_throwsIf fu t0 (3 : Int32) S) fun S_97 r_97 =>
  if r_97 = 0 then
    gd (ck (S_97.1 63 14) 12) <|
    sI 72 ((S_97.1 63 14)).toNatClampNeg x1 S_97 fun S_114 =>
    gd (ck (S_114.1 63 14) 12) <|
    sI 73 ((S_114.1 63 14)).toNatClampNeg x2 S_114 fun S_124 =>
    sI 63 14 ((S_124.1 63 14) + (1 : Int32)) S_124 fun S_132 =>
    some (S_132, ((S_132.1 63 14) - (1 : Int32)))
  else
    some (S_97, (0 : Int32))
noncomputable def fX12_zone_74 (fu : Nat) (x1 : Int32) (x2 : Int32) (t0 : Int32) (S : St) : Option (St × Int32) :=
  bd (fX12_throwsIf fu t0 (2 : Int32) S) fun S_75 r_75 =>
  if r_75 = 0 then
    if (S_75.1 63 14) = (12 : Int32) then
      fX12_zone_96 fu x1 x2 (1 : Int32) S_75
    else
      fX12_zone_96 fu x1 x2 (0 : Int32) S_75
  else
    some (S_75, (0 : Int32))
noncomputable def fX12_zone_57 (fu : Nat) (k_28 : Int32 → Int32 → Int32 → Int32 → St → Option (St × Int32)) (x1 : Int32) (x2 : Int32) (x4 : Int32) (t0 : Int32) (S : St) : Option (St × Int32) :=
  k_28 x1 x2 t0 (x4 + (1 : Int32)) S
noncomputable def fX12_zone_56 (fu : Nat) (k_28 : Int32 → Int32 → Int32 → Int32 → St → Option (St × Int32)) (x1 : Int32) (x2 : Int32) (x4 : Int32) (S : St) : Option (St × Int32) :=
  fX12_zone_57 fu k_28 x1 x2 x4 (0 : Int32) S
noncomputable def fX12_zone_28 (fu : Nat) (n : Nat) : Int32 → Int32 → Int32 → Int32 → St → Option (St × Int32) :=
  Nat.rec (motive := fun _ => Int32 → Int32 → Int32 → Int32 → St → Option (St × Int32)) (fun _ _ _ _ _ => none) (fun _ k_28 x1 x2 x3 x4 S =>
    if (S.1 63 14) ≤ x4 then
      if x3 = 0 then
        fX12_zone_74 fu x1 x2 (1 : Int32) S
      else
        fX12_zone_74 fu x1 x2 (0 : Int32) S
    else
      if x3 = 0 then
        fX12_zone_56 fu k_28 x1 x2 x4 S
      else
        gd (ck x4 12) <|
        if (S.1 72 (x4).toNatClampNeg) = x1 then
          fX12_zone_56 fu k_28 x1 x2 x4 S
        else
          fX12_zone_57 fu k_28 x1 x2 x4 (1 : Int32) S) n
theorem fX12_zone_28_s (fu : Nat) (n : Nat) (x1 : Int32) (x2 : Int32) (x3 : Int32) (x4 : Int32) (S : St) : fX12_zone_28 fu (n + 1) x1 x2 x3 x4 S = (
    if (S.1 63 14) ≤ x4 then
      if x3 = 0 then
        fX12_zone_74 fu x1 x2 (1 : Int32) S
      else
        fX12_zone_74 fu x1 x2 (0 : Int32) S
    else
      if x3 = 0 then
        fX12_zone_56 fu (fX12_zone_28 fu n) x1 x2 x4 S
      else
        gd (ck x4 12) <|
        if (S.1 72 (x4).toNatClampNeg) = x1 then
          fX12_zone_56 fu (fX12_zone_28 fu n) x1 x2 x4 S
        else
          fX12_zone_57 fu (fX12_zone_28 fu n) x1 x2 x4 (1 : Int32) S) := rfl
noncomputable def fX12_zone (fu : Nat) (x1 : Int32) (x2 : Int32) (S : St) : Option (St × Int32) :=
  sI 63 0 (0 : Int32) S fun S_2 =>
  bd (fX12_noName fu x1 S_2) fun S_8 r_8 =>
  bd (fX12_throwsIf fu r_8 (1 : Int32) S_8) fun S_12 r_12 =>
  if r_12 = 0 then
    bd (fX12_isLife fu x2 S_12) fun S_21 r_21 =>
    fX12_zone_28 fu fu x1 x2 r_21 (0 : Int32) S_21
  else
    some (S_12, (0 : Int32))
noncomputable def fX12_recordsOf_28 (fu : Nat) (k_4 : Int32 → Int32 → Int32 → St → Option (St × Int32)) (x1 : Int32) (x3 : Int32) (t0 : Int32) (t1 : Int32) (S : St) : Option (St × Int32) :=
  k_4 x1 (t1 + t0) (x3 + (1 : Int32)) S
noncomputable def fX12_recordsOf_4 (fu : Nat) (n : Nat) : Int32 → Int32 → Int32 → St → Option (St × Int32) :=
  Nat.rec (motive := fun _ => Int32 → Int32 → Int32 → St → Option (St × Int32)) (fun _ _ _ _ => none) (fun _ k_4 x1 x2 x3 S =>
    if (S.1 63 20) ≤ x3 then
      some (S, x2)
    else
      gd (ck x3 150) <|
      if (S.1 74 (x3).toNatClampNeg) = x1 then
        fX12_recordsOf_28 fu k_4 x1 x3 (1 : Int32) x2 S
      else
        fX12_recordsOf_28 fu k_4 x1 x3 (0 : Int32) x2 S) n
theorem fX12_recordsOf_4_s (fu : Nat) (n : Nat) (x1 : Int32) (x2 : Int32) (x3 : Int32) (S : St) : fX12_recordsOf_4 fu (n + 1) x1 x2 x3 S = (
    if (S.1 63 20) ≤ x3 then
      some (S, x2)
    else
      gd (ck x3 150) <|
      if (S.1 74 (x3).toNatClampNeg) = x1 then
        fX12_recordsOf_28 fu (fX12_recordsOf_4 fu n) x1 x3 (1 : Int32) x2 S
      else
        fX12_recordsOf_28 fu (fX12_recordsOf_4 fu n) x1 x3 (0 : Int32) x2 S) := rfl
noncomputable def fX12_recordsOf (fu : Nat) (x1 : Int32) (S : St) : Option (St × Int32) :=
  fX12_recordsOf_4 fu fu x1 (0 : Int32) (0 : Int32) S
noncomputable def fX12_record_125 (fu : Nat) (x1 : Int32) (x2 : Int32) (x3 : Int32) (x4 : Int32) (x5 : Int32) (t0 : Int32) (S : St) : Option (St × Int32) :=
  bd (fX12_throwsIf fu t0 (3 : Int32) S) fun S_126 r_126 =>
  if r_126 = 0 then
    gd (ck (S_126.1 63 20) 150) <|
    sI 74 ((S_126.1 63 20)).toNatClampNeg x1 S_126 fun S_143 =>
    gd (ck (S_143.1 63 20) 150) <|
    sI 75 ((S_143.1 63 20)).toNatClampNeg x2 S_143 fun S_153 =>
    gd (ck (S_153.1 63 20) 150) <|
    sI 76 ((S_153.1 63 20)).toNatClampNeg x3 S_153 fun S_163 =>
    gd (ck (S_163.1 63 20) 150) <|
    sI 77 ((S_163.1 63 20)).toNatClampNeg x4 S_163 fun S_174 =>
    gd (ck (S_174.1 63 20) 150) <|
    sI 78 ((S_174.1 63 20)).toNatClampNeg x5 S_174 fun S_185 =>
    sI 63 20 ((S_185.1 63 20) + (1 : Int32)) S_185 fun S_193 =>
    bd (fX12_recordsOf fu x1 S_193) fun S_198 r_198 =>
    some (S_198, r_198)
  else
    some (S_126, (0 : Int32))
noncomputable def fX12_record_102 (fu : Nat) (x1 : Int32) (x2 : Int32) (x3 : Int32) (x4 : Int32) (x5 : Int32) (t0 : Int32) (S : St) : Option (St × Int32) :=
  bd (fX12_throwsIf fu t0 (2 : Int32) S) fun S_103 r_103 =>
  if r_103 = 0 then
    if (S_103.1 63 20) = (150 : Int32) then
      fX12_record_125 fu x1 x2 x3 x4 x5 (1 : Int32) S_103
    else
      fX12_record_125 fu x1 x2 x3 x4 x5 (0 : Int32) S_103
  else
    some (S_103, (0 : Int32))
noncomputable def fX12_record_89 (fu : Nat) (x1 : Int32) (x2 : Int32) (x3 : Int32) (x4 : Int32) (x5 : Int32) (t0 : Int32) (S : St) : Option (St × Int32) :=
  if t0 = 0 then
    fX12_record_102 fu x1 x2 x3 x4 x5 (1 : Int32) S
  else
    fX12_record_102 fu x1 x2 x3 x4 x5 (0 : Int32) S
noncomputable def fX12_record_88 (fu : Nat) (x1 : Int32) (x2 : Int32) (x3 : Int32) (x4 : Int32) (x5 : Int32) (S : St) : Option (St × Int32) :=
  fX12_record_89 fu x1 x2 x3 x4 x5 (0 : Int32) S
noncomputable def fX12_record_84 (fu : Nat) (x1 : Int32) (x2 : Int32) (x3 : Int32) (x4 : Int32) (x5 : Int32) (S : St) : Option (St × Int32) :=
  fX12_record_89 fu x1 x2 x3 x4 x5 (1 : Int32) S
noncomputable def fX12_record_75 (fu : Nat) (x1 : Int32) (x2 : Int32) (x3 : Int32) (x4 : Int32) (x5 : Int32) (S : St) : Option (St × Int32) :=
  bd (fX12_noName fu x4 S) fun S_78 r_78 =>
  if r_78 = 0 then
    fX12_record_84 fu x1 x2 x3 x4 x5 S_78
  else
    fX12_record_88 fu x1 x2 x3 x4 x5 S_78
noncomputable def fX12_record_27 (fu : Nat) (x1 : Int32) (x2 : Int32) (x3 : Int32) (x4 : Int32) (x5 : Int32) (t0 : Int32) (S : St) : Option (St × Int32) :=
  bd (fX12_throwsIf fu t0 (1 : Int32) S) fun S_28 r_28 =>
  if r_28 = 0 then
    gd (ck x1 12) <|
    bd (fX12_isIn fu x2 (S_28.1 72 (x1).toNatClampNeg) S_28) fun S_44 r_44 =>
    if r_44 = 0 then
      fX12_record_88 fu x1 x2 x3 x4 x5 S_44
    else
      bd (fX12_isType fu x3 S_44) fun S_51 r_51 =>
      if r_51 = 0 then
        fX12_record_88 fu x1 x2 x3 x4 x5 S_51
      else
        bd (fX12_isLife fu x5 S_51) fun S_59 r_59 =>
        if r_59 = 0 then
          fX12_record_88 fu x1 x2 x3 x4 x5 S_59
        else
          if x3 = (2 : Int32) then
            fX12_record_75 fu x1 x2 x3 x4 x5 S_59
          else
            if x3 = (5 : Int32) then
              fX12_record_75 fu x1 x2 x3 x4 x5 S_59
            else
              fX12_record_84 fu x1 x2 x3 x4 x5 S_59
  else
    some (S_28, (0 : Int32))
noncomputable def fX12_record_22 (fu : Nat) (x1 : Int32) (x2 : Int32) (x3 : Int32) (x4 : Int32) (x5 : Int32) (S : St) : Option (St × Int32) :=
  fX12_record_27 fu x1 x2 x3 x4 x5 (1 : Int32) S
noncomputable def fX12_record (fu : Nat) (x1 : Int32) (x2 : Int32) (x3 : Int32) (x4 : Int32) (x5 : Int32) (S : St) : Option (St × Int32) :=
  sI 63 0 (0 : Int32) S fun S_2 =>
  bd (fX12_noZone fu x1 S_2) fun S_8 r_8 =>
  if r_8 = 0 then
    bd (fX12_noName fu x2 S_8) fun S_16 r_16 =>
    if r_16 = 0 then
      fX12_record_27 fu x1 x2 x3 x4 x5 (0 : Int32) S_16
    else
      fX12_record_22 fu x1 x2 x3 x4 x5 S_16
  else
    fX12_record_22 fu x1 x2 x3 x4 x5 S_8
noncomputable def fX12_drop_160 (fu : Nat) (k_42 : Int32 → Int32 → Int32 → Int32 → Int32 → St → Option (St × Int32)) (x1 : Int32) (x2 : Int32) (x3 : Int32) (x4 : Int32) (x5 : Int32) (S : St) : Option (St × Int32) :=
  k_42 x1 x2 x3 x4 (x5 + (1 : Int32)) S
noncomputable def fX12_drop_87 (fu : Nat) (k_42 : Int32 → Int32 → Int32 → Int32 → Int32 → St → Option (St × Int32)) (x1 : Int32) (x2 : Int32) (x3 : Int32) (x4 : Int32) (x5 : Int32) (S : St) : Option (St × Int32) :=
  gd (ck x5 150) <|
  gd (ck x4 150) <|
  sI 74 (x4).toNatClampNeg (S.1 74 (x5).toNatClampNeg) S fun S_100 =>
  gd (ck x5 150) <|
  gd (ck x4 150) <|
  sI 75 (x4).toNatClampNeg (S_100.1 75 (x5).toNatClampNeg) S_100 fun S_114 =>
  gd (ck x5 150) <|
  gd (ck x4 150) <|
  sI 76 (x4).toNatClampNeg (S_114.1 76 (x5).toNatClampNeg) S_114 fun S_128 =>
  gd (ck x5 150) <|
  gd (ck x4 150) <|
  sI 77 (x4).toNatClampNeg (S_128.1 77 (x5).toNatClampNeg) S_128 fun S_142 =>
  gd (ck x5 150) <|
  gd (ck x4 150) <|
  sI 78 (x4).toNatClampNeg (S_142.1 78 (x5).toNatClampNeg) S_142 fun S_156 =>
  fX12_drop_160 fu k_42 x1 x2 x3 (x4 + (1 : Int32)) x5 S_156
noncomputable def fX12_drop_42 (fu : Nat) (n : Nat) : Int32 → Int32 → Int32 → Int32 → Int32 → St → Option (St × Int32) :=
  Nat.rec (motive := fun _ => Int32 → Int32 → Int32 → Int32 → Int32 → St → Option (St × Int32)) (fun _ _ _ _ _ _ => none) (fun _ k_42 x1 x2 x3 x4 x5 S =>
    if (S.1 63 20) ≤ x5 then
      sI 63 20 x4 S fun S_178 =>
      some (S_178, ((S.1 63 20) - x4))
    else
      gd (ck x5 150) <|
      if (S.1 74 (x5).toNatClampNeg) = x1 then
        gd (ck x5 150) <|
        if (S.1 75 (x5).toNatClampNeg) = x2 then
          gd (ck x5 150) <|
          if (S.1 76 (x5).toNatClampNeg) = x3 then
            fX12_drop_160 fu k_42 x1 x2 x3 x4 x5 S
          else
            fX12_drop_87 fu k_42 x1 x2 x3 x4 x5 S
        else
          fX12_drop_87 fu k_42 x1 x2 x3 x4 x5 S
      else
        fX12_drop_87 fu k_42 x1 x2 x3 x4 x5 S) n
theorem fX12_drop_42_s (fu : Nat) (n : Nat) (x1 : Int32) (x2 : Int32) (x3 : Int32) (x4 : Int32) (x5 : Int32) (S : St) : fX12_drop_42 fu (n + 1) x1 x2 x3 x4 x5 S = (
    if (S.1 63 20) ≤ x5 then
      sI 63 20 x4 S fun S_178 =>
      some (S_178, ((S.1 63 20) - x4))
    else
      gd (ck x5 150) <|
      if (S.1 74 (x5).toNatClampNeg) = x1 then
        gd (ck x5 150) <|
        if (S.1 75 (x5).toNatClampNeg) = x2 then
          gd (ck x5 150) <|
          if (S.1 76 (x5).toNatClampNeg) = x3 then
            fX12_drop_160 fu (fX12_drop_42 fu n) x1 x2 x3 x4 x5 S
          else
            fX12_drop_87 fu (fX12_drop_42 fu n) x1 x2 x3 x4 x5 S
        else
          fX12_drop_87 fu (fX12_drop_42 fu n) x1 x2 x3 x4 x5 S
      else
        fX12_drop_87 fu (fX12_drop_42 fu n) x1 x2 x3 x4 x5 S) := rfl
noncomputable def fX12_drop_27 (fu : Nat) (x1 : Int32) (x2 : Int32) (x3 : Int32) (t0 : Int32) (S : St) : Option (St × Int32) :=
  bd (fX12_throwsIf fu t0 (1 : Int32) S) fun S_28 r_28 =>
  if r_28 = 0 then
    fX12_drop_42 fu fu x1 x2 x3 (0 : Int32) (0 : Int32) S_28
  else
    some (S_28, (0 : Int32))
noncomputable def fX12_drop_22 (fu : Nat) (x1 : Int32) (x2 : Int32) (x3 : Int32) (S : St) : Option (St × Int32) :=
  fX12_drop_27 fu x1 x2 x3 (1 : Int32) S
noncomputable def fX12_drop (fu : Nat) (x1 : Int32) (x2 : Int32) (x3 : Int32) (S : St) : Option (St × Int32) :=
  sI 63 0 (0 : Int32) S fun S_2 =>
  bd (fX12_noZone fu x1 S_2) fun S_8 r_8 =>
  if r_8 = 0 then
    bd (fX12_noName fu x2 S_8) fun S_16 r_16 =>
    if r_16 = 0 then
      fX12_drop_27 fu x1 x2 x3 (0 : Int32) S_16
    else
      fX12_drop_22 fu x1 x2 x3 S_16
  else
    fX12_drop_22 fu x1 x2 x3 S_8
noncomputable def fX12_serverOf_24 (fu : Nat) (k_4 : Int32 → Int32 → Int32 → St → Option (St × Int32)) (x1 : Int32) (x2 : Int32) (x3 : Int32) (S : St) : Option (St × Int32) :=
  k_4 x1 x2 (x3 + (1 : Int32)) S
noncomputable def fX12_serverOf_4 (fu : Nat) (n : Nat) : Int32 → Int32 → Int32 → St → Option (St × Int32) :=
  Nat.rec (motive := fun _ => Int32 → Int32 → Int32 → St → Option (St × Int32)) (fun _ _ _ _ => none) (fun _ k_4 x1 x2 x3 S =>
    if (S.1 63 23) ≤ x3 then
      some (S, x2)
    else
      gd (ck x3 12) <|
      if (S.1 79 (x3).toNatClampNeg) = x1 then
        fX12_serverOf_24 fu k_4 x1 x3 x3 S
      else
        fX12_serverOf_24 fu k_4 x1 x2 x3 S) n
theorem fX12_serverOf_4_s (fu : Nat) (n : Nat) (x1 : Int32) (x2 : Int32) (x3 : Int32) (S : St) : fX12_serverOf_4 fu (n + 1) x1 x2 x3 S = (
    if (S.1 63 23) ≤ x3 then
      some (S, x2)
    else
      gd (ck x3 12) <|
      if (S.1 79 (x3).toNatClampNeg) = x1 then
        fX12_serverOf_24 fu (fX12_serverOf_4 fu n) x1 x3 x3 S
      else
        fX12_serverOf_24 fu (fX12_serverOf_4 fu n) x1 x2 x3 S) := rfl
noncomputable def fX12_serverOf (fu : Nat) (x1 : Int32) (S : St) : Option (St × Int32) :=
  fX12_serverOf_4 fu fu x1 (-1 : Int32) (0 : Int32) S
noncomputable def fX12_server_41 (fu : Nat) (x1 : Int32) (t0 : Int32) (S : St) : Option (St × Int32) :=
  bd (fX12_throwsIf fu t0 (2 : Int32) S) fun S_42 r_42 =>
  if r_42 = 0 then
    gd (ck (S_42.1 63 23) 12) <|
    sI 79 ((S_42.1 63 23)).toNatClampNeg x1 S_42 fun S_59 =>
    sI 63 23 ((S_59.1 63 23) + (1 : Int32)) S_59 fun S_67 =>
    some (S_67, ((S_67.1 63 23) - (1 : Int32)))
  else
    some (S_42, (0 : Int32))
noncomputable def fX12_server_19 (fu : Nat) (x1 : Int32) (t0 : Int32) (S : St) : Option (St × Int32) :=
  bd (fX12_throwsIf fu t0 (1 : Int32) S) fun S_20 r_20 =>
  if r_20 = 0 then
    if (S_20.1 63 23) = (12 : Int32) then
      fX12_server_41 fu x1 (1 : Int32) S_20
    else
      fX12_server_41 fu x1 (0 : Int32) S_20
  else
    some (S_20, (0 : Int32))
noncomputable def fX12_server (fu : Nat) (x1 : Int32) (S : St) : Option (St × Int32) :=
  sI 63 0 (0 : Int32) S fun S_2 =>
  bd (fX12_serverOf fu x1 S_2) fun S_8 r_8 =>
  if r_8 < 0 then
    fX12_server_19 fu x1 (0 : Int32) S_8
  else
    fX12_server_19 fu x1 (1 : Int32) S_8
noncomputable def fX12_serve_27 (fu : Nat) (x1 : Int32) (x2 : Int32) (x3 : Int32) (t0 : Int32) (S : St) : Option (St × Int32) :=
  bd (fX12_throwsIf fu t0 (1 : Int32) S) fun S_28 r_28 =>
  if r_28 = 0 then
    gd (ck (((12 : Int32) * x1) + x2) 144) <|
    gd (ck (((12 : Int32) * x1) + x2) 144) <|
    sI 80 ((((12 : Int32) * x1) + x2)).toNatClampNeg (vp_nar .boolean x3) S_28 fun S_60 =>
    if (S_28.1 80 ((((12 : Int32) * x1) + x2)).toNatClampNeg) = x3 then
      some (S_60, (0 : Int32))
    else
      some (S_60, (1 : Int32))
  else
    some (S_28, (0 : Int32))
noncomputable def fX12_serve_22 (fu : Nat) (x1 : Int32) (x2 : Int32) (x3 : Int32) (S : St) : Option (St × Int32) :=
  fX12_serve_27 fu x1 x2 x3 (1 : Int32) S
noncomputable def fX12_serve (fu : Nat) (x1 : Int32) (x2 : Int32) (x3 : Int32) (S : St) : Option (St × Int32) :=
  sI 63 0 (0 : Int32) S fun S_2 =>
  bd (fX12_noServer fu x1 S_2) fun S_8 r_8 =>
  if r_8 = 0 then
    bd (fX12_noZone fu x2 S_8) fun S_16 r_16 =>
    if r_16 = 0 then
      fX12_serve_27 fu x1 x2 x3 (0 : Int32) S_16
    else
      fX12_serve_22 fu x1 x2 x3 S_16
  else
    fX12_serve_22 fu x1 x2 x3 S_8
noncomputable def fX12_hint (fu : Nat) (x1 : Int32) (S : St) : Option (St × Int32) :=
  sI 63 0 (0 : Int32) S fun S_2 =>
  if (S_2.1 63 25) = (4 : Int32) then
    some (S_2, (-1 : Int32))
  else
    gd (ck (S_2.1 63 25) 4) <|
    sI 81 ((S_2.1 63 25)).toNatClampNeg x1 S_2 fun S_24 =>
    sI 63 25 ((S_24.1 63 25) + (1 : Int32)) S_24 fun S_32 =>
    some (S_32, (S_32.1 63 25))
noncomputable def fX12_put_21 (fu : Nat) (S : St) : Option (St × Int32) :=
  sI 63 27 ((S.1 63 27) + (1 : Int32)) S fun S_28 =>
  some (S_28, (0 : Int32))
noncomputable def fX12_put (fu : Nat) (x1 : Int32) (S : St) : Option (St × Int32) :=
  if (1000 : Int32) ≤ (S.1 63 27) then
    fX12_put_21 fu S
  else
    gd (ck (S.1 63 27) 1000) <|
    sI 82 ((S.1 63 27)).toNatClampNeg (vp_nar .byte (x1).toInt8.toInt32) S fun S_20 =>
    fX12_put_21 fu S_20
noncomputable def fX12_put2 (fu : Nat) (x1 : Int32) (S : St) : Option (St × Int32) :=
  bd (fX12_put fu (x1 >>> ((8 : Int32) &&& 31)) S) fun S_5 _ =>
  bd (fX12_put fu x1 S_5) fun S_10 _ =>
  some (S_10, (0 : Int32))
noncomputable def fX12_put4 (fu : Nat) (x1 : Int32) (S : St) : Option (St × Int32) :=
  bd (fX12_put2 fu (x1 >>> ((16 : Int32) &&& 31)) S) fun S_5 _ =>
  bd (fX12_put2 fu x1 S_5) fun S_10 _ =>
  some (S_10, (0 : Int32))
noncomputable def fX12_putName_79 (fu : Nat) (x2 : Int32) (S : St) : Option (St × Int32) :=
  if x2 = 0 then
    bd (fX12_put fu (0 : Int32) S) fun S_85 _ =>
    some (S_85, (0 : Int32))
  else
    gd (ck x2 300) <|
    bd (fX12_put2 fu ((49152 : Int32) ||| (S.1 83 (x2).toNatClampNeg)) S) fun S_101 _ =>
    some (S_101, (0 : Int32))
noncomputable def fX12_putName_38 (fu : Nat) (k_2 : Int32 → St → Option (St × Int32)) (n : Nat) : Int32 → Int32 → St → Option (St × Int32) :=
  Nat.rec (motive := fun _ => Int32 → Int32 → St → Option (St × Int32)) (fun _ _ _ => none) (fun _ k_38 x2 x3 S =>
    gd (ck x2 300) <|
    if (S.1 66 (x2).toNatClampNeg) ≤ x3 then
      gd (ck x2 300) <|
      k_2 (S.1 64 (x2).toNatClampNeg) S
    else
      gd (ck (((10 : Int32) * x2) + x3) 3000) <|
      bd (fX12_put fu (S.1 65 ((((10 : Int32) * x2) + x3)).toNatClampNeg) S) fun S_60 _ =>
      k_38 x2 (x3 + (1 : Int32)) S_60) n
theorem fX12_putName_38_s (fu : Nat) (k_2 : Int32 → St → Option (St × Int32)) (n : Nat) (x2 : Int32) (x3 : Int32) (S : St) : fX12_putName_38 fu k_2 (n + 1) x2 x3 S = (
    gd (ck x2 300) <|
    if (S.1 66 (x2).toNatClampNeg) ≤ x3 then
      gd (ck x2 300) <|
      k_2 (S.1 64 (x2).toNatClampNeg) S
    else
      gd (ck (((10 : Int32) * x2) + x3) 3000) <|
      bd (fX12_put fu (S.1 65 ((((10 : Int32) * x2) + x3)).toNatClampNeg) S) fun S_60 _ =>
      (fX12_putName_38 fu k_2 n) x2 (x3 + (1 : Int32)) S_60) := rfl
noncomputable def fX12_putName_2 (fu : Nat) (n : Nat) : Int32 → St → Option (St × Int32) :=
  Nat.rec (motive := fun _ => Int32 → St → Option (St × Int32)) (fun _ _ => none) (fun _ k_2 x2 S =>
    if x2 ≤ 0 then
      fX12_putName_79 fu x2 S
    else
      gd (ck x2 300) <|
      if (S.1 83 (x2).toNatClampNeg) = (-1 : Int32) then
        gd (ck x2 300) <|
        sI 83 (x2).toNatClampNeg (S.1 63 27) S fun S_25 =>
        gd (ck x2 300) <|
        bd (fX12_put fu (S_25.1 66 (x2).toNatClampNeg) S_25) fun S_33 _ =>
        fX12_putName_38 fu k_2 fu x2 (0 : Int32) S_33
      else
        fX12_putName_79 fu x2 S) n
theorem fX12_putName_2_s (fu : Nat) (n : Nat) (x2 : Int32) (S : St) : fX12_putName_2 fu (n + 1) x2 S = (
    if x2 ≤ 0 then
      fX12_putName_79 fu x2 S
    else
      gd (ck x2 300) <|
      if (S.1 83 (x2).toNatClampNeg) = (-1 : Int32) then
        gd (ck x2 300) <|
        sI 83 (x2).toNatClampNeg (S.1 63 27) S fun S_25 =>
        gd (ck x2 300) <|
        bd (fX12_put fu (S_25.1 66 (x2).toNatClampNeg) S_25) fun S_33 _ =>
        fX12_putName_38 fu (fX12_putName_2 fu n) fu x2 (0 : Int32) S_33
      else
        fX12_putName_79 fu x2 S) := rfl
noncomputable def fX12_putName (fu : Nat) (x1 : Int32) (S : St) : Option (St × Int32) :=
  fX12_putName_2 fu fu x1 S
noncomputable def fX12_putHead (fu : Nat) (x1 : Int32) (x2 : Int32) (x3 : Int32) (S : St) : Option (St × Int32) :=
  bd (fX12_putName fu x1 S) fun S_2 _ =>
  bd (fX12_put2 fu x2 S_2) fun S_7 _ =>
  bd (fX12_put2 fu (1 : Int32) S_7) fun S_12 _ =>
  bd (fX12_put4 fu x3 S_12) fun S_17 _ =>
  some (S_17, (0 : Int32))
noncomputable def fX12_putRecord_91 (fu : Nat) (x2 : Int32) (S : St) : Option (St × Int32) :=
  if (1000 : Int32) ≤ (x2 + (1 : Int32)) then
    some (S, (0 : Int32))
  else
    gd (ck (x2 + (1 : Int32)) 1000) <|
    sI 82 ((x2 + (1 : Int32))).toNatClampNeg (vp_nar .byte ((((S.1 63 27) - x2) - (2 : Int32))).toInt8.toInt32) S fun S_118 =>
    some (S_118, (0 : Int32))
noncomputable def fX12_putRecord_52 (fu : Nat) (x1 : Int32) (x2 : Int32) (S : St) : Option (St × Int32) :=
  gd (ck x1 150) <|
  bd (fX12_putName fu (S.1 77 (x1).toNatClampNeg) S) fun S_59 _ =>
  fX12_putRecord_91 fu x2 S_59
noncomputable def fX12_putRecord_81 (fu : Nat) (x1 : Int32) (x2 : Int32) (S : St) : Option (St × Int32) :=
  gd (ck x1 150) <|
  bd (fX12_put4 fu (S.1 77 (x1).toNatClampNeg) S) fun S_88 _ =>
  fX12_putRecord_91 fu x2 S_88
noncomputable def fX12_putRecord (fu : Nat) (x1 : Int32) (S : St) : Option (St × Int32) :=
  gd (ck x1 150) <|
  gd (ck x1 150) <|
  gd (ck x1 150) <|
  bd (fX12_putHead fu (S.1 75 (x1).toNatClampNeg) (S.1 76 (x1).toNatClampNeg) (S.1 78 (x1).toNatClampNeg) S) fun S_19 _ =>
  bd (fX12_put2 fu (0 : Int32) S_19) fun S_29 _ =>
  gd (ck x1 150) <|
  if (S_29.1 76 (x1).toNatClampNeg) = (2 : Int32) then
    fX12_putRecord_52 fu x1 (S_19.1 63 27) S_29
  else
    gd (ck x1 150) <|
    if (S_29.1 76 (x1).toNatClampNeg) = (5 : Int32) then
      fX12_putRecord_52 fu x1 (S_19.1 63 27) S_29
    else
      gd (ck x1 150) <|
      if (S_29.1 76 (x1).toNatClampNeg) = (16 : Int32) then
        bd (fX12_put fu (4 : Int32) S_29) fun S_78 _ =>
        fX12_putRecord_81 fu x1 (S_19.1 63 27) S_78
      else
        fX12_putRecord_81 fu x1 (S_19.1 63 27) S_29
noncomputable def fX12_putSoa (fu : Nat) (x1 : Int32) (S : St) : Option (St × Int32) :=
  gd (ck x1 12) <|
  gd (ck x1 12) <|
  bd (fX12_putHead fu (S.1 72 (x1).toNatClampNeg) (6 : Int32) (S.1 73 (x1).toNatClampNeg) S) fun S_15 _ =>
  bd (fX12_put2 fu (22 : Int32) S_15) fun S_21 _ =>
  bd (fX12_put2 fu (0 : Int32) S_21) fun S_26 _ =>
  bd (fX12_put4 fu (1 : Int32) S_26) fun S_31 _ =>
  bd (fX12_put4 fu (0 : Int32) S_31) fun S_36 _ =>
  bd (fX12_put4 fu (0 : Int32) S_36) fun S_41 _ =>
  bd (fX12_put4 fu (0 : Int32) S_41) fun S_46 _ =>
  gd (ck x1 12) <|
  bd (fX12_put4 fu (S_46.1 73 (x1).toNatClampNeg) S_46) fun S_56 _ =>
  some (S_56, (0 : Int32))
noncomputable def fX12_zoneFor_77 (fu : Nat) (k_5 : Int32 → Int32 → Int32 → Int32 → St → Option (St × Int32)) (x1 : Int32) (x2 : Int32) (x3 : Int32) (x4 : Int32) (S : St) : Option (St × Int32) :=
  k_5 x1 x2 x3 (x4 + (1 : Int32)) S
noncomputable def fX12_zoneFor_74 (fu : Nat) (k_5 : Int32 → Int32 → Int32 → Int32 → St → Option (St × Int32)) (x1 : Int32) (x2 : Int32) (x4 : Int32) (S : St) : Option (St × Int32) :=
  fX12_zoneFor_77 fu k_5 x1 x2 x4 x4 S
noncomputable def fX12_zoneFor_5 (fu : Nat) (n : Nat) : Int32 → Int32 → Int32 → Int32 → St → Option (St × Int32) :=
  Nat.rec (motive := fun _ => Int32 → Int32 → Int32 → Int32 → St → Option (St × Int32)) (fun _ _ _ _ _ => none) (fun _ k_5 x1 x2 x3 x4 S =>
    if (S.1 63 14) ≤ x4 then
      some (S, x3)
    else
      gd (ck (((12 : Int32) * x1) + x4) 144) <|
      if (S.1 80 ((((12 : Int32) * x1) + x4)).toNatClampNeg) = 0 then
        fX12_zoneFor_77 fu k_5 x1 x2 x3 x4 S
      else
        gd (ck x4 12) <|
        bd (fX12_isIn fu x2 (S.1 72 (x4).toNatClampNeg) S) fun S_38 r_38 =>
        if r_38 = 0 then
          fX12_zoneFor_77 fu k_5 x1 x2 x3 x4 S_38
        else
          if x3 < 0 then
            fX12_zoneFor_74 fu k_5 x1 x2 x4 S_38
          else
            gd (ck x4 12) <|
            gd (ck (S_38.1 72 (x4).toNatClampNeg) 300) <|
            gd (ck x3 12) <|
            gd (ck (S_38.1 72 (x3).toNatClampNeg) 300) <|
            if (S_38.1 67 ((S_38.1 72 (x4).toNatClampNeg)).toNatClampNeg) ≤ (S_38.1 67 ((S_38.1 72 (x3).toNatClampNeg)).toNatClampNeg) then
              fX12_zoneFor_77 fu k_5 x1 x2 x3 x4 S_38
            else
              fX12_zoneFor_74 fu k_5 x1 x2 x4 S_38) n
theorem fX12_zoneFor_5_s (fu : Nat) (n : Nat) (x1 : Int32) (x2 : Int32) (x3 : Int32) (x4 : Int32) (S : St) : fX12_zoneFor_5 fu (n + 1) x1 x2 x3 x4 S = (
    if (S.1 63 14) ≤ x4 then
      some (S, x3)
    else
      gd (ck (((12 : Int32) * x1) + x4) 144) <|
      if (S.1 80 ((((12 : Int32) * x1) + x4)).toNatClampNeg) = 0 then
        fX12_zoneFor_77 fu (fX12_zoneFor_5 fu n) x1 x2 x3 x4 S
      else
        gd (ck x4 12) <|
        bd (fX12_isIn fu x2 (S.1 72 (x4).toNatClampNeg) S) fun S_38 r_38 =>
        if r_38 = 0 then
          fX12_zoneFor_77 fu (fX12_zoneFor_5 fu n) x1 x2 x3 x4 S_38
        else
          if x3 < 0 then
            fX12_zoneFor_74 fu (fX12_zoneFor_5 fu n) x1 x2 x4 S_38
          else
            gd (ck x4 12) <|
            gd (ck (S_38.1 72 (x4).toNatClampNeg) 300) <|
            gd (ck x3 12) <|
            gd (ck (S_38.1 72 (x3).toNatClampNeg) 300) <|
            if (S_38.1 67 ((S_38.1 72 (x4).toNatClampNeg)).toNatClampNeg) ≤ (S_38.1 67 ((S_38.1 72 (x3).toNatClampNeg)).toNatClampNeg) then
              fX12_zoneFor_77 fu (fX12_zoneFor_5 fu n) x1 x2 x3 x4 S_38
            else
              fX12_zoneFor_74 fu (fX12_zoneFor_5 fu n) x1 x2 x4 S_38) := rfl
noncomputable def fX12_zoneFor (fu : Nat) (x1 : Int32) (x2 : Int32) (S : St) : Option (St × Int32) :=
  fX12_zoneFor_5 fu fu x1 x2 (-1 : Int32) (0 : Int32) S
noncomputable def fX12_cutOf_103 (fu : Nat) (k_5 : Int32 → Int32 → Int32 → Int32 → St → Option (St × Int32)) (x1 : Int32) (x2 : Int32) (x3 : Int32) (x4 : Int32) (S : St) : Option (St × Int32) :=
  k_5 x1 x2 x3 (x4 + (1 : Int32)) S
noncomputable def fX12_cutOf_95 (fu : Nat) (k_5 : Int32 → Int32 → Int32 → Int32 → St → Option (St × Int32)) (x1 : Int32) (x2 : Int32) (x4 : Int32) (S : St) : Option (St × Int32) :=
  gd (ck x4 150) <|
  fX12_cutOf_103 fu k_5 x1 x2 (S.1 75 (x4).toNatClampNeg) x4 S
noncomputable def fX12_cutOf_5 (fu : Nat) (n : Nat) : Int32 → Int32 → Int32 → Int32 → St → Option (St × Int32) :=
  Nat.rec (motive := fun _ => Int32 → Int32 → Int32 → Int32 → St → Option (St × Int32)) (fun _ _ _ _ _ => none) (fun _ k_5 x1 x2 x3 x4 S =>
    if (S.1 63 20) ≤ x4 then
      some (S, x3)
    else
      gd (ck x4 150) <|
      if (S.1 74 (x4).toNatClampNeg) = x1 then
        gd (ck x4 150) <|
        if (S.1 76 (x4).toNatClampNeg) = (2 : Int32) then
          gd (ck x4 150) <|
          gd (ck x1 12) <|
          if (S.1 75 (x4).toNatClampNeg) = (S.1 72 (x1).toNatClampNeg) then
            fX12_cutOf_103 fu k_5 x1 x2 x3 x4 S
          else
            gd (ck x4 150) <|
            bd (fX12_isIn fu x2 (S.1 75 (x4).toNatClampNeg) S) fun S_61 r_61 =>
            if r_61 = 0 then
              fX12_cutOf_103 fu k_5 x1 x2 x3 x4 S_61
            else
              if x3 < 0 then
                fX12_cutOf_95 fu k_5 x1 x2 x4 S_61
              else
                gd (ck x4 150) <|
                gd (ck (S_61.1 75 (x4).toNatClampNeg) 300) <|
                gd (ck x3 300) <|
                if (S_61.1 67 (x3).toNatClampNeg) ≤ (S_61.1 67 ((S_61.1 75 (x4).toNatClampNeg)).toNatClampNeg) then
                  fX12_cutOf_103 fu k_5 x1 x2 x3 x4 S_61
                else
                  fX12_cutOf_95 fu k_5 x1 x2 x4 S_61
        else
          fX12_cutOf_103 fu k_5 x1 x2 x3 x4 S
      else
        fX12_cutOf_103 fu k_5 x1 x2 x3 x4 S) n
theorem fX12_cutOf_5_s (fu : Nat) (n : Nat) (x1 : Int32) (x2 : Int32) (x3 : Int32) (x4 : Int32) (S : St) : fX12_cutOf_5 fu (n + 1) x1 x2 x3 x4 S = (
    if (S.1 63 20) ≤ x4 then
      some (S, x3)
    else
      gd (ck x4 150) <|
      if (S.1 74 (x4).toNatClampNeg) = x1 then
        gd (ck x4 150) <|
        if (S.1 76 (x4).toNatClampNeg) = (2 : Int32) then
          gd (ck x4 150) <|
          gd (ck x1 12) <|
          if (S.1 75 (x4).toNatClampNeg) = (S.1 72 (x1).toNatClampNeg) then
            fX12_cutOf_103 fu (fX12_cutOf_5 fu n) x1 x2 x3 x4 S
          else
            gd (ck x4 150) <|
            bd (fX12_isIn fu x2 (S.1 75 (x4).toNatClampNeg) S) fun S_61 r_61 =>
            if r_61 = 0 then
              fX12_cutOf_103 fu (fX12_cutOf_5 fu n) x1 x2 x3 x4 S_61
            else
              if x3 < 0 then
                fX12_cutOf_95 fu (fX12_cutOf_5 fu n) x1 x2 x4 S_61
              else
                gd (ck x4 150) <|
                gd (ck (S_61.1 75 (x4).toNatClampNeg) 300) <|
                gd (ck x3 300) <|
                if (S_61.1 67 (x3).toNatClampNeg) ≤ (S_61.1 67 ((S_61.1 75 (x4).toNatClampNeg)).toNatClampNeg) then
                  fX12_cutOf_103 fu (fX12_cutOf_5 fu n) x1 x2 x3 x4 S_61
                else
                  fX12_cutOf_95 fu (fX12_cutOf_5 fu n) x1 x2 x4 S_61
        else
          fX12_cutOf_103 fu (fX12_cutOf_5 fu n) x1 x2 x3 x4 S
      else
        fX12_cutOf_103 fu (fX12_cutOf_5 fu n) x1 x2 x3 x4 S) := rfl
noncomputable def fX12_cutOf (fu : Nat) (x1 : Int32) (x2 : Int32) (S : St) : Option (St × Int32) :=
  fX12_cutOf_5 fu fu x1 x2 (-1 : Int32) (0 : Int32) S
noncomputable def fX12_hasBelow_63 (fu : Nat) (k_19 : Int32 → Int32 → Int32 → Int32 → St → Option (St × Int32)) (x1 : Int32) (x2 : Int32) (x4 : Int32) (t0 : Int32) (S : St) : Option (St × Int32) :=
  k_19 x1 x2 t0 (x4 + (1 : Int32)) S
noncomputable def fX12_hasBelow_58 (fu : Nat) (k_19 : Int32 → Int32 → Int32 → Int32 → St → Option (St × Int32)) (x1 : Int32) (x2 : Int32) (x4 : Int32) (S : St) : Option (St × Int32) :=
  fX12_hasBelow_63 fu k_19 x1 x2 x4 (1 : Int32) S
noncomputable def fX12_hasBelow_62 (fu : Nat) (k_19 : Int32 → Int32 → Int32 → Int32 → St → Option (St × Int32)) (x1 : Int32) (x2 : Int32) (x4 : Int32) (S : St) : Option (St × Int32) :=
  fX12_hasBelow_63 fu k_19 x1 x2 x4 (0 : Int32) S
noncomputable def fX12_hasBelow_19 (fu : Nat) (n : Nat) : Int32 → Int32 → Int32 → Int32 → St → Option (St × Int32) :=
  Nat.rec (motive := fun _ => Int32 → Int32 → Int32 → Int32 → St → Option (St × Int32)) (fun _ _ _ _ _ => none) (fun _ k_19 x1 x2 x3 x4 S =>
    if (S.1 63 20) ≤ x4 then
      gd (isB x3) <|
      some (S, x3)
    else
      if x3 = 0 then
        gd (ck x4 150) <|
        if (S.1 74 (x4).toNatClampNeg) = x1 then
          gd (ck x4 150) <|
          bd (fX12_isIn fu (S.1 75 (x4).toNatClampNeg) x2 S) fun S_52 r_52 =>
          if r_52 = 0 then
            fX12_hasBelow_62 fu k_19 x1 x2 x4 S_52
          else
            fX12_hasBelow_58 fu k_19 x1 x2 x4 S_52
        else
          fX12_hasBelow_62 fu k_19 x1 x2 x4 S
      else
        fX12_hasBelow_58 fu k_19 x1 x2 x4 S) n
theorem fX12_hasBelow_19_s (fu : Nat) (n : Nat) (x1 : Int32) (x2 : Int32) (x3 : Int32) (x4 : Int32) (S : St) : fX12_hasBelow_19 fu (n + 1) x1 x2 x3 x4 S = (
    if (S.1 63 20) ≤ x4 then
      gd (isB x3) <|
      some (S, x3)
    else
      if x3 = 0 then
        gd (ck x4 150) <|
        if (S.1 74 (x4).toNatClampNeg) = x1 then
          gd (ck x4 150) <|
          bd (fX12_isIn fu (S.1 75 (x4).toNatClampNeg) x2 S) fun S_52 r_52 =>
          if r_52 = 0 then
            fX12_hasBelow_62 fu (fX12_hasBelow_19 fu n) x1 x2 x4 S_52
          else
            fX12_hasBelow_58 fu (fX12_hasBelow_19 fu n) x1 x2 x4 S_52
        else
          fX12_hasBelow_62 fu (fX12_hasBelow_19 fu n) x1 x2 x4 S
      else
        fX12_hasBelow_58 fu (fX12_hasBelow_19 fu n) x1 x2 x4 S) := rfl
noncomputable def fX12_hasBelow_15 (fu : Nat) (x1 : Int32) (x2 : Int32) (t0 : Int32) (S : St) : Option (St × Int32) :=
  fX12_hasBelow_19 fu fu x1 x2 t0 (0 : Int32) S
noncomputable def fX12_hasBelow (fu : Nat) (x1 : Int32) (x2 : Int32) (S : St) : Option (St × Int32) :=
  gd (ck x1 12) <|
  if (S.1 72 (x1).toNatClampNeg) = x2 then
    fX12_hasBelow_15 fu x1 x2 (1 : Int32) S
  else
    fX12_hasBelow_15 fu x1 x2 (0 : Int32) S
noncomputable def fX12_tells_87 (fu : Nat) (k_6 : Int32 → Int32 → Int32 → Int32 → Int32 → Int32 → St → Option (St × Int32)) (x1 : Int32) (x2 : Int32) (x3 : Int32) (x4 : Int32) (x6 : Int32) (t0 : Int32) (t1 : Int32) (S : St) : Option (St × Int32) :=
  k_6 x1 x2 x3 x4 (t1 + t0) (x6 + (1 : Int32)) S
noncomputable def fX12_tells_69 (fu : Nat) (k_6 : Int32 → Int32 → Int32 → Int32 → Int32 → Int32 → St → Option (St × Int32)) (x1 : Int32) (x2 : Int32) (x3 : Int32) (x4 : Int32) (x5 : Int32) (x6 : Int32) (t0 : Int32) (t1 : Int32) (S : St) : Option (St × Int32) :=
  gd (ck t1 150) <|
  sI 84 (t1).toNatClampNeg (vp_nar .boolean t0) S fun S_69 =>
  gd (ck x6 150) <|
  if (S_69.1 84 (x6).toNatClampNeg) = 0 then
    fX12_tells_87 fu k_6 x1 x2 x3 x4 x6 (0 : Int32) x5 S_69
  else
    fX12_tells_87 fu k_6 x1 x2 x3 x4 x6 (1 : Int32) x5 S_69
noncomputable def fX12_tells_68 (fu : Nat) (k_6 : Int32 → Int32 → Int32 → Int32 → Int32 → Int32 → St → Option (St × Int32)) (x1 : Int32) (x2 : Int32) (x3 : Int32) (x4 : Int32) (x5 : Int32) (x6 : Int32) (t0 : Int32) (S : St) : Option (St × Int32) :=
  fX12_tells_69 fu k_6 x1 x2 x3 x4 x5 x6 (0 : Int32) t0 S
noncomputable def fX12_tells_64 (fu : Nat) (k_6 : Int32 → Int32 → Int32 → Int32 → Int32 → Int32 → St → Option (St × Int32)) (x1 : Int32) (x2 : Int32) (x3 : Int32) (x4 : Int32) (x5 : Int32) (x6 : Int32) (t0 : Int32) (S : St) : Option (St × Int32) :=
  fX12_tells_69 fu k_6 x1 x2 x3 x4 x5 x6 (1 : Int32) t0 S
noncomputable def fX12_tells_6 (fu : Nat) (n : Nat) : Int32 → Int32 → Int32 → Int32 → Int32 → Int32 → St → Option (St × Int32) :=
  Nat.rec (motive := fun _ => Int32 → Int32 → Int32 → Int32 → Int32 → Int32 → St → Option (St × Int32)) (fun _ _ _ _ _ _ _ => none) (fun _ k_6 x1 x2 x3 x4 x5 x6 S =>
    if (S.1 63 20) ≤ x6 then
      some (S, x5)
    else
      gd (ck x6 150) <|
      if (S.1 74 (x6).toNatClampNeg) = x1 then
        gd (ck x6 150) <|
        if (S.1 75 (x6).toNatClampNeg) = x2 then
          gd (ck x6 150) <|
          if (S.1 76 (x6).toNatClampNeg) = x3 then
            if x5 = 0 then
              fX12_tells_64 fu k_6 x1 x2 x3 x4 x5 x6 x6 S
            else
              if x4 = 0 then
                fX12_tells_64 fu k_6 x1 x2 x3 x4 x5 x6 x6 S
              else
                fX12_tells_68 fu k_6 x1 x2 x3 x4 x5 x6 x6 S
          else
            fX12_tells_68 fu k_6 x1 x2 x3 x4 x5 x6 x6 S
        else
          fX12_tells_68 fu k_6 x1 x2 x3 x4 x5 x6 x6 S
      else
        fX12_tells_68 fu k_6 x1 x2 x3 x4 x5 x6 x6 S) n
theorem fX12_tells_6_s (fu : Nat) (n : Nat) (x1 : Int32) (x2 : Int32) (x3 : Int32) (x4 : Int32) (x5 : Int32) (x6 : Int32) (S : St) : fX12_tells_6 fu (n + 1) x1 x2 x3 x4 x5 x6 S = (
    if (S.1 63 20) ≤ x6 then
      some (S, x5)
    else
      gd (ck x6 150) <|
      if (S.1 74 (x6).toNatClampNeg) = x1 then
        gd (ck x6 150) <|
        if (S.1 75 (x6).toNatClampNeg) = x2 then
          gd (ck x6 150) <|
          if (S.1 76 (x6).toNatClampNeg) = x3 then
            if x5 = 0 then
              fX12_tells_64 fu (fX12_tells_6 fu n) x1 x2 x3 x4 x5 x6 x6 S
            else
              if x4 = 0 then
                fX12_tells_64 fu (fX12_tells_6 fu n) x1 x2 x3 x4 x5 x6 x6 S
              else
                fX12_tells_68 fu (fX12_tells_6 fu n) x1 x2 x3 x4 x5 x6 x6 S
          else
            fX12_tells_68 fu (fX12_tells_6 fu n) x1 x2 x3 x4 x5 x6 x6 S
        else
          fX12_tells_68 fu (fX12_tells_6 fu n) x1 x2 x3 x4 x5 x6 x6 S
      else
        fX12_tells_68 fu (fX12_tells_6 fu n) x1 x2 x3 x4 x5 x6 x6 S) := rfl
noncomputable def fX12_tells (fu : Nat) (x1 : Int32) (x2 : Int32) (x3 : Int32) (x4 : Int32) (S : St) : Option (St × Int32) :=
  fX12_tells_6 fu fu x1 x2 x3 x4 (0 : Int32) (0 : Int32) S
noncomputable def fX12_putTold_24 (fu : Nat) (k_2 : Int32 → St → Option (St × Int32)) (x1 : Int32) (S : St) : Option (St × Int32) :=
  k_2 (x1 + (1 : Int32)) S
noncomputable def fX12_putTold_2 (fu : Nat) (n : Nat) : Int32 → St → Option (St × Int32) :=
  Nat.rec (motive := fun _ => Int32 → St → Option (St × Int32)) (fun _ _ => none) (fun _ k_2 x1 S =>
    if (S.1 63 20) ≤ x1 then
      some (S, (0 : Int32))
    else
      gd (ck x1 150) <|
      if (S.1 84 (x1).toNatClampNeg) = 0 then
        fX12_putTold_24 fu k_2 x1 S
      else
        bd (fX12_putRecord fu x1 S) fun S_21 _ =>
        fX12_putTold_24 fu k_2 x1 S_21) n
theorem fX12_putTold_2_s (fu : Nat) (n : Nat) (x1 : Int32) (S : St) : fX12_putTold_2 fu (n + 1) x1 S = (
    if (S.1 63 20) ≤ x1 then
      some (S, (0 : Int32))
    else
      gd (ck x1 150) <|
      if (S.1 84 (x1).toNatClampNeg) = 0 then
        fX12_putTold_24 fu (fX12_putTold_2 fu n) x1 S
      else
        bd (fX12_putRecord fu x1 S) fun S_21 _ =>
        fX12_putTold_24 fu (fX12_putTold_2 fu n) x1 S_21) := rfl
noncomputable def fX12_putTold (fu : Nat) (S : St) : Option (St × Int32) :=
  fX12_putTold_2 fu fu (0 : Int32) S
noncomputable def fX12_putTop_8 (fu : Nat) (n : Nat) : Int32 → Int32 → Int32 → Int32 → Int32 → Int32 → Int32 → Int32 → St → Option (St × Int32) :=
  Nat.rec (motive := fun _ => Int32 → Int32 → Int32 → Int32 → Int32 → Int32 → Int32 → Int32 → St → Option (St × Int32)) (fun _ _ _ _ _ _ _ _ _ => none) (fun _ k_8 x1 x2 x3 x4 x5 x6 x7 x8 S =>
    if (S.1 63 5) ≤ x8 then
      bd (fX12_put2 fu x1 S) fun S_33 _ =>
      bd (fX12_put2 fu ((32768 : Int32) ||| x2) S_33) fun S_41 _ =>
      bd (fX12_put2 fu (1 : Int32) S_41) fun S_46 _ =>
      bd (fX12_put2 fu x3 S_46) fun S_51 _ =>
      bd (fX12_put2 fu x4 S_51) fun S_57 _ =>
      bd (fX12_put2 fu x5 S_57) fun S_63 _ =>
      bd (fX12_putName fu x6 S_63) fun S_69 _ =>
      bd (fX12_put2 fu x7 S_69) fun S_75 _ =>
      bd (fX12_put2 fu (1 : Int32) S_75) fun S_80 _ =>
      some (S_80, (0 : Int32))
    else
      gd (ck x8 300) <|
      sI 83 (x8).toNatClampNeg (-1 : Int32) S fun S_24 =>
      k_8 x1 x2 x3 x4 x5 x6 x7 (x8 + (1 : Int32)) S_24) n
theorem fX12_putTop_8_s (fu : Nat) (n : Nat) (x1 : Int32) (x2 : Int32) (x3 : Int32) (x4 : Int32) (x5 : Int32) (x6 : Int32) (x7 : Int32) (x8 : Int32) (S : St) : fX12_putTop_8 fu (n + 1) x1 x2 x3 x4 x5 x6 x7 x8 S = (
    if (S.1 63 5) ≤ x8 then
      bd (fX12_put2 fu x1 S) fun S_33 _ =>
      bd (fX12_put2 fu ((32768 : Int32) ||| x2) S_33) fun S_41 _ =>
      bd (fX12_put2 fu (1 : Int32) S_41) fun S_46 _ =>
      bd (fX12_put2 fu x3 S_46) fun S_51 _ =>
      bd (fX12_put2 fu x4 S_51) fun S_57 _ =>
      bd (fX12_put2 fu x5 S_57) fun S_63 _ =>
      bd (fX12_putName fu x6 S_63) fun S_69 _ =>
      bd (fX12_put2 fu x7 S_69) fun S_75 _ =>
      bd (fX12_put2 fu (1 : Int32) S_75) fun S_80 _ =>
      some (S_80, (0 : Int32))
    else
      gd (ck x8 300) <|
      sI 83 (x8).toNatClampNeg (-1 : Int32) S fun S_24 =>
      (fX12_putTop_8 fu n) x1 x2 x3 x4 x5 x6 x7 (x8 + (1 : Int32)) S_24) := rfl
noncomputable def fX12_putTop (fu : Nat) (x1 : Int32) (x2 : Int32) (x3 : Int32) (x4 : Int32) (x5 : Int32) (x6 : Int32) (x7 : Int32) (S : St) : Option (St × Int32) :=
  sI 63 27 (0 : Int32) S fun S_2 =>
  fX12_putTop_8 fu fu x1 x2 x3 x4 x5 x6 x7 (0 : Int32) S_2
noncomputable def fX12_isGlue_96 (fu : Nat) (k_28 : Int32 → Int32 → Int32 → Int32 → Int32 → St → Option (St × Int32)) (x1 : Int32) (x2 : Int32) (x3 : Int32) (x5 : Int32) (t0 : Int32) (S : St) : Option (St × Int32) :=
  k_28 x1 x2 x3 t0 (x5 + (1 : Int32)) S
noncomputable def fX12_isGlue_91 (fu : Nat) (k_28 : Int32 → Int32 → Int32 → Int32 → Int32 → St → Option (St × Int32)) (x1 : Int32) (x2 : Int32) (x3 : Int32) (x5 : Int32) (S : St) : Option (St × Int32) :=
  fX12_isGlue_96 fu k_28 x1 x2 x3 x5 (1 : Int32) S
noncomputable def fX12_isGlue_95 (fu : Nat) (k_28 : Int32 → Int32 → Int32 → Int32 → Int32 → St → Option (St × Int32)) (x1 : Int32) (x2 : Int32) (x3 : Int32) (x5 : Int32) (S : St) : Option (St × Int32) :=
  fX12_isGlue_96 fu k_28 x1 x2 x3 x5 (0 : Int32) S
noncomputable def fX12_isGlue_28 (fu : Nat) (n : Nat) : Int32 → Int32 → Int32 → Int32 → Int32 → St → Option (St × Int32) :=
  Nat.rec (motive := fun _ => Int32 → Int32 → Int32 → Int32 → Int32 → St → Option (St × Int32)) (fun _ _ _ _ _ _ => none) (fun _ k_28 x1 x2 x3 x4 x5 S =>
    if (S.1 63 20) ≤ x5 then
      gd (isB x4) <|
      some (S, x4)
    else
      if x4 = 0 then
        gd (ck x5 150) <|
        if (S.1 74 (x5).toNatClampNeg) = x1 then
          gd (ck x5 150) <|
          if (S.1 75 (x5).toNatClampNeg) = x2 then
            gd (ck x5 150) <|
            if (S.1 76 (x5).toNatClampNeg) = (2 : Int32) then
              gd (ck x5 150) <|
              gd (ck x3 150) <|
              if (S.1 77 (x5).toNatClampNeg) = (S.1 75 (x3).toNatClampNeg) then
                fX12_isGlue_91 fu k_28 x1 x2 x3 x5 S
              else
                fX12_isGlue_95 fu k_28 x1 x2 x3 x5 S
            else
              fX12_isGlue_95 fu k_28 x1 x2 x3 x5 S
          else
            fX12_isGlue_95 fu k_28 x1 x2 x3 x5 S
        else
          fX12_isGlue_95 fu k_28 x1 x2 x3 x5 S
      else
        fX12_isGlue_91 fu k_28 x1 x2 x3 x5 S) n
theorem fX12_isGlue_28_s (fu : Nat) (n : Nat) (x1 : Int32) (x2 : Int32) (x3 : Int32) (x4 : Int32) (x5 : Int32) (S : St) : fX12_isGlue_28 fu (n + 1) x1 x2 x3 x4 x5 S = (
    if (S.1 63 20) ≤ x5 then
      gd (isB x4) <|
      some (S, x4)
    else
      if x4 = 0 then
        gd (ck x5 150) <|
        if (S.1 74 (x5).toNatClampNeg) = x1 then
          gd (ck x5 150) <|
          if (S.1 75 (x5).toNatClampNeg) = x2 then
            gd (ck x5 150) <|
            if (S.1 76 (x5).toNatClampNeg) = (2 : Int32) then
              gd (ck x5 150) <|
              gd (ck x3 150) <|
              if (S.1 77 (x5).toNatClampNeg) = (S.1 75 (x3).toNatClampNeg) then
                fX12_isGlue_91 fu (fX12_isGlue_28 fu n) x1 x2 x3 x5 S
              else
                fX12_isGlue_95 fu (fX12_isGlue_28 fu n) x1 x2 x3 x5 S
            else
              fX12_isGlue_95 fu (fX12_isGlue_28 fu n) x1 x2 x3 x5 S
          else
            fX12_isGlue_95 fu (fX12_isGlue_28 fu n) x1 x2 x3 x5 S
        else
          fX12_isGlue_95 fu (fX12_isGlue_28 fu n) x1 x2 x3 x5 S
      else
        fX12_isGlue_91 fu (fX12_isGlue_28 fu n) x1 x2 x3 x5 S) := rfl
noncomputable def fX12_isGlue (fu : Nat) (x1 : Int32) (x2 : Int32) (x3 : Int32) (S : St) : Option (St × Int32) :=
  gd (ck x3 150) <|
  if (S.1 74 (x3).toNatClampNeg) = x1 then
    gd (ck x3 150) <|
    if (S.1 76 (x3).toNatClampNeg) = (1 : Int32) then
      fX12_isGlue_28 fu fu x1 x2 x3 (0 : Int32) (0 : Int32) S
    else
      some (S, (0 : Int32))
  else
    some (S, (0 : Int32))
noncomputable def fX12_refers_100 (fu : Nat) (k_74 : Int32 → Int32 → Int32 → St → Option (St × Int32)) (x1 : Int32) (x2 : Int32) (x8 : Int32) (S : St) : Option (St × Int32) :=
  k_74 x1 x2 (x8 + (1 : Int32)) S
noncomputable def fX12_refers_74 (fu : Nat) (n : Nat) : Int32 → Int32 → Int32 → St → Option (St × Int32) :=
  Nat.rec (motive := fun _ => Int32 → Int32 → Int32 → St → Option (St × Int32)) (fun _ _ _ _ => none) (fun _ k_74 x1 x2 x8 S =>
    if (S.1 63 20) ≤ x8 then
      some (S, (0 : Int32))
    else
      bd (fX12_isGlue fu x1 x2 x8 S) fun S_88 r_88 =>
      if r_88 = 0 then
        fX12_refers_100 fu k_74 x1 x2 x8 S_88
      else
        bd (fX12_putRecord fu x8 S_88) fun S_97 _ =>
        fX12_refers_100 fu k_74 x1 x2 x8 S_97) n
theorem fX12_refers_74_s (fu : Nat) (n : Nat) (x1 : Int32) (x2 : Int32) (x8 : Int32) (S : St) : fX12_refers_74 fu (n + 1) x1 x2 x8 S = (
    if (S.1 63 20) ≤ x8 then
      some (S, (0 : Int32))
    else
      bd (fX12_isGlue fu x1 x2 x8 S) fun S_88 r_88 =>
      if r_88 = 0 then
        fX12_refers_100 fu (fX12_refers_74 fu n) x1 x2 x8 S_88
      else
        bd (fX12_putRecord fu x8 S_88) fun S_97 _ =>
        fX12_refers_100 fu (fX12_refers_74 fu n) x1 x2 x8 S_97) := rfl
noncomputable def fX12_refers_33 (fu : Nat) (k_6 : Int32 → Int32 → Int32 → Int32 → Int32 → Int32 → Int32 → St → Option (St × Int32)) (x1 : Int32) (x2 : Int32) (x3 : Int32) (x4 : Int32) (x5 : Int32) (x7 : Int32) (t0 : Int32) (t1 : Int32) (S : St) : Option (St × Int32) :=
  k_6 x1 x2 x3 x4 x5 (t1 + t0) (x7 + (1 : Int32)) S
noncomputable def fX12_refers_6 (fu : Nat) (n : Nat) : Int32 → Int32 → Int32 → Int32 → Int32 → Int32 → Int32 → St → Option (St × Int32) :=
  Nat.rec (motive := fun _ => Int32 → Int32 → Int32 → Int32 → Int32 → Int32 → Int32 → St → Option (St × Int32)) (fun _ _ _ _ _ _ _ _ => none) (fun _ k_6 x1 x2 x3 x4 x5 x6 x7 S =>
    if (S.1 63 20) ≤ x7 then
      bd (fX12_tells fu x1 x2 (2 : Int32) (0 : Int32) S) fun S_47 r_47 =>
      bd (fX12_putTop fu x3 (0 : Int32) (0 : Int32) r_47 x6 x4 x5 S_47) fun S_64 _ =>
      bd (fX12_putTold fu S_64) fun S_68 _ =>
      fX12_refers_74 fu fu x1 x2 (0 : Int32) S_68
    else
      bd (fX12_isGlue fu x1 x2 x7 S) fun S_22 r_22 =>
      if r_22 = 0 then
        fX12_refers_33 fu k_6 x1 x2 x3 x4 x5 x7 (0 : Int32) x6 S_22
      else
        fX12_refers_33 fu k_6 x1 x2 x3 x4 x5 x7 (1 : Int32) x6 S_22) n
theorem fX12_refers_6_s (fu : Nat) (n : Nat) (x1 : Int32) (x2 : Int32) (x3 : Int32) (x4 : Int32) (x5 : Int32) (x6 : Int32) (x7 : Int32) (S : St) : fX12_refers_6 fu (n + 1) x1 x2 x3 x4 x5 x6 x7 S = (
    if (S.1 63 20) ≤ x7 then
      bd (fX12_tells fu x1 x2 (2 : Int32) (0 : Int32) S) fun S_47 r_47 =>
      bd (fX12_putTop fu x3 (0 : Int32) (0 : Int32) r_47 x6 x4 x5 S_47) fun S_64 _ =>
      bd (fX12_putTold fu S_64) fun S_68 _ =>
      fX12_refers_74 fu fu x1 x2 (0 : Int32) S_68
    else
      bd (fX12_isGlue fu x1 x2 x7 S) fun S_22 r_22 =>
      if r_22 = 0 then
        fX12_refers_33 fu (fX12_refers_6 fu n) x1 x2 x3 x4 x5 x7 (0 : Int32) x6 S_22
      else
        fX12_refers_33 fu (fX12_refers_6 fu n) x1 x2 x3 x4 x5 x7 (1 : Int32) x6 S_22) := rfl
noncomputable def fX12_refers (fu : Nat) (x1 : Int32) (x2 : Int32) (x3 : Int32) (x4 : Int32) (x5 : Int32) (S : St) : Option (St × Int32) :=
  fX12_refers_6 fu fu x1 x2 x3 x4 x5 (0 : Int32) (0 : Int32) S
noncomputable def fX12_says_161 (fu : Nat) (S : St) : Option (St × Int32) :=
  if (S.1 63 27) ≤ (1000 : Int32) then
    some (S, (S.1 63 27))
  else
    some (S, (0 : Int32))
noncomputable def fX12_says_145 (fu : Nat) (x3 : Int32) (x4 : Int32) (x5 : Int32) (t0 : Int32) (t1 : Int32) (t2 : Int32) (S : St) : Option (St × Int32) :=
  bd (fX12_putTop fu t2 (t1 ||| t0) (0 : Int32) (1 : Int32) (0 : Int32) x3 x4 S) fun S_152 _ =>
  bd (fX12_putSoa fu x5 S_152) fun S_158 _ =>
  fX12_says_161 fu S_158
noncomputable def fX12_says_98 (fu : Nat) (x2 : Int32) (x3 : Int32) (x4 : Int32) (x5 : Int32) (x7 : Int32) (S : St) : Option (St × Int32) :=
  if x7 ≤ 0 then
    bd (fX12_hasBelow fu x5 x3 S) fun S_134 r_134 =>
    if r_134 = 0 then
      fX12_says_145 fu x3 x4 x5 (3 : Int32) (1024 : Int32) x2 S_134
    else
      fX12_says_145 fu x3 x4 x5 (0 : Int32) (1024 : Int32) x2 S_134
  else
    bd (fX12_putTop fu x2 (1024 : Int32) x7 (0 : Int32) (0 : Int32) x3 x4 S) fun S_115 _ =>
    bd (fX12_putTold fu S_115) fun S_119 _ =>
    fX12_says_161 fu S_119
noncomputable def fX12_says_79 (fu : Nat) (x2 : Int32) (x3 : Int32) (x4 : Int32) (x5 : Int32) (t0 : Int32) (S : St) : Option (St × Int32) :=
  if t0 = 0 then
    bd (fX12_tells fu x5 x3 x4 (0 : Int32) S) fun S_93 r_93 =>
    fX12_says_98 fu x2 x3 x4 x5 r_93 S_93
  else
    fX12_says_98 fu x2 x3 x4 x5 t0 S
noncomputable def fX12_says (fu : Nat) (x1 : Int32) (x2 : Int32) (x3 : Int32) (x4 : Int32) (S : St) : Option (St × Int32) :=
  bd (fX12_zoneFor fu x1 x3 S) fun S_3 r_3 =>
  if 0 ≤ r_3 then
    bd (fX12_cutOf fu r_3 x3 S_3) fun S_19 r_19 =>
    if r_19 < 0 then
      if x4 = (5 : Int32) then
        fX12_says_79 fu x2 x3 x4 r_3 (0 : Int32) S_19
      else
        bd (fX12_tells fu r_3 x3 (5 : Int32) (1 : Int32) S_19) fun S_72 r_72 =>
        fX12_says_79 fu x2 x3 x4 r_3 r_72 S_72
    else
      bd (fX12_refers fu r_3 r_19 x2 x3 x4 S_19) fun S_38 _ =>
      if (S_38.1 63 27) ≤ (1000 : Int32) then
        some (S_38, (S_38.1 63 27))
      else
        some (S_38, (0 : Int32))
  else
    some (S_3, (0 : Int32))
noncomputable def fX12_say_51 (fu : Nat) (n : Nat) : Int32 → St → Option (St × Int32) :=
  Nat.rec (motive := fun _ => Int32 → St → Option (St × Int32)) (fun _ _ => none) (fun _ k_51 x4 S =>
    if (S.1 63 10) ≤ x4 then
      some (S, (S.1 63 10))
    else
      gd (ck x4 1000) <|
      gd (ck x4 1040) <|
      sI 70 (x4).toNatClampNeg (vp_nar .byte (S.1 82 (x4).toNatClampNeg)) S fun S_73 =>
      k_51 (x4 + (1 : Int32)) S_73) n
theorem fX12_say_51_s (fu : Nat) (n : Nat) (x4 : Int32) (S : St) : fX12_say_51 fu (n + 1) x4 S = (
    if (S.1 63 10) ≤ x4 then
      some (S, (S.1 63 10))
    else
      gd (ck x4 1000) <|
      gd (ck x4 1040) <|
      sI 70 (x4).toNatClampNeg (vp_nar .byte (S.1 82 (x4).toNatClampNeg)) S fun S_73 =>
      (fX12_say_51 fu n) (x4 + (1 : Int32)) S_73) := rfl
noncomputable def fX12_say_27 (fu : Nat) (x1 : Int32) (x2 : Int32) (x3 : Int32) (t0 : Int32) (S : St) : Option (St × Int32) :=
  bd (fX12_throwsIf fu t0 (1 : Int32) S) fun S_28 r_28 =>
  if r_28 = 0 then
    bd (fX12_says fu x1 (0 : Int32) x2 x3 S_28) fun S_42 r_42 =>
    sI 63 10 r_42 S_42 fun S_45 =>
    fX12_say_51 fu fu (0 : Int32) S_45
  else
    some (S_28, (0 : Int32))
noncomputable def fX12_say_22 (fu : Nat) (x1 : Int32) (x2 : Int32) (x3 : Int32) (S : St) : Option (St × Int32) :=
  fX12_say_27 fu x1 x2 x3 (1 : Int32) S
noncomputable def fX12_say (fu : Nat) (x1 : Int32) (x2 : Int32) (x3 : Int32) (S : St) : Option (St × Int32) :=
  sI 63 0 (0 : Int32) S fun S_2 =>
  bd (fX12_noServer fu x1 S_2) fun S_8 r_8 =>
  if r_8 = 0 then
    bd (fX12_noName fu x2 S_8) fun S_16 r_16 =>
    if r_16 = 0 then
      fX12_say_27 fu x1 x2 x3 (0 : Int32) S_16
    else
      fX12_say_22 fu x1 x2 x3 S_16
  else
    fX12_say_22 fu x1 x2 x3 S_8
noncomputable def fX12_wrong (fu : Nat) (x1 : Int32) (S : St) : Option (St × Int32) :=
  sI 63 30 x1 S fun S_2 =>
  some (S_2, (-1 : Int32))
noncomputable def fX12_two (fu : Nat) (a na : Nat) (x1 : Int32) (S : St) : Option (St × Int32) :=
  gd (ck x1 na) <|
  gd (ck (x1 + (1 : Int32)) na) <|
  some (S, ((((S.1 a (x1).toNatClampNeg) &&& (255 : Int32)) <<< ((8 : Int32) &&& 31)) ||| ((S.1 a ((x1 + (1 : Int32))).toNatClampNeg) &&& (255 : Int32))))
noncomputable def fX12_four (fu : Nat) (a na : Nat) (x1 : Int32) (S : St) : Option (St × Int32) :=
  bd (fX12_two fu a na x1 S) fun S_2 r_2 =>
  bd (fX12_two fu a na (x1 + (2 : Int32)) S_2) fun S_12 r_12 =>
  some (S_12, ((r_2 <<< ((16 : Int32) &&& 31)) ||| r_12))
noncomputable def fX12_isName_153 (fu : Nat) (a na : Nat) (S : St) : Option (St × Int32) :=
  bd (fX12_wrong fu (2 : Int32) S) fun S_155 r_155 =>
  if r_155 ≤ 0 then
    some (S_155, (0 : Int32))
  else
    some (S_155, (1 : Int32))
noncomputable def fX12_isName_170 (fu : Nat) (a na : Nat) (k_14 : Int32 → Int32 → Int32 → Int32 → St → Option (St × Int32)) (n : Nat) : Int32 → Int32 → Int32 → Int32 → Int32 → Int32 → St → Option (St × Int32) :=
  Nat.rec (motive := fun _ => Int32 → Int32 → Int32 → Int32 → Int32 → Int32 → St → Option (St × Int32)) (fun _ _ _ _ _ _ _ => none) (fun _ k_170 x3 x4 x5 x6 x7 x8 S =>
    if x7 < x8 then
      gd (ck (S.1 63 8) 8) <|
      sI 68 ((S.1 63 8)).toNatClampNeg (x5 + (1 : Int32)) S fun S_245 =>
      gd (ck (S_245.1 63 8) 8) <|
      sI 69 ((S_245.1 63 8)).toNatClampNeg x7 S_245 fun S_256 =>
      sI 63 8 ((S_256.1 63 8) + (1 : Int32)) S_256 fun S_264 =>
      k_14 x3 x4 (x5 + ((1 : Int32) + x7)) x6 S_264
    else
      if (x5 + x8) < x3 then
        gd (ck (x5 + x8) na) <|
        bd (fX12_isLetter fu (S.1 a ((x5 + x8)).toNatClampNeg) S) fun S_207 r_207 =>
        if r_207 = 0 then
          bd (fX12_wrong fu (2 : Int32) S_207) fun S_215 r_215 =>
          if r_215 ≤ 0 then
            some (S_215, (0 : Int32))
          else
            some (S_215, (1 : Int32))
        else
          k_170 x3 x4 x5 x6 x7 (x8 + (1 : Int32)) S_207
      else
        bd (fX12_wrong fu (3 : Int32) S) fun S_188 r_188 =>
        if r_188 ≤ 0 then
          some (S_188, (0 : Int32))
        else
          some (S_188, (1 : Int32))) n
theorem fX12_isName_170_s (fu : Nat) (a na : Nat) (k_14 : Int32 → Int32 → Int32 → Int32 → St → Option (St × Int32)) (n : Nat) (x3 : Int32) (x4 : Int32) (x5 : Int32) (x6 : Int32) (x7 : Int32) (x8 : Int32) (S : St) : fX12_isName_170 fu a na k_14 (n + 1) x3 x4 x5 x6 x7 x8 S = (
    if x7 < x8 then
      gd (ck (S.1 63 8) 8) <|
      sI 68 ((S.1 63 8)).toNatClampNeg (x5 + (1 : Int32)) S fun S_245 =>
      gd (ck (S_245.1 63 8) 8) <|
      sI 69 ((S_245.1 63 8)).toNatClampNeg x7 S_245 fun S_256 =>
      sI 63 8 ((S_256.1 63 8) + (1 : Int32)) S_256 fun S_264 =>
      k_14 x3 x4 (x5 + ((1 : Int32) + x7)) x6 S_264
    else
      if (x5 + x8) < x3 then
        gd (ck (x5 + x8) na) <|
        bd (fX12_isLetter fu (S.1 a ((x5 + x8)).toNatClampNeg) S) fun S_207 r_207 =>
        if r_207 = 0 then
          bd (fX12_wrong fu (2 : Int32) S_207) fun S_215 r_215 =>
          if r_215 ≤ 0 then
            some (S_215, (0 : Int32))
          else
            some (S_215, (1 : Int32))
        else
          (fX12_isName_170 fu a na k_14 n) x3 x4 x5 x6 x7 (x8 + (1 : Int32)) S_207
      else
        bd (fX12_wrong fu (3 : Int32) S) fun S_188 r_188 =>
        if r_188 ≤ 0 then
          some (S_188, (0 : Int32))
        else
          some (S_188, (1 : Int32))) := rfl
noncomputable def fX12_isName_126 (fu : Nat) (a na : Nat) (k_14 : Int32 → Int32 → Int32 → Int32 → St → Option (St × Int32)) (x3 : Int32) (x6 : Int32) (x8 : Int32) (S : St) : Option (St × Int32) :=
  k_14 x3 x8 x8 x6 S
noncomputable def fX12_isName_294 (fu : Nat) (a na : Nat) (t0 : Int32) (S : St) : Option (St × Int32) :=
  sI 63 31 t0 S fun S_294 =>
  some (S_294, (1 : Int32))
noncomputable def fX12_isName_14 (fu : Nat) (a na : Nat) (n : Nat) : Int32 → Int32 → Int32 → Int32 → St → Option (St × Int32) :=
  Nat.rec (motive := fun _ => Int32 → Int32 → Int32 → Int32 → St → Option (St × Int32)) (fun _ _ _ _ _ => none) (fun _ k_14 x3 x4 x5 x6 S =>
    if x5 < x3 then
      gd (ck x5 na) <|
      if ((S.1 a (x5).toNatClampNeg) &&& (255 : Int32)) = 0 then
        if 0 ≤ x6 then
          fX12_isName_294 fu a na x6 S
        else
          fX12_isName_294 fu a na (x5 + (1 : Int32)) S
      else
        if ((S.1 a (x5).toNatClampNeg) &&& (255 : Int32)) < (192 : Int32) then
          if (10 : Int32) < ((S.1 a (x5).toNatClampNeg) &&& (255 : Int32)) then
            fX12_isName_153 fu a na S
          else
            if (S.1 63 8) = (6 : Int32) then
              fX12_isName_153 fu a na S
            else
              fX12_isName_170 fu a na k_14 fu x3 x4 x5 x6 ((S.1 a (x5).toNatClampNeg) &&& (255 : Int32)) (1 : Int32) S
        else
          if (x5 + (1 : Int32)) < x3 then
            bd (fX12_two fu a na x5 S) fun S_85 r_85 =>
            if (r_85 &&& (16383 : Int32)) < x4 then
              if 0 ≤ x6 then
                fX12_isName_126 fu a na k_14 x3 x6 (r_85 &&& (16383 : Int32)) S_85
              else
                fX12_isName_126 fu a na k_14 x3 (x5 + (2 : Int32)) (r_85 &&& (16383 : Int32)) S_85
            else
              bd (fX12_wrong fu (2 : Int32) S_85) fun S_103 r_103 =>
              if r_103 ≤ 0 then
                some (S_103, (0 : Int32))
              else
                some (S_103, (1 : Int32))
          else
            bd (fX12_wrong fu (3 : Int32) S) fun S_70 r_70 =>
            if r_70 ≤ 0 then
              some (S_70, (0 : Int32))
            else
              some (S_70, (1 : Int32))
    else
      bd (fX12_wrong fu (3 : Int32) S) fun S_22 r_22 =>
      if r_22 ≤ 0 then
        some (S_22, (0 : Int32))
      else
        some (S_22, (1 : Int32))) n
theorem fX12_isName_14_s (fu : Nat) (a na : Nat) (n : Nat) (x3 : Int32) (x4 : Int32) (x5 : Int32) (x6 : Int32) (S : St) : fX12_isName_14 fu a na (n + 1) x3 x4 x5 x6 S = (
    if x5 < x3 then
      gd (ck x5 na) <|
      if ((S.1 a (x5).toNatClampNeg) &&& (255 : Int32)) = 0 then
        if 0 ≤ x6 then
          fX12_isName_294 fu a na x6 S
        else
          fX12_isName_294 fu a na (x5 + (1 : Int32)) S
      else
        if ((S.1 a (x5).toNatClampNeg) &&& (255 : Int32)) < (192 : Int32) then
          if (10 : Int32) < ((S.1 a (x5).toNatClampNeg) &&& (255 : Int32)) then
            fX12_isName_153 fu a na S
          else
            if (S.1 63 8) = (6 : Int32) then
              fX12_isName_153 fu a na S
            else
              fX12_isName_170 fu a na (fX12_isName_14 fu a na n) fu x3 x4 x5 x6 ((S.1 a (x5).toNatClampNeg) &&& (255 : Int32)) (1 : Int32) S
        else
          if (x5 + (1 : Int32)) < x3 then
            bd (fX12_two fu a na x5 S) fun S_85 r_85 =>
            if (r_85 &&& (16383 : Int32)) < x4 then
              if 0 ≤ x6 then
                fX12_isName_126 fu a na (fX12_isName_14 fu a na n) x3 x6 (r_85 &&& (16383 : Int32)) S_85
              else
                fX12_isName_126 fu a na (fX12_isName_14 fu a na n) x3 (x5 + (2 : Int32)) (r_85 &&& (16383 : Int32)) S_85
            else
              bd (fX12_wrong fu (2 : Int32) S_85) fun S_103 r_103 =>
              if r_103 ≤ 0 then
                some (S_103, (0 : Int32))
              else
                some (S_103, (1 : Int32))
          else
            bd (fX12_wrong fu (3 : Int32) S) fun S_70 r_70 =>
            if r_70 ≤ 0 then
              some (S_70, (0 : Int32))
            else
              some (S_70, (1 : Int32))
    else
      bd (fX12_wrong fu (3 : Int32) S) fun S_22 r_22 =>
      if r_22 ≤ 0 then
        some (S_22, (0 : Int32))
      else
        some (S_22, (1 : Int32))) := rfl
noncomputable def fX12_isName (fu : Nat) (a na : Nat) (x2 : Int32) (x3 : Int32) (S : St) : Option (St × Int32) :=
  sI 63 8 (0 : Int32) S fun S_2 =>
  fX12_isName_14 fu a na fu x3 x2 x2 (-1 : Int32) S_2
noncomputable def fX12_readName (fu : Nat) (a na : Nat) (x2 : Int32) (S : St) : Option (St × Int32) :=
  bd (fX12_isName fu a na (S.1 63 31) x2 S) fun S_7 r_7 =>
  if r_7 = 0 then
    some (S_7, (-1 : Int32))
  else
    bd (fX12_named fu a na S_7) fun S_17 r_17 =>
    if 0 ≤ r_17 then
      some (S_17, r_17)
    else
      bd (fX12_wrong fu (6 : Int32) S_17) fun S_28 r_28 =>
      some (S_28, r_28)
noncomputable def fX12_readInner (fu : Nat) (a na : Nat) (x2 : Int32) (S : St) : Option (St × Int32) :=
  bd (fX12_readName fu a na x2 S) fun S_3 r_3 =>
  if 0 ≤ r_3 then
    some (S_3, r_3)
  else
    if (S_3.1 63 30) = (6 : Int32) then
      some (S_3, r_3)
    else
      sI 63 30 (4 : Int32) S_3 fun S_22 =>
      some (S_22, r_3)
noncomputable def fX12_readData_182 (fu : Nat) (a na : Nat) (x3 : Int32) (x4 : Int32) (x5 : Int32) (x6 : Int32) (S : St) : Option (St × Int32) :=
  if (S.1 63 30) ≤ 0 then
    if (S.1 63 31) = (x5 + x4) then
      if x3 = (6 : Int32) then
        bd (fX12_four fu a na ((S.1 63 31) - (4 : Int32)) S) fun S_222 r_222 =>
        some (S_222, r_222)
      else
        some (S, x6)
    else
      bd (fX12_wrong fu (4 : Int32) S) fun S_205 r_205 =>
      some (S_205, r_205)
  else
    some (S, (-1 : Int32))
noncomputable def fX12_readData_142 (fu : Nat) (a na : Nat) (x2 : Int32) (x3 : Int32) (x4 : Int32) (x5 : Int32) (S : St) : Option (St × Int32) :=
  bd (fX12_readInner fu a na x2 S) fun S_145 r_145 =>
  if (S_145.1 63 30) = 0 then
    if x3 = (6 : Int32) then
      bd (fX12_readInner fu a na x2 S_145) fun S_166 r_166 =>
      sI 63 31 ((S_166.1 63 31) + (20 : Int32)) S_166 fun S_179 =>
      fX12_readData_182 fu a na x3 x4 x5 r_145 S_179
    else
      fX12_readData_182 fu a na x3 x4 x5 r_145 S_145
  else
    fX12_readData_182 fu a na x3 x4 x5 r_145 S_145
noncomputable def fX12_readData_52 (fu : Nat) (a na : Nat) (x2 : Int32) (x3 : Int32) (x4 : Int32) (x5 : Int32) (S : St) : Option (St × Int32) :=
  if x3 = (1 : Int32) then
    sI 63 31 ((S.1 63 31) + (4 : Int32)) S fun S_64 =>
    bd (fX12_four fu a na x5 S_64) fun S_70 r_70 =>
    some (S_70, r_70)
  else
    if x3 = (16 : Int32) then
      gd (ck x5 na) <|
      if (S.1 a (x5).toNatClampNeg) = (4 : Int32) then
        sI 63 31 ((S.1 63 31) + (5 : Int32)) S fun S_101 =>
        bd (fX12_four fu a na (x5 + (1 : Int32)) S_101) fun S_109 r_109 =>
        some (S_109, r_109)
      else
        bd (fX12_wrong fu (4 : Int32) S) fun S_90 r_90 =>
        some (S_90, r_90)
    else
      if x3 = (2 : Int32) then
        fX12_readData_142 fu a na x2 x3 x4 x5 S
      else
        if x3 = (5 : Int32) then
          fX12_readData_142 fu a na x2 x3 x4 x5 S
        else
          if x3 = (6 : Int32) then
            fX12_readData_142 fu a na x2 x3 x4 x5 S
          else
            sI 63 31 ((S.1 63 31) + x4) S fun S_137 =>
            some (S_137, (0 : Int32))
noncomputable def fX12_readData_46 (fu : Nat) (a na : Nat) (S : St) : Option (St × Int32) :=
  bd (fX12_wrong fu (4 : Int32) S) fun S_48 r_48 =>
  some (S_48, r_48)
noncomputable def fX12_readData_34 (fu : Nat) (a na : Nat) (x2 : Int32) (x3 : Int32) (x4 : Int32) (x5 : Int32) (S : St) : Option (St × Int32) :=
  if x3 = (16 : Int32) then
    if x4 = (5 : Int32) then
      fX12_readData_52 fu a na x2 x3 x4 x5 S
    else
      fX12_readData_46 fu a na S
  else
    fX12_readData_52 fu a na x2 x3 x4 x5 S
noncomputable def fX12_readData (fu : Nat) (a na : Nat) (x2 : Int32) (x3 : Int32) (x4 : Int32) (S : St) : Option (St × Int32) :=
  if ((S.1 63 31) + x4) ≤ x2 then
    if x3 = (1 : Int32) then
      if x4 = (4 : Int32) then
        fX12_readData_34 fu a na x2 x3 x4 (S.1 63 31) S
      else
        fX12_readData_46 fu a na S
    else
      fX12_readData_34 fu a na x2 x3 x4 (S.1 63 31) S
  else
    bd (fX12_wrong fu (3 : Int32) S) fun S_19 r_19 =>
    some (S_19, r_19)
noncomputable def fX12_readRecord_132 (fu : Nat) (a na : Nat) (x3 : Int32) (x4 : Int32) (x5 : Int32) (x7 : Int32) (x9 : Int32) (S : St) : Option (St × Int32) :=
  gd (ck (S.1 63 42) 100) <|
  sI 85 ((S.1 63 42)).toNatClampNeg x3 S fun S_141 =>
  gd (ck (S_141.1 63 42) 100) <|
  sI 86 ((S_141.1 63 42)).toNatClampNeg x4 S_141 fun S_152 =>
  gd (ck (S_152.1 63 42) 100) <|
  sI 87 ((S_152.1 63 42)).toNatClampNeg x5 S_152 fun S_163 =>
  gd (ck (S_163.1 63 42) 100) <|
  sI 88 ((S_163.1 63 42)).toNatClampNeg x9 S_163 fun S_174 =>
  gd (ck (S_174.1 63 42) 100) <|
  sI 89 ((S_174.1 63 42)).toNatClampNeg x7 S_174 fun S_185 =>
  sI 63 42 ((S_185.1 63 42) + (1 : Int32)) S_185 fun S_193 =>
  some (S_193, (0 : Int32))
noncomputable def fX12_readRecord (fu : Nat) (a na : Nat) (x2 : Int32) (x3 : Int32) (S : St) : Option (St × Int32) :=
  bd (fX12_readName fu a na x2 S) fun S_3 r_3 =>
  if (S_3.1 63 30) ≤ 0 then
    if ((S_3.1 63 31) + (10 : Int32)) ≤ x2 then
      bd (fX12_two fu a na (S_3.1 63 31) S_3) fun S_38 r_38 =>
      bd (fX12_two fu a na ((S_38.1 63 31) + (2 : Int32)) S_38) fun S_50 r_50 =>
      bd (fX12_four fu a na ((S_50.1 63 31) + (4 : Int32)) S_50) fun S_62 r_62 =>
      bd (fX12_two fu a na ((S_62.1 63 31) + (8 : Int32)) S_62) fun S_75 r_75 =>
      sI 63 31 ((S_75.1 63 31) + (10 : Int32)) S_75 fun S_88 =>
      bd (fX12_readData fu a na x2 r_38 r_75 S_88) fun S_98 r_98 =>
      if 0 < (S_98.1 63 30) then
        some (S_98, (0 : Int32))
      else
        if r_50 = (1 : Int32) then
          bd (fX12_isType fu r_38 S_98) fun S_118 r_118 =>
          if r_118 = 0 then
            if r_38 = (6 : Int32) then
              fX12_readRecord_132 fu a na x3 r_3 r_38 r_62 r_98 S_118
            else
              some (S_118, (0 : Int32))
          else
            fX12_readRecord_132 fu a na x3 r_3 r_38 r_62 r_98 S_118
        else
          some (S_98, (0 : Int32))
    else
      sI 63 30 (3 : Int32) S_3 fun S_29 =>
      some (S_29, (0 : Int32))
  else
    some (S_3, (0 : Int32))
noncomputable def fX12_reads_25 (fu : Nat) (a na : Nat) (S : St) : Option (St × Int32) :=
  bd (fX12_wrong fu (1 : Int32) S) fun S_27 r_27 =>
  if r_27 ≤ 0 then
    some (S_27, (0 : Int32))
  else
    some (S_27, (1 : Int32))
noncomputable def fX12_reads_212 (fu : Nat) (a na : Nat) (S : St) : Option (St × Int32) :=
  if (S.1 63 30) = 0 then
    some (S, (1 : Int32))
  else
    some (S, (0 : Int32))
noncomputable def fX12_reads_186 (fu : Nat) (a na : Nat) (k_144 : Int32 → Int32 → St → Option (St × Int32)) (x2 : Int32) (x3 : Int32) (S : St) : Option (St × Int32) :=
  k_144 x2 (x3 + (1 : Int32)) S
noncomputable def fX12_reads_161 (fu : Nat) (a na : Nat) (k_144 : Int32 → Int32 → St → Option (St × Int32)) (n : Nat) : Int32 → Int32 → Int32 → St → Option (St × Int32) :=
  Nat.rec (motive := fun _ => Int32 → Int32 → Int32 → St → Option (St × Int32)) (fun _ _ _ _ => none) (fun _ k_161 x2 x3 x4 S =>
    if x4 ≤ 0 then
      fX12_reads_186 fu a na k_144 x2 x3 S
    else
      if (S.1 63 30) = 0 then
        bd (fX12_readRecord fu a na x2 x3 S) fun S_177 _ =>
        k_161 x2 x3 (x4 + (-1 : Int32)) S_177
      else
        fX12_reads_186 fu a na k_144 x2 x3 S) n
theorem fX12_reads_161_s (fu : Nat) (a na : Nat) (k_144 : Int32 → Int32 → St → Option (St × Int32)) (n : Nat) (x2 : Int32) (x3 : Int32) (x4 : Int32) (S : St) : fX12_reads_161 fu a na k_144 (n + 1) x2 x3 x4 S = (
    if x4 ≤ 0 then
      fX12_reads_186 fu a na k_144 x2 x3 S
    else
      if (S.1 63 30) = 0 then
        bd (fX12_readRecord fu a na x2 x3 S) fun S_177 _ =>
        (fX12_reads_161 fu a na k_144 n) x2 x3 (x4 + (-1 : Int32)) S_177
      else
        fX12_reads_186 fu a na k_144 x2 x3 S) := rfl
noncomputable def fX12_reads_144 (fu : Nat) (a na : Nat) (n : Nat) : Int32 → Int32 → St → Option (St × Int32) :=
  Nat.rec (motive := fun _ => Int32 → Int32 → St → Option (St × Int32)) (fun _ _ _ => none) (fun _ k_144 x2 x3 S =>
    if (3 : Int32) ≤ x3 then
      if (S.1 63 30) = 0 then
        if x2 ≤ (S.1 63 31) then
          fX12_reads_212 fu a na S
        else
          sI 63 30 (5 : Int32) S fun S_209 =>
          fX12_reads_212 fu a na S_209
      else
        fX12_reads_212 fu a na S
    else
      bd (fX12_two fu a na ((6 : Int32) + ((2 : Int32) * x3)) S) fun S_156 r_156 =>
      fX12_reads_161 fu a na k_144 fu x2 x3 r_156 S_156) n
theorem fX12_reads_144_s (fu : Nat) (a na : Nat) (n : Nat) (x2 : Int32) (x3 : Int32) (S : St) : fX12_reads_144 fu a na (n + 1) x2 x3 S = (
    if (3 : Int32) ≤ x3 then
      if (S.1 63 30) = 0 then
        if x2 ≤ (S.1 63 31) then
          fX12_reads_212 fu a na S
        else
          sI 63 30 (5 : Int32) S fun S_209 =>
          fX12_reads_212 fu a na S_209
      else
        fX12_reads_212 fu a na S
    else
      bd (fX12_two fu a na ((6 : Int32) + ((2 : Int32) * x3)) S) fun S_156 r_156 =>
      fX12_reads_161 fu a na (fX12_reads_144 fu a na n) fu x2 x3 r_156 S_156) := rfl
noncomputable def fX12_reads (fu : Nat) (a na : Nat) (x2 : Int32) (S : St) : Option (St × Int32) :=
  sI 63 30 (0 : Int32) S fun S_2 =>
  sI 63 42 (0 : Int32) S_2 fun S_7 =>
  if x2 < (12 : Int32) then
    fX12_reads_25 fu a na S_7
  else
    bd (fX12_two fu a na (4 : Int32) S_7) fun S_18 r_18 =>
    if r_18 = (1 : Int32) then
      bd (fX12_two fu a na (0 : Int32) S_18) fun S_42 r_42 =>
      sI 63 36 r_42 S_42 fun S_45 =>
      bd (fX12_two fu a na (2 : Int32) S_45) fun S_51 r_51 =>
      sI 63 35 r_51 S_51 fun S_54 =>
      sI 63 31 (12 : Int32) S_54 fun S_60 =>
      bd (fX12_readName fu a na x2 S_60) fun S_67 r_67 =>
      sI 63 32 r_67 S_67 fun S_70 =>
      if (S_70.1 63 30) ≤ 0 then
        if ((S_70.1 63 31) + (4 : Int32)) ≤ x2 then
          bd (fX12_two fu a na (S_70.1 63 31) S_70) fun S_112 r_112 =>
          sI 63 33 r_112 S_112 fun S_115 =>
          bd (fX12_two fu a na ((S_115.1 63 31) + (2 : Int32)) S_115) fun S_126 r_126 =>
          sI 63 34 r_126 S_126 fun S_129 =>
          sI 63 31 ((S_129.1 63 31) + (4 : Int32)) S_129 fun S_139 =>
          fX12_reads_144 fu a na fu x2 (0 : Int32) S_139
        else
          bd (fX12_wrong fu (3 : Int32) S_70) fun S_94 r_94 =>
          if r_94 ≤ 0 then
            some (S_94, (0 : Int32))
          else
            some (S_94, (1 : Int32))
      else
        some (S_70, (0 : Int32))
    else
      fX12_reads_25 fu a na S_18
noncomputable def fX12_parse_25 (fu : Nat) (n : Nat) : Int32 → St → Option (St × Int32) :=
  Nat.rec (motive := fun _ => Int32 → St → Option (St × Int32)) (fun _ _ => none) (fun _ k_25 x2 S =>
    if (S.1 63 42) ≤ x2 then
      sI 63 44 (S.1 63 42) S fun S_122 =>
      some (S_122, (S_122.1 63 42))
    else
      gd (ck x2 100) <|
      gd (ck ((5 : Int32) * x2) 500) <|
      sI 90 (((5 : Int32) * x2)).toNatClampNeg (S.1 85 (x2).toNatClampNeg) S fun S_46 =>
      gd (ck x2 100) <|
      gd (ck (((5 : Int32) * x2) + (1 : Int32)) 500) <|
      sI 90 ((((5 : Int32) * x2) + (1 : Int32))).toNatClampNeg (S_46.1 86 (x2).toNatClampNeg) S_46 fun S_62 =>
      gd (ck x2 100) <|
      gd (ck (((5 : Int32) * x2) + (2 : Int32)) 500) <|
      sI 90 ((((5 : Int32) * x2) + (2 : Int32))).toNatClampNeg (S_62.1 87 (x2).toNatClampNeg) S_62 fun S_78 =>
      gd (ck x2 100) <|
      gd (ck (((5 : Int32) * x2) + (3 : Int32)) 500) <|
      sI 90 ((((5 : Int32) * x2) + (3 : Int32))).toNatClampNeg (S_78.1 88 (x2).toNatClampNeg) S_78 fun S_94 =>
      gd (ck x2 100) <|
      gd (ck (((5 : Int32) * x2) + (4 : Int32)) 500) <|
      sI 90 ((((5 : Int32) * x2) + (4 : Int32))).toNatClampNeg (S_94.1 89 (x2).toNatClampNeg) S_94 fun S_110 =>
      k_25 (x2 + (1 : Int32)) S_110) n
theorem fX12_parse_25_s (fu : Nat) (n : Nat) (x2 : Int32) (S : St) : fX12_parse_25 fu (n + 1) x2 S = (
    if (S.1 63 42) ≤ x2 then
      sI 63 44 (S.1 63 42) S fun S_122 =>
      some (S_122, (S_122.1 63 42))
    else
      gd (ck x2 100) <|
      gd (ck ((5 : Int32) * x2) 500) <|
      sI 90 (((5 : Int32) * x2)).toNatClampNeg (S.1 85 (x2).toNatClampNeg) S fun S_46 =>
      gd (ck x2 100) <|
      gd (ck (((5 : Int32) * x2) + (1 : Int32)) 500) <|
      sI 90 ((((5 : Int32) * x2) + (1 : Int32))).toNatClampNeg (S_46.1 86 (x2).toNatClampNeg) S_46 fun S_62 =>
      gd (ck x2 100) <|
      gd (ck (((5 : Int32) * x2) + (2 : Int32)) 500) <|
      sI 90 ((((5 : Int32) * x2) + (2 : Int32))).toNatClampNeg (S_62.1 87 (x2).toNatClampNeg) S_62 fun S_78 =>
      gd (ck x2 100) <|
      gd (ck (((5 : Int32) * x2) + (3 : Int32)) 500) <|
      sI 90 ((((5 : Int32) * x2) + (3 : Int32))).toNatClampNeg (S_78.1 88 (x2).toNatClampNeg) S_78 fun S_94 =>
      gd (ck x2 100) <|
      gd (ck (((5 : Int32) * x2) + (4 : Int32)) 500) <|
      sI 90 ((((5 : Int32) * x2) + (4 : Int32))).toNatClampNeg (S_94.1 89 (x2).toNatClampNeg) S_94 fun S_110 =>
      (fX12_parse_25 fu n) (x2 + (1 : Int32)) S_110) := rfl
noncomputable def fX12_parse (fu : Nat) (S : St) : Option (St × Int32) :=
  bd (fX12_used fu S) fun S_1 r_1 =>
  bd (fX12_reads fu 70 1040 r_1 S_1) fun S_11 r_11 =>
  if r_11 = 0 then
    some (S_11, (-(S_11.1 63 30)))
  else
    fX12_parse_25 fu fu (0 : Int32) S_11
noncomputable def fX12_parsed_32 (fu : Nat) (x1 : Int32) (x2 : Int32) (t0 : Int32) (S : St) : Option (St × Int32) :=
  bd (fX12_throwsIf fu t0 (1 : Int32) S) fun S_33 r_33 =>
  if r_33 = 0 then
    gd (ck (((5 : Int32) * x1) + x2) 500) <|
    some (S_33, (S_33.1 90 ((((5 : Int32) * x1) + x2)).toNatClampNeg))
  else
    some (S_33, (0 : Int32))
noncomputable def fX12_parsed_27 (fu : Nat) (x1 : Int32) (x2 : Int32) (S : St) : Option (St × Int32) :=
  fX12_parsed_32 fu x1 x2 (1 : Int32) S
noncomputable def fX12_parsed (fu : Nat) (x1 : Int32) (x2 : Int32) (S : St) : Option (St × Int32) :=
  sI 63 0 (0 : Int32) S fun S_2 =>
  if x1 < 0 then
    fX12_parsed_27 fu x1 x2 S_2
  else
    if (S_2.1 63 44) ≤ x1 then
      fX12_parsed_27 fu x1 x2 S_2
    else
      if x2 < 0 then
        fX12_parsed_27 fu x1 x2 S_2
      else
        if x2 ≤ (4 : Int32) then
          fX12_parsed_32 fu x1 x2 (0 : Int32) S_2
        else
          fX12_parsed_27 fu x1 x2 S_2
noncomputable def fX12_drops_78 (fu : Nat) (k_12 : Int32 → St → Option (St × Int32)) (n : Nat) : Int32 → Int32 → St → Option (St × Int32) :=
  Nat.rec (motive := fun _ => Int32 → Int32 → St → Option (St × Int32)) (fun _ _ _ => none) (fun _ k_78 x2 x3 S =>
    if (10 : Int32) ≤ x3 then
      k_12 (x2 + (1 : Int32)) S
    else
      gd (ck (((10 : Int32) * (x2 + (1 : Int32))) + x3) 1000) <|
      gd (ck (((10 : Int32) * x2) + x3) 1000) <|
      sI 94 ((((10 : Int32) * x2) + x3)).toNatClampNeg (S.1 94 ((((10 : Int32) * (x2 + (1 : Int32))) + x3)).toNatClampNeg) S fun S_107 =>
      k_78 x2 (x3 + (1 : Int32)) S_107) n
theorem fX12_drops_78_s (fu : Nat) (k_12 : Int32 → St → Option (St × Int32)) (n : Nat) (x2 : Int32) (x3 : Int32) (S : St) : fX12_drops_78 fu k_12 (n + 1) x2 x3 S = (
    if (10 : Int32) ≤ x3 then
      k_12 (x2 + (1 : Int32)) S
    else
      gd (ck (((10 : Int32) * (x2 + (1 : Int32))) + x3) 1000) <|
      gd (ck (((10 : Int32) * x2) + x3) 1000) <|
      sI 94 ((((10 : Int32) * x2) + x3)).toNatClampNeg (S.1 94 ((((10 : Int32) * (x2 + (1 : Int32))) + x3)).toNatClampNeg) S fun S_107 =>
      (fX12_drops_78 fu k_12 n) x2 (x3 + (1 : Int32)) S_107) := rfl
noncomputable def fX12_drops_12 (fu : Nat) (n : Nat) : Int32 → St → Option (St × Int32) :=
  Nat.rec (motive := fun _ => Int32 → St → Option (St × Int32)) (fun _ _ => none) (fun _ k_12 x2 S =>
    if (S.1 63 50) ≤ x2 then
      some (S, (0 : Int32))
    else
      gd (ck (x2 + (1 : Int32)) 100) <|
      gd (ck x2 100) <|
      sI 91 (x2).toNatClampNeg (S.1 91 ((x2 + (1 : Int32))).toNatClampNeg) S fun S_33 =>
      gd (ck (x2 + (1 : Int32)) 100) <|
      gd (ck x2 100) <|
      sI 92 (x2).toNatClampNeg (S_33.1 92 ((x2 + (1 : Int32))).toNatClampNeg) S_33 fun S_47 =>
      gd (ck (x2 + (1 : Int32)) 100) <|
      gd (ck x2 100) <|
      sI 93 (x2).toNatClampNeg (S_47.1 93 ((x2 + (1 : Int32))).toNatClampNeg) S_47 fun S_61 =>
      gd (ck (x2 + (1 : Int32)) 100) <|
      gd (ck x2 100) <|
      sJ 95 (x2).toNatClampNeg (S_61.2 95 ((x2 + (1 : Int32))).toNatClampNeg) S_61 fun S_75 =>
      fX12_drops_78 fu k_12 fu x2 (0 : Int32) S_75) n
theorem fX12_drops_12_s (fu : Nat) (n : Nat) (x2 : Int32) (S : St) : fX12_drops_12 fu (n + 1) x2 S = (
    if (S.1 63 50) ≤ x2 then
      some (S, (0 : Int32))
    else
      gd (ck (x2 + (1 : Int32)) 100) <|
      gd (ck x2 100) <|
      sI 91 (x2).toNatClampNeg (S.1 91 ((x2 + (1 : Int32))).toNatClampNeg) S fun S_33 =>
      gd (ck (x2 + (1 : Int32)) 100) <|
      gd (ck x2 100) <|
      sI 92 (x2).toNatClampNeg (S_33.1 92 ((x2 + (1 : Int32))).toNatClampNeg) S_33 fun S_47 =>
      gd (ck (x2 + (1 : Int32)) 100) <|
      gd (ck x2 100) <|
      sI 93 (x2).toNatClampNeg (S_47.1 93 ((x2 + (1 : Int32))).toNatClampNeg) S_47 fun S_61 =>
      gd (ck (x2 + (1 : Int32)) 100) <|
      gd (ck x2 100) <|
      sJ 95 (x2).toNatClampNeg (S_61.2 95 ((x2 + (1 : Int32))).toNatClampNeg) S_61 fun S_75 =>
      fX12_drops_78 fu (fX12_drops_12 fu n) fu x2 (0 : Int32) S_75) := rfl
noncomputable def fX12_drops (fu : Nat) (x1 : Int32) (S : St) : Option (St × Int32) :=
  sI 63 50 ((S.1 63 50) - (1 : Int32)) S fun S_7 =>
  fX12_drops_12 fu fu x1 S_7
noncomputable def fX12_puts_152 (fu : Nat) (n : Nat) : Int32 → St → Option (St × Int32) :=
  Nat.rec (motive := fun _ => Int32 → St → Option (St × Int32)) (fun _ _ => none) (fun _ k_152 x5 S =>
    if (S.1 63 53) ≤ x5 then
      sI 63 50 ((S.1 63 50) + (1 : Int32)) S fun S_196 =>
      some (S_196, (0 : Int32))
    else
      gd (ck x5 10) <|
      gd (ck (((10 : Int32) * (S.1 63 50)) + x5) 1000) <|
      sI 94 ((((10 : Int32) * (S.1 63 50)) + x5)).toNatClampNeg (S.1 96 (x5).toNatClampNeg) S fun S_182 =>
      k_152 (x5 + (1 : Int32)) S_182) n
theorem fX12_puts_152_s (fu : Nat) (n : Nat) (x5 : Int32) (S : St) : fX12_puts_152 fu (n + 1) x5 S = (
    if (S.1 63 53) ≤ x5 then
      sI 63 50 ((S.1 63 50) + (1 : Int32)) S fun S_196 =>
      some (S_196, (0 : Int32))
    else
      gd (ck x5 10) <|
      gd (ck (((10 : Int32) * (S.1 63 50)) + x5) 1000) <|
      sI 94 ((((10 : Int32) * (S.1 63 50)) + x5)).toNatClampNeg (S.1 96 (x5).toNatClampNeg) S fun S_182 =>
      (fX12_puts_152 fu n) (x5 + (1 : Int32)) S_182) := rfl
noncomputable def fX12_puts_97 (fu : Nat) (x1 : Int32) (x2 : Int32) (S : St) : Option (St × Int32) :=
  gd (ck (S.1 63 50) 100) <|
  sI 91 ((S.1 63 50)).toNatClampNeg x1 S fun S_106 =>
  gd (ck (S_106.1 63 50) 100) <|
  sI 92 ((S_106.1 63 50)).toNatClampNeg x2 S_106 fun S_116 =>
  gd (ck (S_116.1 63 50) 100) <|
  sI 93 ((S_116.1 63 50)).toNatClampNeg (S_116.1 63 53) S_116 fun S_129 =>
  gd (ck (S_129.1 63 50) 100) <|
  sJ 95 ((S_129.1 63 50)).toNatClampNeg (((S_129.1 63 51)).toInt64 + (S_129.2 63 54)) S_129 fun S_148 =>
  fX12_puts_152 fu fu (0 : Int32) S_148
noncomputable def fX12_puts_64 (fu : Nat) (k_8 : Int32 → Int32 → Int32 → Int32 → Int32 → St → Option (St × Int32)) (x1 : Int32) (x2 : Int32) (x3 : Int32) (x4 : Int32) (x5 : Int32) (S : St) : Option (St × Int32) :=
  k_8 x1 x2 x3 x4 (x5 + (1 : Int32)) S
noncomputable def fX12_puts_42 (fu : Nat) (k_8 : Int32 → Int32 → Int32 → Int32 → Int32 → St → Option (St × Int32)) (x1 : Int32) (x2 : Int32) (x3 : Int32) (x4 : Int32) (x5 : Int32) (S : St) : Option (St × Int32) :=
  gd (ck x5 100) <|
  gd (ck x4 100) <|
  if 0 ≤ (lg_cmp (S.2 95 (x5).toNatClampNeg) (S.2 95 (x4).toNatClampNeg)) then
    fX12_puts_64 fu k_8 x1 x2 x3 x4 x5 S
  else
    fX12_puts_64 fu k_8 x1 x2 x3 x5 x5 S
noncomputable def fX12_puts_8 (fu : Nat) (n : Nat) : Int32 → Int32 → Int32 → Int32 → Int32 → St → Option (St × Int32) :=
  Nat.rec (motive := fun _ => Int32 → Int32 → Int32 → Int32 → Int32 → St → Option (St × Int32)) (fun _ _ _ _ _ _ => none) (fun _ k_8 x1 x2 x3 x4 x5 S =>
    if (S.1 63 50) ≤ x5 then
      if x3 < 0 then
        if (S.1 63 50) = (100 : Int32) then
          bd (fX12_drops fu x4 S) fun S_94 _ =>
          fX12_puts_97 fu x1 x2 S_94
        else
          fX12_puts_97 fu x1 x2 S
      else
        bd (fX12_drops fu x3 S) fun S_76 _ =>
        fX12_puts_97 fu x1 x2 S_76
    else
      gd (ck x5 100) <|
      if (S.1 91 (x5).toNatClampNeg) = x1 then
        gd (ck x5 100) <|
        if (S.1 92 (x5).toNatClampNeg) = x2 then
          fX12_puts_42 fu k_8 x1 x2 x5 x4 x5 S
        else
          fX12_puts_42 fu k_8 x1 x2 x3 x4 x5 S
      else
        fX12_puts_42 fu k_8 x1 x2 x3 x4 x5 S) n
theorem fX12_puts_8_s (fu : Nat) (n : Nat) (x1 : Int32) (x2 : Int32) (x3 : Int32) (x4 : Int32) (x5 : Int32) (S : St) : fX12_puts_8 fu (n + 1) x1 x2 x3 x4 x5 S = (
    if (S.1 63 50) ≤ x5 then
      if x3 < 0 then
        if (S.1 63 50) = (100 : Int32) then
          bd (fX12_drops fu x4 S) fun S_94 _ =>
          fX12_puts_97 fu x1 x2 S_94
        else
          fX12_puts_97 fu x1 x2 S
      else
        bd (fX12_drops fu x3 S) fun S_76 _ =>
        fX12_puts_97 fu x1 x2 S_76
    else
      gd (ck x5 100) <|
      if (S.1 91 (x5).toNatClampNeg) = x1 then
        gd (ck x5 100) <|
        if (S.1 92 (x5).toNatClampNeg) = x2 then
          fX12_puts_42 fu (fX12_puts_8 fu n) x1 x2 x5 x4 x5 S
        else
          fX12_puts_42 fu (fX12_puts_8 fu n) x1 x2 x3 x4 x5 S
      else
        fX12_puts_42 fu (fX12_puts_8 fu n) x1 x2 x3 x4 x5 S) := rfl
noncomputable def fX12_puts (fu : Nat) (x1 : Int32) (x2 : Int32) (S : St) : Option (St × Int32) :=
  fX12_puts_8 fu fu x1 x2 (-1 : Int32) (0 : Int32) (0 : Int32) S
noncomputable def fX12_find_55 (fu : Nat) (k_5 : Int32 → Int32 → Int32 → Int32 → St → Option (St × Int32)) (x1 : Int32) (x2 : Int32) (x3 : Int32) (x4 : Int32) (S : St) : Option (St × Int32) :=
  k_5 x1 x2 x3 (x4 + (1 : Int32)) S
noncomputable def fX12_find_5 (fu : Nat) (n : Nat) : Int32 → Int32 → Int32 → Int32 → St → Option (St × Int32) :=
  Nat.rec (motive := fun _ => Int32 → Int32 → Int32 → Int32 → St → Option (St × Int32)) (fun _ _ _ _ _ => none) (fun _ k_5 x1 x2 x3 x4 S =>
    if (S.1 63 50) ≤ x4 then
      some (S, x3)
    else
      gd (ck x4 100) <|
      if (S.1 91 (x4).toNatClampNeg) = x1 then
        gd (ck x4 100) <|
        if (S.1 92 (x4).toNatClampNeg) = x2 then
          gd (ck x4 100) <|
          if 0 ≤ (lg_cmp ((S.1 63 51)).toInt64 (S.2 95 (x4).toNatClampNeg)) then
            fX12_find_55 fu k_5 x1 x2 x3 x4 S
          else
            fX12_find_55 fu k_5 x1 x2 x4 x4 S
        else
          fX12_find_55 fu k_5 x1 x2 x3 x4 S
      else
        fX12_find_55 fu k_5 x1 x2 x3 x4 S) n
theorem fX12_find_5_s (fu : Nat) (n : Nat) (x1 : Int32) (x2 : Int32) (x3 : Int32) (x4 : Int32) (S : St) : fX12_find_5 fu (n + 1) x1 x2 x3 x4 S = (
    if (S.1 63 50) ≤ x4 then
      some (S, x3)
    else
      gd (ck x4 100) <|
      if (S.1 91 (x4).toNatClampNeg) = x1 then
        gd (ck x4 100) <|
        if (S.1 92 (x4).toNatClampNeg) = x2 then
          gd (ck x4 100) <|
          if 0 ≤ (lg_cmp ((S.1 63 51)).toInt64 (S.2 95 (x4).toNatClampNeg)) then
            fX12_find_55 fu (fX12_find_5 fu n) x1 x2 x3 x4 S
          else
            fX12_find_55 fu (fX12_find_5 fu n) x1 x2 x4 x4 S
        else
          fX12_find_55 fu (fX12_find_5 fu n) x1 x2 x3 x4 S
      else
        fX12_find_55 fu (fX12_find_5 fu n) x1 x2 x3 x4 S) := rfl
noncomputable def fX12_find (fu : Nat) (x1 : Int32) (x2 : Int32) (S : St) : Option (St × Int32) :=
  fX12_find_5 fu fu x1 x2 (-1 : Int32) (0 : Int32) S
noncomputable def fX12_set (fu : Nat) (x1 : Int32) (x2 : Int32) (S : St) : Option (St × Int32) :=
  bd (fX12_find fu x1 x2 S) fun S_3 r_3 =>
  if r_3 < 0 then
    some (S_3, (-1 : Int32))
  else
    gd (ck r_3 100) <|
    if (S_3.1 93 (r_3).toNatClampNeg) ≤ 0 then
      some (S_3, (-1 : Int32))
    else
      some (S_3, r_3)
noncomputable def fX12_hasNothing (fu : Nat) (x1 : Int32) (x2 : Int32) (S : St) : Option (St × Int32) :=
  bd (fX12_find fu x1 x2 S) fun S_3 r_3 =>
  if r_3 < 0 then
    some (S_3, (0 : Int32))
  else
    gd (ck r_3 100) <|
    if (S_3.1 93 (r_3).toNatClampNeg) = 0 then
      some (S_3, (1 : Int32))
    else
      some (S_3, (0 : Int32))
noncomputable def fX12_cached (fu : Nat) (x1 : Int32) (x2 : Int32) (S : St) : Option (St × Int32) :=
  sI 63 0 (0 : Int32) S fun S_2 =>
  bd (fX12_noName fu x1 S_2) fun S_8 r_8 =>
  bd (fX12_throwsIf fu r_8 (1 : Int32) S_8) fun S_12 r_12 =>
  if r_12 = 0 then
    bd (fX12_find fu x1 x2 S_12) fun S_23 r_23 =>
    if 0 ≤ r_23 then
      gd (ck r_23 100) <|
      some (S_23, (S_23.1 93 (r_23).toNatClampNeg))
    else
      some (S_23, (-1 : Int32))
  else
    some (S_12, (0 : Int32))
noncomputable def fX12_tick_21 (fu : Nat) (x1 : Int32) (t0 : Int32) (S : St) : Option (St × Int32) :=
  bd (fX12_throwsIf fu t0 (1 : Int32) S) fun S_22 r_22 =>
  if r_22 = 0 then
    sI 63 51 ((S_22.1 63 51) + x1) S_22 fun S_37 =>
    some (S_37, (S_37.1 63 51))
  else
    some (S_22, (0 : Int32))
noncomputable def fX12_tick_16 (fu : Nat) (x1 : Int32) (S : St) : Option (St × Int32) :=
  fX12_tick_21 fu x1 (1 : Int32) S
noncomputable def fX12_tick (fu : Nat) (x1 : Int32) (S : St) : Option (St × Int32) :=
  sI 63 0 (0 : Int32) S fun S_2 =>
  if x1 < 0 then
    fX12_tick_16 fu x1 S_2
  else
    if x1 ≤ (100000 : Int32) then
      fX12_tick_21 fu x1 (0 : Int32) S_2
    else
      fX12_tick_16 fu x1 S_2
noncomputable def fX12_anew_9 (fu : Nat) (n : Nat) : Int32 → Int32 → St → Option (St × Int32) :=
  Nat.rec (motive := fun _ => Int32 → Int32 → St → Option (St × Int32)) (fun _ _ _ => none) (fun _ k_9 x1 x2 S =>
    if (300 : Int32) ≤ x2 then
      some (S, (0 : Int32))
    else
      gd (ck (((300 : Int32) * x1) + x2) 1200) <|
      sI 103 ((((300 : Int32) * x1) + x2)).toNatClampNeg (vp_nar .boolean (0 : Int32)) S fun S_28 =>
      k_9 x1 (x2 + (1 : Int32)) S_28) n
theorem fX12_anew_9_s (fu : Nat) (n : Nat) (x1 : Int32) (x2 : Int32) (S : St) : fX12_anew_9 fu (n + 1) x1 x2 S = (
    if (300 : Int32) ≤ x2 then
      some (S, (0 : Int32))
    else
      gd (ck (((300 : Int32) * x1) + x2) 1200) <|
      sI 103 ((((300 : Int32) * x1) + x2)).toNatClampNeg (vp_nar .boolean (0 : Int32)) S fun S_28 =>
      (fX12_anew_9 fu n) x1 (x2 + (1 : Int32)) S_28) := rfl
noncomputable def fX12_anew (fu : Nat) (x1 : Int32) (S : St) : Option (St × Int32) :=
  gd (ck x1 4) <|
  sI 102 (x1).toNatClampNeg (0 : Int32) S fun S_6 =>
  fX12_anew_9 fu fu x1 (0 : Int32) S_6
noncomputable def fX12_opens (fu : Nat) (x1 : Int32) (x2 : Int32) (S : St) : Option (St × Int32) :=
  gd (ck (S.1 63 62) 4) <|
  sI 97 ((S.1 63 62)).toNatClampNeg x1 S fun S_9 =>
  gd (ck (S_9.1 63 62) 4) <|
  sI 98 ((S_9.1 63 62)).toNatClampNeg x2 S_9 fun S_19 =>
  gd (ck (S_19.1 63 62) 4) <|
  sI 99 ((S_19.1 63 62)).toNatClampNeg (0 : Int32) S_19 fun S_29 =>
  gd (ck (S_29.1 63 62) 4) <|
  sI 100 ((S_29.1 63 62)).toNatClampNeg (-1 : Int32) S_29 fun S_39 =>
  bd (fX12_anew fu (S_39.1 63 62) S_39) fun S_45 _ =>
  sI 63 62 ((S_45.1 63 62) + (1 : Int32)) S_45 fun S_55 =>
  some (S_55, (0 : Int32))
noncomputable def fX12_ends_58 (fu : Nat) (n : Nat) : Int32 → Int32 → St → Option (St × Int32) :=
  Nat.rec (motive := fun _ => Int32 → Int32 → St → Option (St × Int32)) (fun _ _ _ => none) (fun _ k_58 x2 x3 S =>
    if (S.1 63 71) ≤ x3 then
      some (S, (0 : Int32))
    else
      gd (ck (((10 : Int32) * x2) + x3) 1000) <|
      gd (ck x3 10) <|
      sI 104 (x3).toNatClampNeg (S.1 94 ((((10 : Int32) * x2) + x3)).toNatClampNeg) S fun S_82 =>
      k_58 x2 (x3 + (1 : Int32)) S_82) n
theorem fX12_ends_58_s (fu : Nat) (n : Nat) (x2 : Int32) (x3 : Int32) (S : St) : fX12_ends_58 fu (n + 1) x2 x3 S = (
    if (S.1 63 71) ≤ x3 then
      some (S, (0 : Int32))
    else
      gd (ck (((10 : Int32) * x2) + x3) 1000) <|
      gd (ck x3 10) <|
      sI 104 (x3).toNatClampNeg (S.1 94 ((((10 : Int32) * x2) + x3)).toNatClampNeg) S fun S_82 =>
      (fX12_ends_58 fu n) x2 (x3 + (1 : Int32)) S_82) := rfl
noncomputable def fX12_ends (fu : Nat) (x1 : Int32) (S : St) : Option (St × Int32) :=
  if (S.1 63 62) ≤ (1 : Int32) then
    sI 63 63 x1 S fun S_21 =>
    if x1 = 0 then
      gd (ck (0 : Int32) 4) <|
      gd (ck (0 : Int32) 4) <|
      bd (fX12_set fu (S_21.1 97 ((0 : Int32)).toNatClampNeg) (S_21.1 98 ((0 : Int32)).toNatClampNeg) S_21) fun S_42 r_42 =>
      gd (ck r_42 100) <|
      sI 63 71 (S_42.1 93 (r_42).toNatClampNeg) S_42 fun S_53 =>
      fX12_ends_58 fu fu r_42 (0 : Int32) S_53
    else
      some (S_21, (0 : Int32))
  else
    sI 63 62 ((S.1 63 62) - (1 : Int32)) S fun S_15 =>
    some (S_15, (0 : Int32))
noncomputable def fX12_isTried_41 (fu : Nat) (k_5 : Int32 → Int32 → Int32 → Int32 → St → Option (St × Int32)) (x1 : Int32) (x2 : Int32) (x4 : Int32) (t0 : Int32) (S : St) : Option (St × Int32) :=
  k_5 x1 x2 t0 (x4 + (1 : Int32)) S
noncomputable def fX12_isTried_36 (fu : Nat) (k_5 : Int32 → Int32 → Int32 → Int32 → St → Option (St × Int32)) (x1 : Int32) (x2 : Int32) (x4 : Int32) (S : St) : Option (St × Int32) :=
  fX12_isTried_41 fu k_5 x1 x2 x4 (1 : Int32) S
noncomputable def fX12_isTried_5 (fu : Nat) (n : Nat) : Int32 → Int32 → Int32 → Int32 → St → Option (St × Int32) :=
  Nat.rec (motive := fun _ => Int32 → Int32 → Int32 → Int32 → St → Option (St × Int32)) (fun _ _ _ _ _ => none) (fun _ k_5 x1 x2 x3 x4 S =>
    gd (ck x1 4) <|
    if (S.1 102 (x1).toNatClampNeg) ≤ x4 then
      gd (isB x3) <|
      some (S, x3)
    else
      if x3 = 0 then
        gd (ck (((64 : Int32) * x1) + x4) 256) <|
        if (S.1 101 ((((64 : Int32) * x1) + x4)).toNatClampNeg) = x2 then
          fX12_isTried_36 fu k_5 x1 x2 x4 S
        else
          fX12_isTried_41 fu k_5 x1 x2 x4 (0 : Int32) S
      else
        fX12_isTried_36 fu k_5 x1 x2 x4 S) n
theorem fX12_isTried_5_s (fu : Nat) (n : Nat) (x1 : Int32) (x2 : Int32) (x3 : Int32) (x4 : Int32) (S : St) : fX12_isTried_5 fu (n + 1) x1 x2 x3 x4 S = (
    gd (ck x1 4) <|
    if (S.1 102 (x1).toNatClampNeg) ≤ x4 then
      gd (isB x3) <|
      some (S, x3)
    else
      if x3 = 0 then
        gd (ck (((64 : Int32) * x1) + x4) 256) <|
        if (S.1 101 ((((64 : Int32) * x1) + x4)).toNatClampNeg) = x2 then
          fX12_isTried_36 fu (fX12_isTried_5 fu n) x1 x2 x4 S
        else
          fX12_isTried_41 fu (fX12_isTried_5 fu n) x1 x2 x4 (0 : Int32) S
      else
        fX12_isTried_36 fu (fX12_isTried_5 fu n) x1 x2 x4 S) := rfl
noncomputable def fX12_isTried (fu : Nat) (x1 : Int32) (x2 : Int32) (S : St) : Option (St × Int32) :=
  fX12_isTried_5 fu fu x1 x2 (0 : Int32) (0 : Int32) S
noncomputable def fX12_sends (fu : Nat) (x1 : Int32) (x2 : Int32) (S : St) : Option (St × Int32) :=
  if (S.1 63 65) = (40 : Int32) then
    sI 63 63 (3 : Int32) S fun S_11 =>
    some (S_11, (0 : Int32))
  else
    gd (ck x1 4) <|
    gd (ck (((64 : Int32) * x1) + (S.1 102 (x1).toNatClampNeg)) 256) <|
    sI 101 ((((64 : Int32) * x1) + (S.1 102 (x1).toNatClampNeg))).toNatClampNeg x2 S fun S_31 =>
    gd (ck x1 4) <|
    gd (ck x1 4) <|
    sI 102 (x1).toNatClampNeg ((S_31.1 102 (x1).toNatClampNeg) + (1 : Int32)) S_31 fun S_41 =>
    sI 63 67 (1 : Int32) S_41 fun S_44 =>
    sI 63 68 x2 S_44 fun S_49 =>
    sI 63 69 (S_49.1 63 64) S_49 fun S_57 =>
    sI 63 64 (((S_57.1 63 64) + (1 : Int32)) &&& (65535 : Int32)) S_57 fun S_71 =>
    sI 63 65 ((S_71.1 63 65) + (1 : Int32)) S_71 fun S_81 =>
    sI 63 66 ((S_81.1 63 66) + (1 : Int32)) S_81 fun S_91 =>
    some (S_91, (0 : Int32))
noncomputable def fX12_tries_152 (fu : Nat) (k_54 : Int32 → Int32 → Int32 → St → Option (St × Int32)) (x1 : Int32) (x2 : Int32) (x3 : Int32) (S : St) : Option (St × Int32) :=
  k_54 x1 x2 (x3 + (1 : Int32)) S
noncomputable def fX12_tries_85 (fu : Nat) (k_54 : Int32 → Int32 → Int32 → St → Option (St × Int32)) (n : Nat) : Int32 → Int32 → Int32 → Int32 → Int32 → St → Option (St × Int32) :=
  Nat.rec (motive := fun _ => Int32 → Int32 → Int32 → Int32 → Int32 → St → Option (St × Int32)) (fun _ _ _ _ _ _ => none) (fun _ k_85 x1 x2 x3 x4 x5 S =>
    if x4 < 0 then
      fX12_tries_152 fu k_54 x1 x2 x3 S
    else
      gd (ck x4 100) <|
      if (S.1 93 (x4).toNatClampNeg) ≤ x5 then
        fX12_tries_152 fu k_54 x1 x2 x3 S
      else
        gd (ck (((10 : Int32) * x4) + x5) 1000) <|
        bd (fX12_isTried fu x1 (S.1 94 ((((10 : Int32) * x4) + x5)).toNatClampNeg) S) fun S_117 r_117 =>
        if r_117 = 0 then
          gd (ck (((10 : Int32) * x4) + x5) 1000) <|
          bd (fX12_sends fu x1 (S_117.1 94 ((((10 : Int32) * x4) + x5)).toNatClampNeg) S_117) fun S_141 _ =>
          some (S_141, (1 : Int32))
        else
          k_85 x1 x2 x3 x4 (x5 + (1 : Int32)) S_117) n
theorem fX12_tries_85_s (fu : Nat) (k_54 : Int32 → Int32 → Int32 → St → Option (St × Int32)) (n : Nat) (x1 : Int32) (x2 : Int32) (x3 : Int32) (x4 : Int32) (x5 : Int32) (S : St) : fX12_tries_85 fu k_54 (n + 1) x1 x2 x3 x4 x5 S = (
    if x4 < 0 then
      fX12_tries_152 fu k_54 x1 x2 x3 S
    else
      gd (ck x4 100) <|
      if (S.1 93 (x4).toNatClampNeg) ≤ x5 then
        fX12_tries_152 fu k_54 x1 x2 x3 S
      else
        gd (ck (((10 : Int32) * x4) + x5) 1000) <|
        bd (fX12_isTried fu x1 (S.1 94 ((((10 : Int32) * x4) + x5)).toNatClampNeg) S) fun S_117 r_117 =>
        if r_117 = 0 then
          gd (ck (((10 : Int32) * x4) + x5) 1000) <|
          bd (fX12_sends fu x1 (S_117.1 94 ((((10 : Int32) * x4) + x5)).toNatClampNeg) S_117) fun S_141 _ =>
          some (S_141, (1 : Int32))
        else
          (fX12_tries_85 fu k_54 n) x1 x2 x3 x4 (x5 + (1 : Int32)) S_117) := rfl
noncomputable def fX12_tries_54 (fu : Nat) (n : Nat) : Int32 → Int32 → Int32 → St → Option (St × Int32) :=
  Nat.rec (motive := fun _ => Int32 → Int32 → Int32 → St → Option (St × Int32)) (fun _ _ _ _ => none) (fun _ k_54 x1 x2 x3 S =>
    gd (ck x2 100) <|
    if (S.1 93 (x2).toNatClampNeg) ≤ x3 then
      some (S, (0 : Int32))
    else
      gd (ck (((10 : Int32) * x2) + x3) 1000) <|
      bd (fX12_set fu (S.1 94 ((((10 : Int32) * x2) + x3)).toNatClampNeg) (1 : Int32) S) fun S_77 r_77 =>
      fX12_tries_85 fu k_54 fu x1 x2 x3 r_77 (0 : Int32) S_77) n
theorem fX12_tries_54_s (fu : Nat) (n : Nat) (x1 : Int32) (x2 : Int32) (x3 : Int32) (S : St) : fX12_tries_54 fu (n + 1) x1 x2 x3 S = (
    gd (ck x2 100) <|
    if (S.1 93 (x2).toNatClampNeg) ≤ x3 then
      some (S, (0 : Int32))
    else
      gd (ck (((10 : Int32) * x2) + x3) 1000) <|
      bd (fX12_set fu (S.1 94 ((((10 : Int32) * x2) + x3)).toNatClampNeg) (1 : Int32) S) fun S_77 r_77 =>
      fX12_tries_85 fu (fX12_tries_54 fu n) fu x1 x2 x3 r_77 (0 : Int32) S_77) := rfl
noncomputable def fX12_tries_6 (fu : Nat) (n : Nat) : Int32 → Int32 → St → Option (St × Int32) :=
  Nat.rec (motive := fun _ => Int32 → Int32 → St → Option (St × Int32)) (fun _ _ _ => none) (fun _ k_6 x1 x3 S =>
    if (S.1 63 25) ≤ x3 then
      some (S, (0 : Int32))
    else
      gd (ck x3 4) <|
      bd (fX12_isTried fu x1 (S.1 81 (x3).toNatClampNeg) S) fun S_22 r_22 =>
      if r_22 = 0 then
        gd (ck x3 4) <|
        bd (fX12_sends fu x1 (S_22.1 81 (x3).toNatClampNeg) S_22) fun S_39 _ =>
        some (S_39, (1 : Int32))
      else
        k_6 x1 (x3 + (1 : Int32)) S_22) n
theorem fX12_tries_6_s (fu : Nat) (n : Nat) (x1 : Int32) (x3 : Int32) (S : St) : fX12_tries_6 fu (n + 1) x1 x3 S = (
    if (S.1 63 25) ≤ x3 then
      some (S, (0 : Int32))
    else
      gd (ck x3 4) <|
      bd (fX12_isTried fu x1 (S.1 81 (x3).toNatClampNeg) S) fun S_22 r_22 =>
      if r_22 = 0 then
        gd (ck x3 4) <|
        bd (fX12_sends fu x1 (S_22.1 81 (x3).toNatClampNeg) S_22) fun S_39 _ =>
        some (S_39, (1 : Int32))
      else
        (fX12_tries_6 fu n) x1 (x3 + (1 : Int32)) S_22) := rfl
noncomputable def fX12_tries (fu : Nat) (x1 : Int32) (x2 : Int32) (S : St) : Option (St × Int32) :=
  if 0 ≤ x2 then
    fX12_tries_54 fu fu x1 x2 (0 : Int32) S
  else
    fX12_tries_6 fu fu x1 (0 : Int32) S
noncomputable def fX12_sendsFor_96 (fu : Nat) (k_2 : Int32 → Int32 → Int32 → St → Option (St × Int32)) (x1 : Int32) (x2 : Int32) (x3 : Int32) (S : St) : Option (St × Int32) :=
  k_2 x1 x2 (x3 + (1 : Int32)) S
noncomputable def fX12_sendsFor_2 (fu : Nat) (n : Nat) : Int32 → Int32 → Int32 → St → Option (St × Int32) :=
  Nat.rec (motive := fun _ => Int32 → Int32 → Int32 → St → Option (St × Int32)) (fun _ _ _ _ => none) (fun _ k_2 x1 x2 x3 S =>
    if x2 < 0 then
      some (S, (0 : Int32))
    else
      gd (ck x2 100) <|
      if (S.1 93 (x2).toNatClampNeg) ≤ x3 then
        some (S, (0 : Int32))
      else
        gd (ck (((10 : Int32) * x2) + x3) 1000) <|
        bd (fX12_set fu (S.1 94 ((((10 : Int32) * x2) + x3)).toNatClampNeg) (1 : Int32) S) fun S_33 r_33 =>
        if 0 ≤ r_33 then
          fX12_sendsFor_96 fu k_2 x1 x2 x3 S_33
        else
          gd (ck (((300 : Int32) * x1) + (S.1 94 ((((10 : Int32) * x2) + x3)).toNatClampNeg)) 1200) <|
          if (S_33.1 103 ((((300 : Int32) * x1) + (S.1 94 ((((10 : Int32) * x2) + x3)).toNatClampNeg))).toNatClampNeg) = 0 then
            if (S_33.1 63 62) = (4 : Int32) then
              bd (fX12_ends fu (3 : Int32) S_33) fun S_68 _ =>
              some (S_68, (1 : Int32))
            else
              gd (ck (((300 : Int32) * x1) + (S.1 94 ((((10 : Int32) * x2) + x3)).toNatClampNeg)) 1200) <|
              sI 103 ((((300 : Int32) * x1) + (S.1 94 ((((10 : Int32) * x2) + x3)).toNatClampNeg))).toNatClampNeg (vp_nar .boolean (1 : Int32)) S_33 fun S_86 =>
              bd (fX12_opens fu (S.1 94 ((((10 : Int32) * x2) + x3)).toNatClampNeg) (1 : Int32) S_86) fun S_91 _ =>
              some (S_91, (1 : Int32))
          else
            fX12_sendsFor_96 fu k_2 x1 x2 x3 S_33) n
theorem fX12_sendsFor_2_s (fu : Nat) (n : Nat) (x1 : Int32) (x2 : Int32) (x3 : Int32) (S : St) : fX12_sendsFor_2 fu (n + 1) x1 x2 x3 S = (
    if x2 < 0 then
      some (S, (0 : Int32))
    else
      gd (ck x2 100) <|
      if (S.1 93 (x2).toNatClampNeg) ≤ x3 then
        some (S, (0 : Int32))
      else
        gd (ck (((10 : Int32) * x2) + x3) 1000) <|
        bd (fX12_set fu (S.1 94 ((((10 : Int32) * x2) + x3)).toNatClampNeg) (1 : Int32) S) fun S_33 r_33 =>
        if 0 ≤ r_33 then
          fX12_sendsFor_96 fu (fX12_sendsFor_2 fu n) x1 x2 x3 S_33
        else
          gd (ck (((300 : Int32) * x1) + (S.1 94 ((((10 : Int32) * x2) + x3)).toNatClampNeg)) 1200) <|
          if (S_33.1 103 ((((300 : Int32) * x1) + (S.1 94 ((((10 : Int32) * x2) + x3)).toNatClampNeg))).toNatClampNeg) = 0 then
            if (S_33.1 63 62) = (4 : Int32) then
              bd (fX12_ends fu (3 : Int32) S_33) fun S_68 _ =>
              some (S_68, (1 : Int32))
            else
              gd (ck (((300 : Int32) * x1) + (S.1 94 ((((10 : Int32) * x2) + x3)).toNatClampNeg)) 1200) <|
              sI 103 ((((300 : Int32) * x1) + (S.1 94 ((((10 : Int32) * x2) + x3)).toNatClampNeg))).toNatClampNeg (vp_nar .boolean (1 : Int32)) S_33 fun S_86 =>
              bd (fX12_opens fu (S.1 94 ((((10 : Int32) * x2) + x3)).toNatClampNeg) (1 : Int32) S_86) fun S_91 _ =>
              some (S_91, (1 : Int32))
          else
            fX12_sendsFor_96 fu (fX12_sendsFor_2 fu n) x1 x2 x3 S_33) := rfl
noncomputable def fX12_sendsFor (fu : Nat) (x1 : Int32) (x2 : Int32) (S : St) : Option (St × Int32) :=
  fX12_sendsFor_2 fu fu x1 x2 (0 : Int32) S
noncomputable def fX12_knows_76 (fu : Nat) (x1 : Int32) (x2 : Int32) (S : St) : Option (St × Int32) :=
  if x2 < 0 then
    gd (ck x1 4) <|
    bd (fX12_hasNothing fu (S.1 97 (x1).toNatClampNeg) (0 : Int32) S) fun S_121 r_121 =>
    if r_121 = 0 then
      gd (ck x1 4) <|
      gd (ck x1 4) <|
      bd (fX12_hasNothing fu (S_121.1 97 (x1).toNatClampNeg) (S_121.1 98 (x1).toNatClampNeg) S_121) fun S_148 r_148 =>
      if r_148 = 0 then
        some (S_148, (0 : Int32))
      else
        bd (fX12_ends fu (1 : Int32) S_148) fun S_156 _ =>
        some (S_156, (1 : Int32))
    else
      bd (fX12_ends fu (2 : Int32) S_121) fun S_129 _ =>
      some (S_129, (1 : Int32))
  else
    gd (ck ((10 : Int32) * x2) 1000) <|
    gd (ck x1 4) <|
    sI 97 (x1).toNatClampNeg (S.1 94 (((10 : Int32) * x2)).toNatClampNeg) S fun S_94 =>
    gd (ck x1 4) <|
    gd (ck x1 4) <|
    sI 99 (x1).toNatClampNeg ((S_94.1 99 (x1).toNatClampNeg) + (1 : Int32)) S_94 fun S_104 =>
    bd (fX12_anew fu x1 S_104) fun S_107 _ =>
    some (S_107, (1 : Int32))
noncomputable def fX12_knows_25 (fu : Nat) (x1 : Int32) (t0 : Int32) (S : St) : Option (St × Int32) :=
  gd (ck x1 4) <|
  gd (ck x1 4) <|
  bd (fX12_set fu (S.1 97 (x1).toNatClampNeg) (S.1 98 (x1).toNatClampNeg) S) fun S_39 r_39 =>
  if r_39 < 0 then
    if t0 < 0 then
      fX12_knows_76 fu x1 t0 S_39
    else
      gd (ck x1 4) <|
      if (S_39.1 99 (x1).toNatClampNeg) = (8 : Int32) then
        bd (fX12_ends fu (3 : Int32) S_39) fun S_70 _ =>
        some (S_70, (1 : Int32))
      else
        fX12_knows_76 fu x1 t0 S_39
  else
    bd (fX12_ends fu (0 : Int32) S_39) fun S_47 _ =>
    some (S_47, (1 : Int32))
noncomputable def fX12_knows (fu : Nat) (x1 : Int32) (S : St) : Option (St × Int32) :=
  gd (ck x1 4) <|
  if (S.1 98 (x1).toNatClampNeg) = (5 : Int32) then
    fX12_knows_25 fu x1 (-1 : Int32) S
  else
    gd (ck x1 4) <|
    bd (fX12_set fu (S.1 97 (x1).toNatClampNeg) (5 : Int32) S) fun S_22 r_22 =>
    fX12_knows_25 fu x1 r_22 S_22
noncomputable def fX12_goes_123 (fu : Nat) (S : St) : Option (St × Int32) :=
  if (S.1 63 67) = 0 then
    some (S, (0 : Int32))
  else
    some (S, (1 : Int32))
noncomputable def fX12_goes_120 (fu : Nat) (k_5 : St → Option (St × Int32)) (S : St) : Option (St × Int32) :=
  k_5 S
noncomputable def fX12_goes_90 (fu : Nat) (k_5 : St → Option (St × Int32)) (x1 : Int32) (x2 : Int32) (S : St) : Option (St × Int32) :=
  bd (fX12_set fu x2 (2 : Int32) S) fun S_93 r_93 =>
  bd (fX12_tries fu x1 r_93 S_93) fun S_100 r_100 =>
  if r_100 = 0 then
    bd (fX12_sendsFor fu x1 r_93 S_100) fun S_109 r_109 =>
    if r_109 = 0 then
      bd (fX12_ends fu (3 : Int32) S_109) fun S_117 _ =>
      fX12_goes_120 fu k_5 S_117
    else
      fX12_goes_120 fu k_5 S_109
  else
    fX12_goes_120 fu k_5 S_100
noncomputable def fX12_goes_68 (fu : Nat) (k_5 : St → Option (St × Int32)) (x1 : Int32) (x2 : Int32) (S : St) : Option (St × Int32) :=
  gd (ck x1 4) <|
  if x2 = (S.1 100 (x1).toNatClampNeg) then
    fX12_goes_90 fu k_5 x1 x2 S
  else
    gd (ck x1 4) <|
    sI 100 (x1).toNatClampNeg x2 S fun S_84 =>
    bd (fX12_anew fu x1 S_84) fun S_87 _ =>
    fX12_goes_90 fu k_5 x1 x2 S_87
noncomputable def fX12_goes_45 (fu : Nat) (k_5 : St → Option (St × Int32)) (n : Nat) : Int32 → Int32 → St → Option (St × Int32) :=
  Nat.rec (motive := fun _ => Int32 → Int32 → St → Option (St × Int32)) (fun _ _ _ => none) (fun _ k_45 x1 x2 S =>
    if x2 ≤ 0 then
      fX12_goes_68 fu k_5 x1 x2 S
    else
      bd (fX12_set fu x2 (2 : Int32) S) fun S_52 r_52 =>
      if 0 ≤ r_52 then
        fX12_goes_68 fu k_5 x1 x2 S_52
      else
        gd (ck x2 300) <|
        k_45 x1 (S_52.1 64 (x2).toNatClampNeg) S_52) n
theorem fX12_goes_45_s (fu : Nat) (k_5 : St → Option (St × Int32)) (n : Nat) (x1 : Int32) (x2 : Int32) (S : St) : fX12_goes_45 fu k_5 (n + 1) x1 x2 S = (
    if x2 ≤ 0 then
      fX12_goes_68 fu k_5 x1 x2 S
    else
      bd (fX12_set fu x2 (2 : Int32) S) fun S_52 r_52 =>
      if 0 ≤ r_52 then
        fX12_goes_68 fu k_5 x1 x2 S_52
      else
        gd (ck x2 300) <|
        (fX12_goes_45 fu k_5 n) x1 (S_52.1 64 (x2).toNatClampNeg) S_52) := rfl
noncomputable def fX12_goes_5 (fu : Nat) (n : Nat) : St → Option (St × Int32) :=
  Nat.rec (motive := fun _ => St → Option (St × Int32)) (fun  _ => none) (fun _ k_5  S =>
    if (S.1 63 63) = (4 : Int32) then
      if (S.1 63 67) = 0 then
        bd (fX12_knows fu ((S.1 63 62) - (1 : Int32)) S) fun S_29 r_29 =>
        if r_29 = 0 then
          gd (ck ((S.1 63 62) - (1 : Int32)) 4) <|
          fX12_goes_45 fu k_5 fu ((S.1 63 62) - (1 : Int32)) (S_29.1 97 (((S.1 63 62) - (1 : Int32))).toNatClampNeg) S_29
        else
          k_5 S_29
      else
        fX12_goes_123 fu S
    else
      fX12_goes_123 fu S) n
theorem fX12_goes_5_s (fu : Nat) (n : Nat) (S : St) : fX12_goes_5 fu (n + 1) S = (
    if (S.1 63 63) = (4 : Int32) then
      if (S.1 63 67) = 0 then
        bd (fX12_knows fu ((S.1 63 62) - (1 : Int32)) S) fun S_29 r_29 =>
        if r_29 = 0 then
          gd (ck ((S.1 63 62) - (1 : Int32)) 4) <|
          fX12_goes_45 fu (fX12_goes_5 fu n) fu ((S.1 63 62) - (1 : Int32)) (S_29.1 97 (((S.1 63 62) - (1 : Int32))).toNatClampNeg) S_29
        else
          (fX12_goes_5 fu n) S_29
      else
        fX12_goes_123 fu S
    else
      fX12_goes_123 fu S) := rfl
noncomputable def fX12_goes (fu : Nat) (S : St) : Option (St × Int32) :=
  sI 63 67 (0 : Int32) S fun S_2 =>
  fX12_goes_5 fu fu S_2
noncomputable def fX12_ask_52 (fu : Nat) (x1 : Int32) (x2 : Int32) (t0 : Int32) (S : St) : Option (St × Int32) :=
  bd (fX12_throwsIf fu t0 (3 : Int32) S) fun S_53 r_53 =>
  if r_53 = 0 then
    sI 63 62 (0 : Int32) S_53 fun S_63 =>
    sI 63 65 (0 : Int32) S_63 fun S_68 =>
    sI 63 71 (0 : Int32) S_68 fun S_73 =>
    sI 63 63 (4 : Int32) S_73 fun S_78 =>
    bd (fX12_opens fu x1 x2 S_78) fun S_84 _ =>
    bd (fX12_goes fu S_84) fun S_88 r_88 =>
    some (S_88, r_88)
  else
    some (S_53, (0 : Int32))
noncomputable def fX12_ask_32 (fu : Nat) (x1 : Int32) (x2 : Int32) (t0 : Int32) (S : St) : Option (St × Int32) :=
  bd (fX12_throwsIf fu t0 (2 : Int32) S) fun S_33 r_33 =>
  if r_33 = 0 then
    bd (fX12_isType fu x2 S_33) fun S_41 r_41 =>
    if r_41 = 0 then
      fX12_ask_52 fu x1 x2 (1 : Int32) S_41
    else
      fX12_ask_52 fu x1 x2 (0 : Int32) S_41
  else
    some (S_33, (0 : Int32))
noncomputable def fX12_ask (fu : Nat) (x1 : Int32) (x2 : Int32) (S : St) : Option (St × Int32) :=
  sI 63 0 (0 : Int32) S fun S_2 =>
  bd (fX12_noName fu x1 S_2) fun S_8 r_8 =>
  bd (fX12_throwsIf fu r_8 (1 : Int32) S_8) fun S_12 r_12 =>
  if r_12 = 0 then
    if (S_12.1 63 63) = (4 : Int32) then
      fX12_ask_32 fu x1 x2 (1 : Int32) S_12
    else
      fX12_ask_32 fu x1 x2 (0 : Int32) S_12
  else
    some (S_12, (0 : Int32))
noncomputable def fX12_gathers_190 (fu : Nat) (k_15 : Int32 → Int32 → Int32 → Int32 → St → Option (St × Int32)) (x1 : Int32) (x2 : Int32) (x3 : Int32) (x4 : Int32) (S : St) : Option (St × Int32) :=
  k_15 x1 x2 x3 (x4 + (1 : Int32)) S
noncomputable def fX12_gathers_139 (fu : Nat) (k_15 : Int32 → Int32 → Int32 → Int32 → St → Option (St × Int32)) (k_103 : Int32 → Int32 → Int32 → Int32 → Int32 → Int32 → St → Option (St × Int32)) (x1 : Int32) (x2 : Int32) (x3 : Int32) (x4 : Int32) (x8 : Int32) (t0 : Int32) (S : St) : Option (St × Int32) :=
  k_103 x1 x2 x3 x4 t0 (x8 + (1 : Int32)) S
noncomputable def fX12_gathers_134 (fu : Nat) (k_15 : Int32 → Int32 → Int32 → Int32 → St → Option (St × Int32)) (k_103 : Int32 → Int32 → Int32 → Int32 → Int32 → Int32 → St → Option (St × Int32)) (x1 : Int32) (x2 : Int32) (x3 : Int32) (x4 : Int32) (x8 : Int32) (S : St) : Option (St × Int32) :=
  fX12_gathers_139 fu k_15 k_103 x1 x2 x3 x4 x8 (1 : Int32) S
noncomputable def fX12_gathers_103 (fu : Nat) (k_15 : Int32 → Int32 → Int32 → Int32 → St → Option (St × Int32)) (n : Nat) : Int32 → Int32 → Int32 → Int32 → Int32 → Int32 → St → Option (St × Int32) :=
  Nat.rec (motive := fun _ => Int32 → Int32 → Int32 → Int32 → Int32 → Int32 → St → Option (St × Int32)) (fun _ _ _ _ _ _ _ => none) (fun _ k_103 x1 x2 x3 x4 x7 x8 S =>
    if (S.1 63 53) ≤ x8 then
      if x7 = 0 then
        if (S.1 63 53) = (10 : Int32) then
          fX12_gathers_190 fu k_15 x1 x2 x3 x4 S
        else
          gd (ck x4 100) <|
          gd (ck (S.1 63 53) 10) <|
          sI 96 ((S.1 63 53)).toNatClampNeg (S.1 88 (x4).toNatClampNeg) S fun S_179 =>
          sI 63 53 ((S_179.1 63 53) + (1 : Int32)) S_179 fun S_187 =>
          fX12_gathers_190 fu k_15 x1 x2 x3 x4 S_187
      else
        fX12_gathers_190 fu k_15 x1 x2 x3 x4 S
    else
      if x7 = 0 then
        gd (ck x8 10) <|
        gd (ck x4 100) <|
        if (S.1 96 (x8).toNatClampNeg) = (S.1 88 (x4).toNatClampNeg) then
          fX12_gathers_134 fu k_15 k_103 x1 x2 x3 x4 x8 S
        else
          fX12_gathers_139 fu k_15 k_103 x1 x2 x3 x4 x8 (0 : Int32) S
      else
        fX12_gathers_134 fu k_15 k_103 x1 x2 x3 x4 x8 S) n
theorem fX12_gathers_103_s (fu : Nat) (k_15 : Int32 → Int32 → Int32 → Int32 → St → Option (St × Int32)) (n : Nat) (x1 : Int32) (x2 : Int32) (x3 : Int32) (x4 : Int32) (x7 : Int32) (x8 : Int32) (S : St) : fX12_gathers_103 fu k_15 (n + 1) x1 x2 x3 x4 x7 x8 S = (
    if (S.1 63 53) ≤ x8 then
      if x7 = 0 then
        if (S.1 63 53) = (10 : Int32) then
          fX12_gathers_190 fu k_15 x1 x2 x3 x4 S
        else
          gd (ck x4 100) <|
          gd (ck (S.1 63 53) 10) <|
          sI 96 ((S.1 63 53)).toNatClampNeg (S.1 88 (x4).toNatClampNeg) S fun S_179 =>
          sI 63 53 ((S_179.1 63 53) + (1 : Int32)) S_179 fun S_187 =>
          fX12_gathers_190 fu k_15 x1 x2 x3 x4 S_187
      else
        fX12_gathers_190 fu k_15 x1 x2 x3 x4 S
    else
      if x7 = 0 then
        gd (ck x8 10) <|
        gd (ck x4 100) <|
        if (S.1 96 (x8).toNatClampNeg) = (S.1 88 (x4).toNatClampNeg) then
          fX12_gathers_134 fu k_15 (fX12_gathers_103 fu k_15 n) x1 x2 x3 x4 x8 S
        else
          fX12_gathers_139 fu k_15 (fX12_gathers_103 fu k_15 n) x1 x2 x3 x4 x8 (0 : Int32) S
      else
        fX12_gathers_134 fu k_15 (fX12_gathers_103 fu k_15 n) x1 x2 x3 x4 x8 S) := rfl
noncomputable def fX12_gathers_94 (fu : Nat) (k_15 : Int32 → Int32 → Int32 → Int32 → St → Option (St × Int32)) (x1 : Int32) (x2 : Int32) (x3 : Int32) (x4 : Int32) (t0 : Int64) (S : St) : Option (St × Int32) :=
  sJ 63 54 t0 S fun S_94 =>
  fX12_gathers_103 fu k_15 fu x1 x2 x3 x4 (0 : Int32) (0 : Int32) S_94
noncomputable def fX12_gathers_15 (fu : Nat) (n : Nat) : Int32 → Int32 → Int32 → Int32 → St → Option (St × Int32) :=
  Nat.rec (motive := fun _ => Int32 → Int32 → Int32 → Int32 → St → Option (St × Int32)) (fun _ _ _ _ _ => none) (fun _ k_15 x1 x2 x3 x4 S =>
    if (S.1 63 42) ≤ x4 then
      some (S, (S.1 63 53))
    else
      gd (ck x4 100) <|
      if (S.1 85 (x4).toNatClampNeg) = x1 then
        gd (ck x4 100) <|
        if (S.1 86 (x4).toNatClampNeg) = x2 then
          gd (ck x4 100) <|
          if (S.1 87 (x4).toNatClampNeg) = x3 then
            gd (ck x4 100) <|
            if 0 ≤ (lg_cmp (((S.1 89 (x4).toNatClampNeg)).toInt64 &&& (4294967295 : Int64)) (S.2 63 54)) then
              fX12_gathers_94 fu k_15 x1 x2 x3 x4 (S.2 63 54) S
            else
              fX12_gathers_94 fu k_15 x1 x2 x3 x4 (((S.1 89 (x4).toNatClampNeg)).toInt64 &&& (4294967295 : Int64)) S
          else
            fX12_gathers_190 fu k_15 x1 x2 x3 x4 S
        else
          fX12_gathers_190 fu k_15 x1 x2 x3 x4 S
      else
        fX12_gathers_190 fu k_15 x1 x2 x3 x4 S) n
theorem fX12_gathers_15_s (fu : Nat) (n : Nat) (x1 : Int32) (x2 : Int32) (x3 : Int32) (x4 : Int32) (S : St) : fX12_gathers_15 fu (n + 1) x1 x2 x3 x4 S = (
    if (S.1 63 42) ≤ x4 then
      some (S, (S.1 63 53))
    else
      gd (ck x4 100) <|
      if (S.1 85 (x4).toNatClampNeg) = x1 then
        gd (ck x4 100) <|
        if (S.1 86 (x4).toNatClampNeg) = x2 then
          gd (ck x4 100) <|
          if (S.1 87 (x4).toNatClampNeg) = x3 then
            gd (ck x4 100) <|
            if 0 ≤ (lg_cmp (((S.1 89 (x4).toNatClampNeg)).toInt64 &&& (4294967295 : Int64)) (S.2 63 54)) then
              fX12_gathers_94 fu (fX12_gathers_15 fu n) x1 x2 x3 x4 (S.2 63 54) S
            else
              fX12_gathers_94 fu (fX12_gathers_15 fu n) x1 x2 x3 x4 (((S.1 89 (x4).toNatClampNeg)).toInt64 &&& (4294967295 : Int64)) S
          else
            fX12_gathers_190 fu (fX12_gathers_15 fu n) x1 x2 x3 x4 S
        else
          fX12_gathers_190 fu (fX12_gathers_15 fu n) x1 x2 x3 x4 S
      else
        fX12_gathers_190 fu (fX12_gathers_15 fu n) x1 x2 x3 x4 S) := rfl
noncomputable def fX12_gathers (fu : Nat) (x1 : Int32) (x2 : Int32) (x3 : Int32) (S : St) : Option (St × Int32) :=
  sI 63 53 (0 : Int32) S fun S_2 =>
  sJ 63 54 (4294967296 : Int64) S_2 fun S_9 =>
  fX12_gathers_15 fu fu x1 x2 x3 (0 : Int32) S_9
noncomputable def fX12_first_52 (fu : Nat) (k_3 : Int32 → Int32 → Int32 → Int32 → St → Option (St × Int32)) (x1 : Int32) (x2 : Int32) (x3 : Int32) (x4 : Int32) (S : St) : Option (St × Int32) :=
  k_3 x1 x2 x3 (x4 + (1 : Int32)) S
noncomputable def fX12_first_3 (fu : Nat) (n : Nat) : Int32 → Int32 → Int32 → Int32 → St → Option (St × Int32) :=
  Nat.rec (motive := fun _ => Int32 → Int32 → Int32 → Int32 → St → Option (St × Int32)) (fun _ _ _ _ _ => none) (fun _ k_3 x1 x2 x3 x4 S =>
    if (S.1 63 42) ≤ x4 then
      some (S, (-1 : Int32))
    else
      gd (ck x4 100) <|
      if (S.1 85 (x4).toNatClampNeg) = x1 then
        gd (ck x4 100) <|
        if (S.1 87 (x4).toNatClampNeg) = x2 then
          if x3 < 0 then
            some (S, x4)
          else
            gd (ck x4 100) <|
            if (S.1 86 (x4).toNatClampNeg) = x3 then
              some (S, x4)
            else
              fX12_first_52 fu k_3 x1 x2 x3 x4 S
        else
          fX12_first_52 fu k_3 x1 x2 x3 x4 S
      else
        fX12_first_52 fu k_3 x1 x2 x3 x4 S) n
theorem fX12_first_3_s (fu : Nat) (n : Nat) (x1 : Int32) (x2 : Int32) (x3 : Int32) (x4 : Int32) (S : St) : fX12_first_3 fu (n + 1) x1 x2 x3 x4 S = (
    if (S.1 63 42) ≤ x4 then
      some (S, (-1 : Int32))
    else
      gd (ck x4 100) <|
      if (S.1 85 (x4).toNatClampNeg) = x1 then
        gd (ck x4 100) <|
        if (S.1 87 (x4).toNatClampNeg) = x2 then
          if x3 < 0 then
            some (S, x4)
          else
            gd (ck x4 100) <|
            if (S.1 86 (x4).toNatClampNeg) = x3 then
              some (S, x4)
            else
              fX12_first_52 fu (fX12_first_3 fu n) x1 x2 x3 x4 S
        else
          fX12_first_52 fu (fX12_first_3 fu n) x1 x2 x3 x4 S
      else
        fX12_first_52 fu (fX12_first_3 fu n) x1 x2 x3 x4 S) := rfl
noncomputable def fX12_first (fu : Nat) (x1 : Int32) (x2 : Int32) (x3 : Int32) (S : St) : Option (St × Int32) :=
  fX12_first_3 fu fu x1 x2 x3 (0 : Int32) S
noncomputable def fX12_isReply (fu : Nat) (S : St) : Option (St × Int32) :=
  if (S.1 63 36) = (S.1 63 69) then
    gd (ck ((S.1 63 62) - (1 : Int32)) 4) <|
    if (S.1 63 32) = (S.1 97 (((S.1 63 62) - (1 : Int32))).toNatClampNeg) then
      gd (ck ((S.1 63 62) - (1 : Int32)) 4) <|
      if (S.1 63 33) = (S.1 98 (((S.1 63 62) - (1 : Int32))).toNatClampNeg) then
        if (S.1 63 34) = (1 : Int32) then
          if ((S.1 63 35) &&& (32768 : Int32)) = 0 then
            some (S, (0 : Int32))
          else
            some (S, (1 : Int32))
        else
          some (S, (0 : Int32))
      else
        some (S, (0 : Int32))
    else
      some (S, (0 : Int32))
  else
    some (S, (0 : Int32))
noncomputable def fX12_nothing_47 (fu : Nat) (x1 : Int32) (x2 : Int32) (t0 : Int64) (S : St) : Option (St × Int32) :=
  sJ 63 54 t0 S fun S_47 =>
  bd (fX12_puts fu x1 x2 S_47) fun S_53 _ =>
  some (S_53, (0 : Int32))
noncomputable def fX12_nothing (fu : Nat) (x1 : Int32) (x2 : Int32) (x3 : Int32) (S : St) : Option (St × Int32) :=
  gd (ck x3 100) <|
  gd (ck x3 100) <|
  sI 63 53 (0 : Int32) S fun S_28 =>
  if 0 ≤ (lg_cmp (((S.1 89 (x3).toNatClampNeg)).toInt64 &&& (4294967295 : Int64)) (((S.1 88 (x3).toNatClampNeg)).toInt64 &&& (4294967295 : Int64))) then
    fX12_nothing_47 fu x1 x2 (((S.1 88 (x3).toNatClampNeg)).toInt64 &&& (4294967295 : Int64)) S_28
  else
    fX12_nothing_47 fu x1 x2 (((S.1 89 (x3).toNatClampNeg)).toInt64 &&& (4294967295 : Int64)) S_28
noncomputable def fX12_refersTo_154 (fu : Nat) (k_119 : Int32 → Int32 → St → Option (St × Int32)) (x4 : Int32) (x5 : Int32) (S : St) : Option (St × Int32) :=
  k_119 x4 (x5 + (1 : Int32)) S
noncomputable def fX12_refersTo_119 (fu : Nat) (n : Nat) : Int32 → Int32 → St → Option (St × Int32) :=
  Nat.rec (motive := fun _ => Int32 → Int32 → St → Option (St × Int32)) (fun _ _ _ => none) (fun _ k_119 x4 x5 S =>
    if x4 ≤ x5 then
      some (S, (0 : Int32))
    else
      gd (ck x5 10) <|
      bd (fX12_gathers fu (2 : Int32) (S.1 105 (x5).toNatClampNeg) (1 : Int32) S) fun S_136 r_136 =>
      if r_136 ≤ 0 then
        fX12_refersTo_154 fu k_119 x4 x5 S_136
      else
        gd (ck x5 10) <|
        bd (fX12_puts fu (S_136.1 105 (x5).toNatClampNeg) (1 : Int32) S_136) fun S_151 _ =>
        fX12_refersTo_154 fu k_119 x4 x5 S_151) n
theorem fX12_refersTo_119_s (fu : Nat) (n : Nat) (x4 : Int32) (x5 : Int32) (S : St) : fX12_refersTo_119 fu (n + 1) x4 x5 S = (
    if x4 ≤ x5 then
      some (S, (0 : Int32))
    else
      gd (ck x5 10) <|
      bd (fX12_gathers fu (2 : Int32) (S.1 105 (x5).toNatClampNeg) (1 : Int32) S) fun S_136 r_136 =>
      if r_136 ≤ 0 then
        fX12_refersTo_154 fu (fX12_refersTo_119 fu n) x4 x5 S_136
      else
        gd (ck x5 10) <|
        bd (fX12_puts fu (S_136.1 105 (x5).toNatClampNeg) (1 : Int32) S_136) fun S_151 _ =>
        fX12_refersTo_154 fu (fX12_refersTo_119 fu n) x4 x5 S_151) := rfl
noncomputable def fX12_refersTo_78 (fu : Nat) (n : Nat) : Int32 → Int32 → Int32 → St → Option (St × Int32) :=
  Nat.rec (motive := fun _ => Int32 → Int32 → Int32 → St → Option (St × Int32)) (fun _ _ _ _ => none) (fun _ k_78 x3 x4 x5 S =>
    if x4 ≤ x5 then
      gd (ck x3 100) <|
      bd (fX12_puts fu (S.1 86 (x3).toNatClampNeg) (2 : Int32) S) fun S_113 _ =>
      fX12_refersTo_119 fu fu x4 (0 : Int32) S_113
    else
      gd (ck x5 10) <|
      gd (ck x5 10) <|
      sI 105 (x5).toNatClampNeg (S.1 96 (x5).toNatClampNeg) S fun S_98 =>
      k_78 x3 x4 (x5 + (1 : Int32)) S_98) n
theorem fX12_refersTo_78_s (fu : Nat) (n : Nat) (x3 : Int32) (x4 : Int32) (x5 : Int32) (S : St) : fX12_refersTo_78 fu (n + 1) x3 x4 x5 S = (
    if x4 ≤ x5 then
      gd (ck x3 100) <|
      bd (fX12_puts fu (S.1 86 (x3).toNatClampNeg) (2 : Int32) S) fun S_113 _ =>
      fX12_refersTo_119 fu fu x4 (0 : Int32) S_113
    else
      gd (ck x5 10) <|
      gd (ck x5 10) <|
      sI 105 (x5).toNatClampNeg (S.1 96 (x5).toNatClampNeg) S fun S_98 =>
      (fX12_refersTo_78 fu n) x3 x4 (x5 + (1 : Int32)) S_98) := rfl
noncomputable def fX12_refersTo (fu : Nat) (x1 : Int32) (x2 : Int32) (S : St) : Option (St × Int32) :=
  bd (fX12_first fu (1 : Int32) (2 : Int32) (-1 : Int32) S) fun S_4 r_4 =>
  if r_4 < 0 then
    some (S_4, (0 : Int32))
  else
    gd (ck r_4 100) <|
    gd (ck x1 4) <|
    if (S_4.1 86 (r_4).toNatClampNeg) = (S_4.1 100 (x1).toNatClampNeg) then
      some (S_4, (0 : Int32))
    else
      gd (ck r_4 100) <|
      gd (ck x1 4) <|
      bd (fX12_isIn fu (S_4.1 86 (r_4).toNatClampNeg) (S_4.1 100 (x1).toNatClampNeg) S_4) fun S_40 r_40 =>
      if r_40 = 0 then
        some (S_40, (0 : Int32))
      else
        gd (ck r_4 100) <|
        bd (fX12_isIn fu x2 (S_40.1 86 (r_4).toNatClampNeg) S_40) fun S_54 r_54 =>
        if r_54 = 0 then
          some (S_54, (0 : Int32))
        else
          gd (ck r_4 100) <|
          bd (fX12_gathers fu (1 : Int32) (S_54.1 86 (r_4).toNatClampNeg) (2 : Int32) S_54) fun S_70 r_70 =>
          fX12_refersTo_78 fu fu r_4 r_70 (0 : Int32) S_70
noncomputable def fX12_takes_178 (fu : Nat) (x1 : Int32) (x2 : Int32) (S : St) : Option (St × Int32) :=
  bd (fX12_refersTo fu x1 x2 S) fun S_181 _ =>
  some (S_181, (0 : Int32))
noncomputable def fX12_takes_141 (fu : Nat) (x1 : Int32) (x2 : Int32) (x3 : Int32) (x5 : Int32) (S : St) : Option (St × Int32) :=
  if ((S.1 63 35) &&& (15 : Int32)) = 0 then
    if ((S.1 63 35) &&& (1024 : Int32)) = 0 then
      fX12_takes_178 fu x1 x2 S
    else
      if x5 < 0 then
        fX12_takes_178 fu x1 x2 S
      else
        bd (fX12_nothing fu x2 x3 x5 S) fun S_172 _ =>
        some (S_172, (0 : Int32))
  else
    fX12_takes_178 fu x1 x2 S
noncomputable def fX12_takes_54 (fu : Nat) (x1 : Int32) (x2 : Int32) (x3 : Int32) (t0 : Int32) (S : St) : Option (St × Int32) :=
  bd (fX12_first fu (1 : Int32) (6 : Int32) (-1 : Int32) S) fun S_61 r_61 =>
  if t0 < 0 then
    if ((S_61.1 63 35) &&& (15 : Int32)) = (3 : Int32) then
      if r_61 < 0 then
        fX12_takes_141 fu x1 x2 x3 r_61 S_61
      else
        bd (fX12_nothing fu x2 (0 : Int32) r_61 S_61) fun S_135 _ =>
        some (S_135, (0 : Int32))
    else
      fX12_takes_141 fu x1 x2 x3 r_61 S_61
  else
    sI 63 53 (1 : Int32) S_61 fun S_73 =>
    gd (ck t0 100) <|
    gd (ck (0 : Int32) 10) <|
    sI 96 ((0 : Int32)).toNatClampNeg (S_73.1 88 (t0).toNatClampNeg) S_73 fun S_88 =>
    gd (ck t0 100) <|
    sJ 63 54 (((S_88.1 89 (t0).toNatClampNeg)).toInt64 &&& (4294967295 : Int64)) S_88 fun S_102 =>
    bd (fX12_puts fu x2 (5 : Int32) S_102) fun S_108 _ =>
    some (S_108, (0 : Int32))
noncomputable def fX12_takes (fu : Nat) (S : St) : Option (St × Int32) :=
  gd (ck ((S.1 63 62) - (1 : Int32)) 4) <|
  gd (ck ((S.1 63 62) - (1 : Int32)) 4) <|
  bd (fX12_gathers fu (0 : Int32) (S.1 97 (((S.1 63 62) - (1 : Int32))).toNatClampNeg) (S.1 98 (((S.1 63 62) - (1 : Int32))).toNatClampNeg) S) fun S_25 r_25 =>
  if r_25 ≤ 0 then
    if (S.1 98 (((S.1 63 62) - (1 : Int32))).toNatClampNeg) = (5 : Int32) then
      fX12_takes_54 fu ((S.1 63 62) - (1 : Int32)) (S.1 97 (((S.1 63 62) - (1 : Int32))).toNatClampNeg) (S.1 98 (((S.1 63 62) - (1 : Int32))).toNatClampNeg) (-1 : Int32) S_25
    else
      bd (fX12_first fu (0 : Int32) (5 : Int32) (S.1 97 (((S.1 63 62) - (1 : Int32))).toNatClampNeg) S_25) fun S_51 r_51 =>
      fX12_takes_54 fu ((S.1 63 62) - (1 : Int32)) (S.1 97 (((S.1 63 62) - (1 : Int32))).toNatClampNeg) (S.1 98 (((S.1 63 62) - (1 : Int32))).toNatClampNeg) r_51 S_51
  else
    bd (fX12_puts fu (S.1 97 (((S.1 63 62) - (1 : Int32))).toNatClampNeg) (S.1 98 (((S.1 63 62) - (1 : Int32))).toNatClampNeg) S_25) fun S_34 _ =>
    some (S_34, (0 : Int32))
noncomputable def fX12_step_103 (fu : Nat) (S : St) : Option (St × Int32) :=
  bd (fX12_goes fu S) fun S_104 r_104 =>
  some (S_104, r_104)
noncomputable def fX12_step_75 (fu : Nat) (t0 : Int32) (S : St) : Option (St × Int32) :=
  if t0 ≤ 0 then
    fX12_step_103 fu S
  else
    bd (fX12_reads fu 82 1000 t0 S) fun S_86 r_86 =>
    if r_86 = 0 then
      fX12_step_103 fu S_86
    else
      bd (fX12_isReply fu S_86) fun S_93 r_93 =>
      if r_93 = 0 then
        fX12_step_103 fu S_93
      else
        bd (fX12_takes fu S_93) fun S_100 _ =>
        fX12_step_103 fu S_100
noncomputable def fX12_step_18 (fu : Nat) (t0 : Int32) (S : St) : Option (St × Int32) :=
  bd (fX12_throwsIf fu t0 (1 : Int32) S) fun S_19 r_19 =>
  if r_19 = 0 then
    bd (fX12_serverOf fu (S_19.1 63 68) S_19) fun S_32 r_32 =>
    if 0 ≤ r_32 then
      gd (ck ((S_32.1 63 62) - (1 : Int32)) 4) <|
      gd (ck ((S_32.1 63 62) - (1 : Int32)) 4) <|
      bd (fX12_says fu r_32 (S_32.1 63 69) (S_32.1 97 (((S_32.1 63 62) - (1 : Int32))).toNatClampNeg) (S_32.1 98 (((S_32.1 63 62) - (1 : Int32))).toNatClampNeg) S_32) fun S_72 r_72 =>
      fX12_step_75 fu r_72 S_72
    else
      fX12_step_75 fu (0 : Int32) S_32
  else
    some (S_19, (0 : Int32))
noncomputable def fX12_step (fu : Nat) (S : St) : Option (St × Int32) :=
  sI 63 0 (0 : Int32) S fun S_2 =>
  if (S_2.1 63 67) = 0 then
    fX12_step_18 fu (1 : Int32) S_2
  else
    fX12_step_18 fu (0 : Int32) S_2
noncomputable def fX12_lose_18 (fu : Nat) (t0 : Int32) (S : St) : Option (St × Int32) :=
  bd (fX12_throwsIf fu t0 (1 : Int32) S) fun S_19 r_19 =>
  if r_19 = 0 then
    bd (fX12_goes fu S_19) fun S_30 r_30 =>
    some (S_30, r_30)
  else
    some (S_19, (0 : Int32))
noncomputable def fX12_lose (fu : Nat) (S : St) : Option (St × Int32) :=
  sI 63 0 (0 : Int32) S fun S_2 =>
  if (S_2.1 63 67) = 0 then
    fX12_lose_18 fu (1 : Int32) S_2
  else
    fX12_lose_18 fu (0 : Int32) S_2
noncomputable def fX12_forge_18 (fu : Nat) (x1 : Int32) (t0 : Int32) (S : St) : Option (St × Int32) :=
  bd (fX12_throwsIf fu t0 (1 : Int32) S) fun S_19 r_19 =>
  if r_19 = 0 then
    bd (fX12_reads fu 70 1040 x1 S_19) fun S_33 r_33 =>
    if r_33 = 0 then
      some (S_33, (-1 : Int32))
    else
      bd (fX12_isReply fu S_33) fun S_40 r_40 =>
      if r_40 = 0 then
        some (S_40, (-1 : Int32))
      else
        bd (fX12_takes fu S_40) fun S_49 _ =>
        bd (fX12_goes fu S_49) fun S_53 r_53 =>
        some (S_53, r_53)
  else
    some (S_19, (0 : Int32))
noncomputable def fX12_forge (fu : Nat) (S : St) : Option (St × Int32) :=
  bd (fX12_used fu S) fun S_1 r_1 =>
  if (S_1.1 63 67) = 0 then
    fX12_forge_18 fu r_1 (1 : Int32) S_1
  else
    fX12_forge_18 fu r_1 (0 : Int32) S_1
noncomputable def fX12_query_18 (fu : Nat) (x1 : Int32) (t0 : Int32) (S : St) : Option (St × Int32) :=
  bd (fX12_throwsIf fu t0 (1 : Int32) S) fun S_19 r_19 =>
  if r_19 = 0 then
    if x1 = (0 : Int32) then
      some (S_19, (S_19.1 63 68))
    else
    if x1 = (1 : Int32) then
      some (S_19, (S_19.1 63 69))
    else
    if x1 = (2 : Int32) then
      gd (ck ((S_19.1 63 62) - (1 : Int32)) 4) <|
      some (S_19, (S_19.1 97 (((S_19.1 63 62) - (1 : Int32))).toNatClampNeg))
    else
    if x1 = (3 : Int32) then
      gd (ck ((S_19.1 63 62) - (1 : Int32)) 4) <|
      some (S_19, (S_19.1 98 (((S_19.1 63 62) - (1 : Int32))).toNatClampNeg))
    else
    if x1 = (4 : Int32) then
      some (S_19, (S_19.1 63 62))
    else
    if x1 = (5 : Int32) then
      gd (ck ((S_19.1 63 62) - (1 : Int32)) 4) <|
      some (S_19, (S_19.1 100 (((S_19.1 63 62) - (1 : Int32))).toNatClampNeg))
    else
      sI 63 0 (2 : Int32) S_19 fun S_121 =>
      some (S_121, (0 : Int32))
  else
    some (S_19, (0 : Int32))
noncomputable def fX12_query (fu : Nat) (x1 : Int32) (S : St) : Option (St × Int32) :=
  sI 63 0 (0 : Int32) S fun S_2 =>
  if (S_2.1 63 67) = 0 then
    fX12_query_18 fu x1 (1 : Int32) S_2
  else
    fX12_query_18 fu x1 (0 : Int32) S_2
noncomputable def fX12_result (fu : Nat) (x1 : Int32) (S : St) : Option (St × Int32) :=
  sI 63 0 (0 : Int32) S fun S_2 =>
  if x1 = (0 : Int32) then
    some (S_2, (S_2.1 63 63))
  else
  if x1 = (1 : Int32) then
    if (S_2.1 63 63) = 0 then
      some (S_2, (S_2.1 63 71))
    else
      some (S_2, (0 : Int32))
  else
  if x1 = (2 : Int32) then
    if (S_2.1 63 63) = (5 : Int32) then
      some (S_2, (0 : Int32))
    else
      gd (ck (0 : Int32) 4) <|
      some (S_2, (S_2.1 99 ((0 : Int32)).toNatClampNeg))
  else
  if x1 = (3 : Int32) then
    if (S_2.1 63 63) = (5 : Int32) then
      some (S_2, (0 : Int32))
    else
      gd (ck (0 : Int32) 4) <|
      some (S_2, (S_2.1 97 ((0 : Int32)).toNatClampNeg))
  else
  if x1 = (4 : Int32) then
    some (S_2, (S_2.1 63 65))
  else
    sI 63 0 (1 : Int32) S_2 fun S_106 =>
    some (S_106, (0 : Int32))
noncomputable def fX12_data_24 (fu : Nat) (S : St) : Option (St × Int32) :=
  some (S, (0 : Int32))
noncomputable def fX12_data (fu : Nat) (x1 : Int32) (S : St) : Option (St × Int32) :=
  sI 63 0 (0 : Int32) S fun S_2 =>
  if (S_2.1 63 63) = 0 then
    if x1 < 0 then
      fX12_data_24 fu S_2
    else
      if x1 < (S_2.1 63 71) then
        gd (ck x1 10) <|
        some (S_2, (S_2.1 104 (x1).toNatClampNeg))
      else
        fX12_data_24 fu S_2
  else
    fX12_data_24 fu S_2
noncomputable def fX12_count (fu : Nat) (x1 : Int32) (S : St) : Option (St × Int32) :=
  sI 63 0 (0 : Int32) S fun S_2 =>
  if x1 = (0 : Int32) then
    some (S_2, (S_2.1 63 5))
  else
  if x1 = (1 : Int32) then
    some (S_2, (S_2.1 63 14))
  else
  if x1 = (2 : Int32) then
    some (S_2, (S_2.1 63 20))
  else
  if x1 = (3 : Int32) then
    some (S_2, (S_2.1 63 23))
  else
  if x1 = (4 : Int32) then
    some (S_2, (S_2.1 63 25))
  else
  if x1 = (5 : Int32) then
    some (S_2, (S_2.1 63 51))
  else
  if x1 = (6 : Int32) then
    some (S_2, (S_2.1 63 50))
  else
  if x1 = (7 : Int32) then
    some (S_2, (S_2.1 63 66))
  else
  if x1 = (8 : Int32) then
    some (S_2, (S_2.1 63 10))
  else
    some (S_2, (-1 : Int32))
abbrev Ot : Type := Nat × Int32
def bx (x : Option (St × Ot)) (K : St → Int32 → Option (St × Ot)) : Option (St × Ot) := match x with
  | none => none
  | some y => if y.2.1 = 0 then K y.1 y.2.2 else some y
def bc {α : Type} (x : Option (St × Ot)) (K : St → Int32 → Option α) (X : St → Nat → Option α) : Option α := match x with
  | none => none
  | some y => if y.2.1 = 0 then K y.1 y.2.2 else X y.1 y.2.1
noncomputable def fX11_feed (fu : Nat) (x1 : Int32) (x2 : Int32) (x3 : Int32) (x4 : Int32) (x5 : Int32) (S : St) : Option (St × Int32) :=
  bd (fX0_size fu 1 S) fun S_4 r_4 =>
  if (r_4 + (20 : Int32)) ≤ (1000 : Int32) then
    bd (fX0_addFour fu 1 x1 S_4) fun S_23 _ =>
    bd (fX0_addFour fu 1 x2 S_23) fun S_31 _ =>
    bd (fX0_addFour fu 1 x3 S_31) fun S_39 _ =>
    bd (fX0_addFour fu 1 x4 S_39) fun S_48 _ =>
    bd (fX0_addFour fu 1 x5 S_48) fun S_57 _ =>
    bd (fX0_size fu 1 S_57) fun S_64 r_64 =>
    some (S_64, r_64)
  else
    some (S_4, (-1 : Int32))
noncomputable def fX11_end (fu : Nat) (x1 : Int32) (S : St) : Option (St × Int32) :=
  bd (fX0_cutTo fu 1 x1 S) fun S_5 r_5 =>
  gd (isB r_5) <|
  some (S_5, r_5)
noncomputable def fX11_turn (fu : Nat) (x1 : Int32) (x2 : Int32) (S : St) : Option (St × Int32) :=
  bd (fX0_set fu 1 x1 x2 S) fun S_6 r_6 =>
  gd (isB r_6) <|
  some (S_6, r_6)
noncomputable def fX11_name (fu : Nat) (S : St) : Option (St × Ot) :=
  bd (fX8_readText fu S) fun S_8 r_8 =>
  bd (fX0_clear fu 1 S_8) fun S_16 _ =>
  if r_8 = 0 then
    some (S_16, (1, (0 : Int32)))
  else
    bd (fX3_size fu S_16) fun S_37 r_37 =>
    bd (fX3_missing fu S_37) fun S_48 r_48 =>
    if (r_37 + r_48) ≤ (300 : Int32) then
      bd (fX3_made fu 7 S_48) fun S_76 r_76 =>
      some (S_76, (0, r_76))
    else
      some (S_48, (2, (0 : Int32)))
noncomputable def fX11_needName (fu : Nat) (x1 : Int32) (S : St) : Option (St × Ot) :=
  bd (fX3_has fu x1 S) fun S_5 r_5 =>
  if r_5 = 0 then
    some (S_5, (3, (0 : Int32)))
  else
    some (S_5, (0, (0 : Int32)))
noncomputable def fX11_look (fu : Nat) (x1 : Int32) (x2 : Int32) (S : St) : Option (St × Ot) :=
  bx (fX11_needName fu x1 S) fun S_2 _ =>
  if x2 = (0 : Int32) then
    bd (fX3_depth fu x1 S_2) fun S_37 r_37 =>
    some (S_37, (0, r_37))
  else
  if x2 = (1 : Int32) then
    bd (fX3_above fu x1 S_2) fun S_46 r_46 =>
    some (S_46, (0, r_46))
  else
  if x2 = (2 : Int32) then
    bd (fX3_textSize fu x1 S_2) fun S_55 r_55 =>
    some (S_55, (0, r_55))
  else
    some (S_2, (4, (0 : Int32)))
noncomputable def fX11_text (fu : Nat) (x1 : Int32) (x2 : Int32) (S : St) : Option (St × Ot) :=
  bx (fX11_needName fu x1 S) fun S_2 _ =>
  bd (fX3_textByte fu x1 x2 S_2) fun S_11 r_11 =>
  some (S_11, (0, r_11))
noncomputable def fX11_zone_24 (fu : Nat) (S : St) : Option (St × Ot) :=
  some (S, (1, (0 : Int32)))
noncomputable def fX11_zone (fu : Nat) (x1 : Int32) (x2 : Int32) (S : St) : Option (St × Ot) :=
  bx (fX11_needName fu x1 S) fun S_2 _ =>
  bd (fX11_isLife fu x2 S_2) fun S_6 r_6 =>
  if r_6 = 0 then
    fX11_zone_24 fu S_6
  else
    bd (fX10_ofApex fu x1 S_6) fun S_17 r_17 =>
    if r_17 = (-1 : Int32) then
      bd (fX10_size fu S_17) fun S_38 r_38 =>
      if r_38 < (12 : Int32) then
        bd (fX10_open fu x1 x2 S_38) fun S_62 r_62 =>
        some (S_62, (0, r_62))
      else
        some (S_38, (2, (0 : Int32)))
    else
      fX11_zone_24 fu S_17
noncomputable def fX11_needZone (fu : Nat) (x1 : Int32) (S : St) : Option (St × Ot) :=
  bd (fX10_has fu x1 S) fun S_5 r_5 =>
  if r_5 = 0 then
    some (S_5, (3, (0 : Int32)))
  else
    some (S_5, (0, (0 : Int32)))
noncomputable def fX11_record_44 (fu : Nat) (S : St) : Option (St × Ot) :=
  some (S, (1, (0 : Int32)))
noncomputable def fX11_record_83 (fu : Nat) (x1 : Int32) (x2 : Int32) (x3 : Int32) (x4 : Int32) (x5 : Int32) (S : St) : Option (St × Ot) :=
  bd (fX10_records fu S) fun S_87 r_87 =>
  if r_87 < (150 : Int32) then
    bd (fX10_add fu x1 x2 x3 x4 x5 S_87) fun S_117 _ =>
    bd (fX10_recordsOf fu x1 S_117) fun S_125 r_125 =>
    some (S_125, (0, r_125))
  else
    some (S_87, (2, (0 : Int32)))
noncomputable def fX11_record (fu : Nat) (x1 : Int32) (x2 : Int32) (x3 : Int32) (x4 : Int32) (x5 : Int32) (S : St) : Option (St × Ot) :=
  bx (fX11_needZone fu x1 S) fun S_2 _ =>
  bx (fX11_needName fu x2 S_2) fun S_7 _ =>
  bd (fX10_apexOf fu x1 S_7) fun S_20 r_20 =>
  bd (fX3_isIn fu x2 r_20 S_20) fun S_23 r_23 =>
  if r_23 = 0 then
    fX11_record_44 fu S_23
  else
    bd (fX11_isKept fu x3 S_23) fun S_30 r_30 =>
    if r_30 = 0 then
      fX11_record_44 fu S_30
    else
      bd (fX11_isLife fu x5 S_30) fun S_38 r_38 =>
      if r_38 = 0 then
        fX11_record_44 fu S_38
      else
        bd (fX11_isNamed fu x3 S_38) fun S_55 r_55 =>
        if r_55 = 0 then
          fX11_record_83 fu x1 x2 x3 x4 x5 S_55
        else
          bd (fX3_has fu x4 S_55) fun S_67 r_67 =>
          if r_67 = 0 then
            some (S_67, (1, (0 : Int32)))
          else
            fX11_record_83 fu x1 x2 x3 x4 x5 S_67
noncomputable def fX11_drop (fu : Nat) (x1 : Int32) (x2 : Int32) (x3 : Int32) (S : St) : Option (St × Ot) :=
  bx (fX11_needZone fu x1 S) fun S_2 _ =>
  bx (fX11_needName fu x2 S_2) fun S_7 _ =>
  bd (fX10_remove fu x1 x2 x3 S_7) fun S_17 r_17 =>
  some (S_17, (0, r_17))
noncomputable def fX11_server (fu : Nat) (x1 : Int32) (S : St) : Option (St × Ot) :=
  bd (fX7_ofAddress fu x1 S) fun S_5 r_5 =>
  if r_5 = (-1 : Int32) then
    bd (fX7_size fu S_5) fun S_26 r_26 =>
    if r_26 < (12 : Int32) then
      bd (fX7_open fu x1 S_26) fun S_49 r_49 =>
      some (S_49, (0, r_49))
    else
      some (S_26, (2, (0 : Int32)))
  else
    some (S_5, (1, (0 : Int32)))
noncomputable def fX11_needServer (fu : Nat) (x1 : Int32) (S : St) : Option (St × Ot) :=
  bd (fX7_has fu x1 S) fun S_5 r_5 =>
  if r_5 = 0 then
    some (S_5, (3, (0 : Int32)))
  else
    some (S_5, (0, (0 : Int32)))
noncomputable def fX11_serve (fu : Nat) (x1 : Int32) (x2 : Int32) (x3 : Int32) (S : St) : Option (St × Ot) :=
  bx (fX11_needServer fu x1 S) fun S_2 _ =>
  bx (fX11_needZone fu x2 S_2) fun S_7 _ =>
  bd (fX7_change fu x1 x2 x3 S_7) fun S_17 r_17 =>
  gd (isB r_17) <|
  some (S_17, (0, r_17))
noncomputable def fX11_say_67 (fu : Nat) (S : St) : Option (St × Ot) :=
  bd (fX0_size fu 1 S) fun S_71 r_71 =>
  some (S_71, (0, r_71))
noncomputable def fX11_say (fu : Nat) (x1 : Int32) (x2 : Int32) (x3 : Int32) (S : St) : Option (St × Ot) :=
  bx (fX11_needServer fu x1 S) fun S_2 _ =>
  bx (fX11_needName fu x2 S_2) fun S_7 _ =>
  bd (fX0_clear fu 1 S_7) fun S_14 _ =>
  bd (fX7_zoneFor fu x1 x2 S_14) fun S_23 r_23 =>
  if r_23 = (-1 : Int32) then
    fX11_say_67 fu S_23
  else
    bd (fX10_tell fu r_23 x2 x3 (0 : Int32) S_23) fun S_47 r_47 =>
    if r_47 = 0 then
      fX11_say_67 fu S_47
    else
      bd (fX9_message fu S_47) fun S_61 _ =>
      bd (fX0_copy fu S_61) fun S_64 _ =>
      fX11_say_67 fu S_64
noncomputable def fX11_parse (fu : Nat) (S : St) : Option (St × Int32) :=
  bd (fX4_read fu 1 S) fun S_8 r_8 =>
  bd (fX0_clear fu 1 S_8) fun S_16 _ =>
  if r_8 = 0 then
    bd (fX4_rows fu S_16) fun S_34 _ =>
    bd (fX5_copy fu S_34) fun S_37 _ =>
    bd (fX5_size fu 36 S_37) fun S_44 r_44 =>
    some (S_44, r_44)
  else
    some (S_16, (-r_8))
noncomputable def fX11_parsed (fu : Nat) (x1 : Int32) (x2 : Int32) (S : St) : Option (St × Ot) :=
  bd (fX5_has fu 36 x1 S) fun S_5 r_5 =>
  if r_5 = 0 then
    some (S_5, (4, (0 : Int32)))
  else
    if x2 = (0 : Int32) then
      bd (fX5_section fu 36 x1 S_5) fun S_61 r_61 =>
      some (S_61, (0, r_61))
    else
    if x2 = (1 : Int32) then
      bd (fX5_owner fu 36 x1 S_5) fun S_70 r_70 =>
      some (S_70, (0, r_70))
    else
    if x2 = (2 : Int32) then
      bd (fX5_type fu 36 x1 S_5) fun S_79 r_79 =>
      some (S_79, (0, r_79))
    else
    if x2 = (3 : Int32) then
      bd (fX5_value fu 36 x1 S_5) fun S_88 r_88 =>
      some (S_88, (0, r_88))
    else
    if x2 = (4 : Int32) then
      bd (fX5_life fu 36 x1 S_5) fun S_97 r_97 =>
      some (S_97, (0, r_97))
    else
      some (S_5, (4, (0 : Int32)))
noncomputable def fX11_hint (fu : Nat) (x1 : Int32) (S : St) : Option (St × Int32) :=
  bd (fX6_addHint fu x1 S) fun S_5 r_5 =>
  some (S_5, r_5)
noncomputable def fX11_tick_11 (fu : Nat) (S : St) : Option (St × Ot) :=
  some (S, (1, (0 : Int32)))
noncomputable def fX11_tick (fu : Nat) (x1 : Int32) (S : St) : Option (St × Ot) :=
  if x1 < 0 then
    fX11_tick_11 fu S
  else
    if x1 ≤ (100000 : Int32) then
      bd (fX1_goOn fu x1 S) fun S_27 r_27 =>
      some (S_27, (0, r_27))
    else
      fX11_tick_11 fu S
noncomputable def fX11_ask (fu : Nat) (x1 : Int32) (x2 : Int32) (S : St) : Option (St × Ot) :=
  bx (fX11_needName fu x1 S) fun S_2 _ =>
  bd (fX6_state fu S_2) fun S_9 r_9 =>
  if r_9 = (4 : Int32) then
    some (S_9, (5, (0 : Int32)))
  else
    bd (fX11_isKept fu x2 S_9) fun S_28 r_28 =>
    if r_28 = 0 then
      some (S_28, (1, (0 : Int32)))
    else
      bd (fX6_begin fu x1 x2 S_28) fun S_51 _ =>
      bd (fX6_goOn fu S_51) fun S_58 r_58 =>
      some (S_58, (0, r_58))
noncomputable def fX11_needQuery (fu : Nat) (S : St) : Option (St × Ot) :=
  bd (fX6_isWaiting fu S) fun S_4 r_4 =>
  if r_4 = 0 then
    some (S_4, (5, (0 : Int32)))
  else
    some (S_4, (0, (0 : Int32)))
noncomputable def fX11_step_120 (fu : Nat) (S : St) : Option (St × Ot) :=
  bd (fX6_goOn fu S) fun S_124 r_124 =>
  some (S_124, (0, r_124))
noncomputable def fX11_step (fu : Nat) (S : St) : Option (St × Ot) :=
  bx (fX11_needQuery fu S) fun S_1 _ =>
  bd (fX6_address fu S_1) fun S_12 r_12 =>
  bd (fX7_ofAddress fu r_12 S_12) fun S_15 r_15 =>
  bd (fX6_askedName fu S_15) fun S_28 r_28 =>
  bd (fX7_zoneFor fu r_15 r_28 S_28) fun S_31 r_31 =>
  if r_31 = (-1 : Int32) then
    fX11_step_120 fu S_31
  else
    bd (fX6_askedName fu S_31) fun S_49 r_49 =>
    bd (fX6_askedType fu S_49) fun S_56 r_56 =>
    bd (fX6_id fu S_56) fun S_63 r_63 =>
    bd (fX10_tell fu r_31 r_49 r_56 r_63 S_63) fun S_70 r_70 =>
    if r_70 = 0 then
      fX11_step_120 fu S_70
    else
      bd (fX9_message fu S_70) fun S_84 _ =>
      bd (fX4_read fu 19 S_84) fun S_87 r_87 =>
      if r_87 = 0 then
        bd (fX6_isAnsweredBy fu S_87) fun S_103 r_103 =>
        if r_103 = 0 then
          fX11_step_120 fu S_103
        else
          bd (fX6_learn fu S_103) fun S_117 _ =>
          fX11_step_120 fu S_117
      else
        fX11_step_120 fu S_87
noncomputable def fX11_lose (fu : Nat) (S : St) : Option (St × Ot) :=
  bx (fX11_needQuery fu S) fun S_1 _ =>
  bd (fX6_goOn fu S_1) fun S_8 r_8 =>
  some (S_8, (0, r_8))
noncomputable def fX11_forge (fu : Nat) (S : St) : Option (St × Ot) :=
  bd (fX6_isWaiting fu S) fun S_4 r_4 =>
  if r_4 = 0 then
    bd (fX0_clear fu 1 S_4) fun S_14 _ =>
    some (S_14, (5, (0 : Int32)))
  else
    bd (fX4_read fu 1 S_4) fun S_36 r_36 =>
    bd (fX0_clear fu 1 S_36) fun S_44 _ =>
    if r_36 = 0 then
      bd (fX6_isAnsweredBy fu S_44) fun S_59 r_59 =>
      if r_59 = 0 then
        some (S_59, (0, (-1 : Int32)))
      else
        bd (fX6_learn fu S_59) fun S_75 _ =>
        bd (fX6_goOn fu S_75) fun S_82 r_82 =>
        some (S_82, (0, r_82))
    else
      some (S_44, (0, (-1 : Int32)))
noncomputable def fX11_query (fu : Nat) (x1 : Int32) (S : St) : Option (St × Ot) :=
  bx (fX11_needQuery fu S) fun S_1 _ =>
  if x1 = (0 : Int32) then
    bd (fX6_address fu S_1) fun S_48 r_48 =>
    some (S_48, (0, r_48))
  else
  if x1 = (1 : Int32) then
    bd (fX6_id fu S_1) fun S_56 r_56 =>
    some (S_56, (0, r_56))
  else
  if x1 = (2 : Int32) then
    bd (fX6_askedName fu S_1) fun S_64 r_64 =>
    some (S_64, (0, r_64))
  else
  if x1 = (3 : Int32) then
    bd (fX6_askedType fu S_1) fun S_72 r_72 =>
    some (S_72, (0, r_72))
  else
  if x1 = (4 : Int32) then
    bd (fX6_depth fu S_1) fun S_80 r_80 =>
    some (S_80, (0, r_80))
  else
  if x1 = (5 : Int32) then
    bd (fX6_place fu S_1) fun S_88 r_88 =>
    some (S_88, (0, r_88))
  else
    some (S_1, (4, (0 : Int32)))
noncomputable def fX11_result (fu : Nat) (x1 : Int32) (S : St) : Option (St × Ot) :=
  if x1 = (0 : Int32) then
    bd (fX6_state fu S) fun S_40 r_40 =>
    some (S_40, (0, r_40))
  else
  if x1 = (1 : Int32) then
    bd (fX6_foundSize fu S) fun S_48 r_48 =>
    some (S_48, (0, r_48))
  else
  if x1 = (2 : Int32) then
    bd (fX6_firstChains fu S) fun S_56 r_56 =>
    some (S_56, (0, r_56))
  else
  if x1 = (3 : Int32) then
    bd (fX6_firstName fu S) fun S_64 r_64 =>
    some (S_64, (0, r_64))
  else
  if x1 = (4 : Int32) then
    bd (fX6_sent fu S) fun S_72 r_72 =>
    some (S_72, (0, r_72))
  else
    some (S, (4, (0 : Int32)))
noncomputable def fX11_data (fu : Nat) (x1 : Int32) (S : St) : Option (St × Int32) :=
  bd (fX6_found fu x1 S) fun S_5 r_5 =>
  some (S_5, r_5)
noncomputable def fX11_cached (fu : Nat) (x1 : Int32) (x2 : Int32) (S : St) : Option (St × Ot) :=
  bx (fX11_needName fu x1 S) fun S_2 _ =>
  bd (fX1_held fu x1 x2 S_2) fun S_11 r_11 =>
  some (S_11, (0, r_11))
noncomputable def fX11_count (fu : Nat) (x1 : Int32) (S : St) : Option (St × Int32) :=
  if x1 = (0 : Int32) then
    bd (fX3_size fu S) fun S_56 r_56 =>
    some (S_56, r_56)
  else
  if x1 = (1 : Int32) then
    bd (fX10_size fu S) fun S_64 r_64 =>
    some (S_64, r_64)
  else
  if x1 = (2 : Int32) then
    bd (fX10_records fu S) fun S_72 r_72 =>
    some (S_72, r_72)
  else
  if x1 = (3 : Int32) then
    bd (fX7_size fu S) fun S_80 r_80 =>
    some (S_80, r_80)
  else
  if x1 = (4 : Int32) then
    bd (fX6_hints fu S) fun S_88 r_88 =>
    some (S_88, r_88)
  else
  if x1 = (5 : Int32) then
    bd (fX1_now fu S) fun S_96 r_96 =>
    some (S_96, r_96)
  else
  if x1 = (6 : Int32) then
    bd (fX1_size fu S) fun S_104 r_104 =>
    some (S_104, r_104)
  else
  if x1 = (7 : Int32) then
    bd (fX6_sentEver fu S) fun S_112 r_112 =>
    some (S_112, r_112)
  else
  if x1 = (8 : Int32) then
    bd (fX0_size fu 1 S) fun S_120 r_120 =>
    some (S_120, r_120)
  else
    some (S, (-1 : Int32))
noncomputable def fL_name (fu : Nat) (S : St) : Option (St × Int32) :=
  bc (fX11_name fu S) (fun S_3 r_3 =>
    gd (ck (0 : Int32) 1) <|
    sJ 106 ((0 : Int32)).toNatClampNeg (r_3).toInt64 S_3 fun S_7 =>
    some (S_7, (0 : Int32))) (fun S_3 k_3 =>
    if k_3 = 1 then
      some (S_3, (1 : Int32))
    else
    if k_3 = 2 then
      some (S_3, (2 : Int32))
    else
      none)
noncomputable def fL_look (fu : Nat) (x1 : Int32) (x2 : Int32) (S : St) : Option (St × Int32) :=
  bc (fX11_look fu x1 x2 S) (fun S_5 r_5 =>
    gd (ck (0 : Int32) 1) <|
    sJ 106 ((0 : Int32)).toNatClampNeg (r_5).toInt64 S_5 fun S_9 =>
    some (S_9, (0 : Int32))) (fun S_5 k_5 =>
    if k_5 = 3 then
      some (S_5, (1 : Int32))
    else
    if k_5 = 4 then
      some (S_5, (2 : Int32))
    else
      none)
noncomputable def fL_text (fu : Nat) (x1 : Int32) (x2 : Int32) (S : St) : Option (St × Int32) :=
  bc (fX11_text fu x1 x2 S) (fun S_5 r_5 =>
    gd (ck (0 : Int32) 1) <|
    sJ 106 ((0 : Int32)).toNatClampNeg (r_5).toInt64 S_5 fun S_9 =>
    some (S_9, (0 : Int32))) (fun S_5 k_5 =>
    if k_5 = 3 then
      some (S_5, (1 : Int32))
    else
      none)
noncomputable def fL_zone (fu : Nat) (x1 : Int32) (x2 : Int32) (S : St) : Option (St × Int32) :=
  bc (fX11_zone fu x1 x2 S) (fun S_5 r_5 =>
    gd (ck (0 : Int32) 1) <|
    sJ 106 ((0 : Int32)).toNatClampNeg (r_5).toInt64 S_5 fun S_9 =>
    some (S_9, (0 : Int32))) (fun S_5 k_5 =>
    if k_5 = 3 then
      some (S_5, (1 : Int32))
    else
    if k_5 = 1 then
      some (S_5, (2 : Int32))
    else
    if k_5 = 2 then
      some (S_5, (3 : Int32))
    else
      none)
noncomputable def fL_record (fu : Nat) (x1 : Int32) (x2 : Int32) (x3 : Int32) (x4 : Int32) (x5 : Int32) (S : St) : Option (St × Int32) :=
  bc (fX11_record fu x1 x2 x3 x4 x5 S) (fun S_11 r_11 =>
    gd (ck (0 : Int32) 1) <|
    sJ 106 ((0 : Int32)).toNatClampNeg (r_11).toInt64 S_11 fun S_15 =>
    some (S_15, (0 : Int32))) (fun S_11 k_11 =>
    if k_11 = 3 then
      some (S_11, (1 : Int32))
    else
    if k_11 = 1 then
      some (S_11, (2 : Int32))
    else
    if k_11 = 2 then
      some (S_11, (3 : Int32))
    else
      none)
noncomputable def fL_drop (fu : Nat) (x1 : Int32) (x2 : Int32) (x3 : Int32) (S : St) : Option (St × Int32) :=
  bc (fX11_drop fu x1 x2 x3 S) (fun S_7 r_7 =>
    gd (ck (0 : Int32) 1) <|
    sJ 106 ((0 : Int32)).toNatClampNeg (r_7).toInt64 S_7 fun S_11 =>
    some (S_11, (0 : Int32))) (fun S_7 k_7 =>
    if k_7 = 3 then
      some (S_7, (1 : Int32))
    else
      none)
noncomputable def fL_server (fu : Nat) (x1 : Int32) (S : St) : Option (St × Int32) :=
  bc (fX11_server fu x1 S) (fun S_4 r_4 =>
    gd (ck (0 : Int32) 1) <|
    sJ 106 ((0 : Int32)).toNatClampNeg (r_4).toInt64 S_4 fun S_8 =>
    some (S_8, (0 : Int32))) (fun S_4 k_4 =>
    if k_4 = 1 then
      some (S_4, (1 : Int32))
    else
    if k_4 = 2 then
      some (S_4, (2 : Int32))
    else
      none)
noncomputable def fL_serve_18 (fu : Nat) (t0 : Int64) (t1 : Int32) (S : St) : Option (St × Int32) :=
  gd (ck t1 1) <|
  sJ 106 (t1).toNatClampNeg t0 S fun S_18 =>
  some (S_18, (0 : Int32))
noncomputable def fL_serve (fu : Nat) (x1 : Int32) (x2 : Int32) (x3 : Int32) (S : St) : Option (St × Int32) :=
  bc (fX11_serve fu x1 x2 x3 S) (fun S_7 r_7 =>
    if r_7 = 0 then
      fL_serve_18 fu (0 : Int64) (0 : Int32) S_7
    else
      fL_serve_18 fu (1 : Int64) (0 : Int32) S_7) (fun S_7 k_7 =>
    if k_7 = 3 then
      some (S_7, (1 : Int32))
    else
      none)
noncomputable def fL_say (fu : Nat) (x1 : Int32) (x2 : Int32) (x3 : Int32) (S : St) : Option (St × Int32) :=
  bc (fX11_say fu x1 x2 x3 S) (fun S_7 r_7 =>
    gd (ck (0 : Int32) 1) <|
    sJ 106 ((0 : Int32)).toNatClampNeg (r_7).toInt64 S_7 fun S_11 =>
    some (S_11, (0 : Int32))) (fun S_7 k_7 =>
    if k_7 = 3 then
      some (S_7, (1 : Int32))
    else
      none)
noncomputable def fL_parsed (fu : Nat) (x1 : Int32) (x2 : Int32) (S : St) : Option (St × Int32) :=
  bc (fX11_parsed fu x1 x2 S) (fun S_5 r_5 =>
    gd (ck (0 : Int32) 1) <|
    sJ 106 ((0 : Int32)).toNatClampNeg (r_5).toInt64 S_5 fun S_9 =>
    some (S_9, (0 : Int32))) (fun S_5 k_5 =>
    if k_5 = 4 then
      some (S_5, (1 : Int32))
    else
      none)
noncomputable def fL_tick (fu : Nat) (x1 : Int32) (S : St) : Option (St × Int32) :=
  bc (fX11_tick fu x1 S) (fun S_4 r_4 =>
    gd (ck (0 : Int32) 1) <|
    sJ 106 ((0 : Int32)).toNatClampNeg (r_4).toInt64 S_4 fun S_8 =>
    some (S_8, (0 : Int32))) (fun S_4 k_4 =>
    if k_4 = 1 then
      some (S_4, (1 : Int32))
    else
      none)
noncomputable def fL_ask (fu : Nat) (x1 : Int32) (x2 : Int32) (S : St) : Option (St × Int32) :=
  bc (fX11_ask fu x1 x2 S) (fun S_5 r_5 =>
    gd (ck (0 : Int32) 1) <|
    sJ 106 ((0 : Int32)).toNatClampNeg (r_5).toInt64 S_5 fun S_9 =>
    some (S_9, (0 : Int32))) (fun S_5 k_5 =>
    if k_5 = 3 then
      some (S_5, (1 : Int32))
    else
    if k_5 = 5 then
      some (S_5, (2 : Int32))
    else
    if k_5 = 1 then
      some (S_5, (3 : Int32))
    else
      none)
noncomputable def fL_step (fu : Nat) (S : St) : Option (St × Int32) :=
  bc (fX11_step fu S) (fun S_3 r_3 =>
    gd (ck (0 : Int32) 1) <|
    sJ 106 ((0 : Int32)).toNatClampNeg (r_3).toInt64 S_3 fun S_7 =>
    some (S_7, (0 : Int32))) (fun S_3 k_3 =>
    if k_3 = 5 then
      some (S_3, (1 : Int32))
    else
      none)
noncomputable def fL_lose (fu : Nat) (S : St) : Option (St × Int32) :=
  bc (fX11_lose fu S) (fun S_3 r_3 =>
    gd (ck (0 : Int32) 1) <|
    sJ 106 ((0 : Int32)).toNatClampNeg (r_3).toInt64 S_3 fun S_7 =>
    some (S_7, (0 : Int32))) (fun S_3 k_3 =>
    if k_3 = 5 then
      some (S_3, (1 : Int32))
    else
      none)
noncomputable def fL_forge (fu : Nat) (S : St) : Option (St × Int32) :=
  bc (fX11_forge fu S) (fun S_3 r_3 =>
    gd (ck (0 : Int32) 1) <|
    sJ 106 ((0 : Int32)).toNatClampNeg (r_3).toInt64 S_3 fun S_7 =>
    some (S_7, (0 : Int32))) (fun S_3 k_3 =>
    if k_3 = 5 then
      some (S_3, (1 : Int32))
    else
      none)
noncomputable def fL_query (fu : Nat) (x1 : Int32) (S : St) : Option (St × Int32) :=
  bc (fX11_query fu x1 S) (fun S_4 r_4 =>
    gd (ck (0 : Int32) 1) <|
    sJ 106 ((0 : Int32)).toNatClampNeg (r_4).toInt64 S_4 fun S_8 =>
    some (S_8, (0 : Int32))) (fun S_4 k_4 =>
    if k_4 = 5 then
      some (S_4, (1 : Int32))
    else
    if k_4 = 4 then
      some (S_4, (2 : Int32))
    else
      none)
noncomputable def fL_result (fu : Nat) (x1 : Int32) (S : St) : Option (St × Int32) :=
  bc (fX11_result fu x1 S) (fun S_4 r_4 =>
    gd (ck (0 : Int32) 1) <|
    sJ 106 ((0 : Int32)).toNatClampNeg (r_4).toInt64 S_4 fun S_8 =>
    some (S_8, (0 : Int32))) (fun S_4 k_4 =>
    if k_4 = 4 then
      some (S_4, (1 : Int32))
    else
      none)
noncomputable def fL_cached (fu : Nat) (x1 : Int32) (x2 : Int32) (S : St) : Option (St × Int32) :=
  bc (fX11_cached fu x1 x2 S) (fun S_5 r_5 =>
    gd (ck (0 : Int32) 1) <|
    sJ 106 ((0 : Int32)).toNatClampNeg (r_5).toInt64 S_5 fun S_9 =>
    some (S_9, (0 : Int32))) (fun S_5 k_5 =>
    if k_5 = 3 then
      some (S_5, (1 : Int32))
    else
      none)
noncomputable def fc_0 (fu : Nat) (a1 a2 a3 a4 a5 : Int32) (S : St) : Option (St × Int32) :=
  bd (fX11_feed fu a1 a2 a3 a4 a5 S) fun S_187 r_187 =>
  bd (fX12_feed fu a1 a2 a3 a4 a5 S_187) fun S_221 r_221 =>
  if r_187 = r_221 then
    some (S_221, (1 : Int32))
  else
    some (S_221, (0 : Int32))
noncomputable def fc_1 (fu : Nat) (a1 a2 a3 a4 a5 : Int32) (S : St) : Option (St × Int32) :=
  bd (fX11_end fu a1 S) fun S_236 r_236 =>
  bd (fX12_end fu a1 S_236) fun S_246 r_246 =>
  if r_236 = r_246 then
    some (S_246, (1 : Int32))
  else
    some (S_246, (0 : Int32))
noncomputable def fc_2 (fu : Nat) (a1 a2 a3 a4 a5 : Int32) (S : St) : Option (St × Int32) :=
  bd (fX11_turn fu a1 a2 S) fun S_267 r_267 =>
  bd (fX12_turn fu a1 a2 S_267) fun S_283 r_283 =>
  if r_267 = r_283 then
    some (S_283, (1 : Int32))
  else
    some (S_283, (0 : Int32))
noncomputable def fc_3_332 (fu : Nat) (a1 a2 a3 a4 a5 : Int32) (S : St) : Option (St × Int32) :=
  some (S, (1 : Int32))
noncomputable def fc_3 (fu : Nat) (a1 a2 a3 a4 a5 : Int32) (S : St) : Option (St × Int32) :=
  bd (fL_name fu S) fun S_293 r_293 =>
  bd (fX12_name fu S_293) fun S_299 r_299 =>
  bd (fX12_thrown fu S_299) fun S_305 r_305 =>
  if r_305 = r_293 then
    if r_293 = 0 then
      gd (ck (0 : Int32) 1) <|
      if (lg_cmp (S_305.2 106 ((0 : Int32)).toNatClampNeg) (r_299).toInt64) = 0 then
        fc_3_332 fu a1 a2 a3 a4 a5 S_305
      else
        some (S_305, (0 : Int32))
    else
      fc_3_332 fu a1 a2 a3 a4 a5 S_305
  else
    some (S_305, (0 : Int32))
noncomputable def fc_4_400 (fu : Nat) (a1 a2 a3 a4 a5 : Int32) (S : St) : Option (St × Int32) :=
  some (S, (1 : Int32))
noncomputable def fc_4 (fu : Nat) (a1 a2 a3 a4 a5 : Int32) (S : St) : Option (St × Int32) :=
  bd (fL_look fu a1 a2 S) fun S_349 r_349 =>
  bd (fX12_look fu a1 a2 S_349) fun S_367 r_367 =>
  bd (fX12_thrown fu S_367) fun S_373 r_373 =>
  if r_373 = r_349 then
    if r_349 = 0 then
      gd (ck (0 : Int32) 1) <|
      if (lg_cmp (S_373.2 106 ((0 : Int32)).toNatClampNeg) (r_367).toInt64) = 0 then
        fc_4_400 fu a1 a2 a3 a4 a5 S_373
      else
        some (S_373, (0 : Int32))
    else
      fc_4_400 fu a1 a2 a3 a4 a5 S_373
  else
    some (S_373, (0 : Int32))
noncomputable def fc_5_468 (fu : Nat) (a1 a2 a3 a4 a5 : Int32) (S : St) : Option (St × Int32) :=
  some (S, (1 : Int32))
noncomputable def fc_5 (fu : Nat) (a1 a2 a3 a4 a5 : Int32) (S : St) : Option (St × Int32) :=
  bd (fL_text fu a1 a2 S) fun S_417 r_417 =>
  bd (fX12_text fu a1 a2 S_417) fun S_435 r_435 =>
  bd (fX12_thrown fu S_435) fun S_441 r_441 =>
  if r_441 = r_417 then
    if r_417 = 0 then
      gd (ck (0 : Int32) 1) <|
      if (lg_cmp (S_441.2 106 ((0 : Int32)).toNatClampNeg) (r_435).toInt64) = 0 then
        fc_5_468 fu a1 a2 a3 a4 a5 S_441
      else
        some (S_441, (0 : Int32))
    else
      fc_5_468 fu a1 a2 a3 a4 a5 S_441
  else
    some (S_441, (0 : Int32))
noncomputable def fc_6_536 (fu : Nat) (a1 a2 a3 a4 a5 : Int32) (S : St) : Option (St × Int32) :=
  some (S, (1 : Int32))
noncomputable def fc_6 (fu : Nat) (a1 a2 a3 a4 a5 : Int32) (S : St) : Option (St × Int32) :=
  bd (fL_zone fu a1 a2 S) fun S_485 r_485 =>
  bd (fX12_zone fu a1 a2 S_485) fun S_503 r_503 =>
  bd (fX12_thrown fu S_503) fun S_509 r_509 =>
  if r_509 = r_485 then
    if r_485 = 0 then
      gd (ck (0 : Int32) 1) <|
      if (lg_cmp (S_509.2 106 ((0 : Int32)).toNatClampNeg) (r_503).toInt64) = 0 then
        fc_6_536 fu a1 a2 a3 a4 a5 S_509
      else
        some (S_509, (0 : Int32))
    else
      fc_6_536 fu a1 a2 a3 a4 a5 S_509
  else
    some (S_509, (0 : Int32))
noncomputable def fc_7_640 (fu : Nat) (a1 a2 a3 a4 a5 : Int32) (S : St) : Option (St × Int32) :=
  some (S, (1 : Int32))
noncomputable def fc_7 (fu : Nat) (a1 a2 a3 a4 a5 : Int32) (S : St) : Option (St × Int32) :=
  bd (fL_record fu a1 a2 a3 a4 a5 S) fun S_571 r_571 =>
  bd (fX12_record fu a1 a2 a3 a4 a5 S_571) fun S_607 r_607 =>
  bd (fX12_thrown fu S_607) fun S_613 r_613 =>
  if r_613 = r_571 then
    if r_571 = 0 then
      gd (ck (0 : Int32) 1) <|
      if (lg_cmp (S_613.2 106 ((0 : Int32)).toNatClampNeg) (r_607).toInt64) = 0 then
        fc_7_640 fu a1 a2 a3 a4 a5 S_613
      else
        some (S_613, (0 : Int32))
    else
      fc_7_640 fu a1 a2 a3 a4 a5 S_613
  else
    some (S_613, (0 : Int32))
noncomputable def fc_8_720 (fu : Nat) (a1 a2 a3 a4 a5 : Int32) (S : St) : Option (St × Int32) :=
  some (S, (1 : Int32))
noncomputable def fc_8 (fu : Nat) (a1 a2 a3 a4 a5 : Int32) (S : St) : Option (St × Int32) :=
  bd (fL_drop fu a1 a2 a3 S) fun S_663 r_663 =>
  bd (fX12_drop fu a1 a2 a3 S_663) fun S_687 r_687 =>
  bd (fX12_thrown fu S_687) fun S_693 r_693 =>
  if r_693 = r_663 then
    if r_663 = 0 then
      gd (ck (0 : Int32) 1) <|
      if (lg_cmp (S_693.2 106 ((0 : Int32)).toNatClampNeg) (r_687).toInt64) = 0 then
        fc_8_720 fu a1 a2 a3 a4 a5 S_693
      else
        some (S_693, (0 : Int32))
    else
      fc_8_720 fu a1 a2 a3 a4 a5 S_693
  else
    some (S_693, (0 : Int32))
noncomputable def fc_9_776 (fu : Nat) (a1 a2 a3 a4 a5 : Int32) (S : St) : Option (St × Int32) :=
  some (S, (1 : Int32))
noncomputable def fc_9 (fu : Nat) (a1 a2 a3 a4 a5 : Int32) (S : St) : Option (St × Int32) :=
  bd (fL_server fu a1 S) fun S_731 r_731 =>
  bd (fX12_server fu a1 S_731) fun S_743 r_743 =>
  bd (fX12_thrown fu S_743) fun S_749 r_749 =>
  if r_749 = r_731 then
    if r_731 = 0 then
      gd (ck (0 : Int32) 1) <|
      if (lg_cmp (S_749.2 106 ((0 : Int32)).toNatClampNeg) (r_743).toInt64) = 0 then
        fc_9_776 fu a1 a2 a3 a4 a5 S_749
      else
        some (S_749, (0 : Int32))
    else
      fc_9_776 fu a1 a2 a3 a4 a5 S_749
  else
    some (S_749, (0 : Int32))
noncomputable def fc_10_879 (fu : Nat) (a1 a2 a3 a4 a5 : Int32) (S : St) : Option (St × Int32) :=
  some (S, (1 : Int32))
noncomputable def fc_10_873 (fu : Nat) (a1 a2 a3 a4 a5 : Int32) (t0 : Int64) (t1 : Int64) (S : St) : Option (St × Int32) :=
  if (lg_cmp t1 t0) = 0 then
    fc_10_879 fu a1 a2 a3 a4 a5 S
  else
    some (S, (0 : Int32))
noncomputable def fc_10_839 (fu : Nat) (a1 a2 a3 a4 a5 : Int32) (x5 : Int32) (t0 : Int32) (t1 : Int32) (t2 : Int32) (S : St) : Option (St × Int32) :=
  bd (fX12_serve fu t2 t1 t0 S) fun S_839 r_839 =>
  bd (fX12_thrown fu S_839) fun S_845 r_845 =>
  if r_845 = x5 then
    if x5 = 0 then
      gd (ck (0 : Int32) 1) <|
      if r_839 = 0 then
        fc_10_873 fu a1 a2 a3 a4 a5 (0 : Int64) (S_845.2 106 ((0 : Int32)).toNatClampNeg) S_845
      else
        fc_10_873 fu a1 a2 a3 a4 a5 (1 : Int64) (S_845.2 106 ((0 : Int32)).toNatClampNeg) S_845
    else
      fc_10_879 fu a1 a2 a3 a4 a5 S_845
  else
    some (S_845, (0 : Int32))
noncomputable def fc_10_806 (fu : Nat) (a1 a2 a3 a4 a5 : Int32) (t0 : Int32) (t1 : Int32) (t2 : Int32) (S : St) : Option (St × Int32) :=
  bd (fL_serve fu t2 t1 t0 S) fun S_807 r_807 =>
  if a3 = 0 then
    fc_10_839 fu a1 a2 a3 a4 a5 r_807 (0 : Int32) a2 a1 S_807
  else
    fc_10_839 fu a1 a2 a3 a4 a5 r_807 (1 : Int32) a2 a1 S_807
noncomputable def fc_10 (fu : Nat) (a1 a2 a3 a4 a5 : Int32) (S : St) : Option (St × Int32) :=
  if a3 = 0 then
    fc_10_806 fu a1 a2 a3 a4 a5 (0 : Int32) a2 a1 S
  else
    fc_10_806 fu a1 a2 a3 a4 a5 (1 : Int32) a2 a1 S
noncomputable def fc_11_959 (fu : Nat) (a1 a2 a3 a4 a5 : Int32) (S : St) : Option (St × Int32) :=
  some (S, (1 : Int32))
noncomputable def fc_11 (fu : Nat) (a1 a2 a3 a4 a5 : Int32) (S : St) : Option (St × Int32) :=
  bd (fL_say fu a1 a2 a3 S) fun S_902 r_902 =>
  bd (fX12_say fu a1 a2 a3 S_902) fun S_926 r_926 =>
  bd (fX12_thrown fu S_926) fun S_932 r_932 =>
  if r_932 = r_902 then
    if r_902 = 0 then
      gd (ck (0 : Int32) 1) <|
      if (lg_cmp (S_932.2 106 ((0 : Int32)).toNatClampNeg) (r_926).toInt64) = 0 then
        fc_11_959 fu a1 a2 a3 a4 a5 S_932
      else
        some (S_932, (0 : Int32))
    else
      fc_11_959 fu a1 a2 a3 a4 a5 S_932
  else
    some (S_932, (0 : Int32))
noncomputable def fc_12 (fu : Nat) (a1 a2 a3 a4 a5 : Int32) (S : St) : Option (St × Int32) :=
  bd (fX11_parse fu S) fun S_963 r_963 =>
  bd (fX12_parse fu S_963) fun S_967 r_967 =>
  if r_963 = r_967 then
    some (S_967, (1 : Int32))
  else
    some (S_967, (0 : Int32))
noncomputable def fc_13_1040 (fu : Nat) (a1 a2 a3 a4 a5 : Int32) (S : St) : Option (St × Int32) :=
  some (S, (1 : Int32))
noncomputable def fc_13 (fu : Nat) (a1 a2 a3 a4 a5 : Int32) (S : St) : Option (St × Int32) :=
  bd (fL_parsed fu a1 a2 S) fun S_989 r_989 =>
  bd (fX12_parsed fu a1 a2 S_989) fun S_1007 r_1007 =>
  bd (fX12_thrown fu S_1007) fun S_1013 r_1013 =>
  if r_1013 = r_989 then
    if r_989 = 0 then
      gd (ck (0 : Int32) 1) <|
      if (lg_cmp (S_1013.2 106 ((0 : Int32)).toNatClampNeg) (r_1007).toInt64) = 0 then
        fc_13_1040 fu a1 a2 a3 a4 a5 S_1013
      else
        some (S_1013, (0 : Int32))
    else
      fc_13_1040 fu a1 a2 a3 a4 a5 S_1013
  else
    some (S_1013, (0 : Int32))
noncomputable def fc_14 (fu : Nat) (a1 a2 a3 a4 a5 : Int32) (S : St) : Option (St × Int32) :=
  bd (fX11_hint fu a1 S) fun S_1050 r_1050 =>
  bd (fX12_hint fu a1 S_1050) fun S_1060 r_1060 =>
  if r_1050 = r_1060 then
    some (S_1060, (1 : Int32))
  else
    some (S_1060, (0 : Int32))
noncomputable def fc_15_1121 (fu : Nat) (a1 a2 a3 a4 a5 : Int32) (S : St) : Option (St × Int32) :=
  some (S, (1 : Int32))
noncomputable def fc_15 (fu : Nat) (a1 a2 a3 a4 a5 : Int32) (S : St) : Option (St × Int32) :=
  bd (fL_tick fu a1 S) fun S_1076 r_1076 =>
  bd (fX12_tick fu a1 S_1076) fun S_1088 r_1088 =>
  bd (fX12_thrown fu S_1088) fun S_1094 r_1094 =>
  if r_1094 = r_1076 then
    if r_1076 = 0 then
      gd (ck (0 : Int32) 1) <|
      if (lg_cmp (S_1094.2 106 ((0 : Int32)).toNatClampNeg) (r_1088).toInt64) = 0 then
        fc_15_1121 fu a1 a2 a3 a4 a5 S_1094
      else
        some (S_1094, (0 : Int32))
    else
      fc_15_1121 fu a1 a2 a3 a4 a5 S_1094
  else
    some (S_1094, (0 : Int32))
noncomputable def fc_16_1189 (fu : Nat) (a1 a2 a3 a4 a5 : Int32) (S : St) : Option (St × Int32) :=
  some (S, (1 : Int32))
noncomputable def fc_16 (fu : Nat) (a1 a2 a3 a4 a5 : Int32) (S : St) : Option (St × Int32) :=
  bd (fL_ask fu a1 a2 S) fun S_1138 r_1138 =>
  bd (fX12_ask fu a1 a2 S_1138) fun S_1156 r_1156 =>
  bd (fX12_thrown fu S_1156) fun S_1162 r_1162 =>
  if r_1162 = r_1138 then
    if r_1138 = 0 then
      gd (ck (0 : Int32) 1) <|
      if (lg_cmp (S_1162.2 106 ((0 : Int32)).toNatClampNeg) (r_1156).toInt64) = 0 then
        fc_16_1189 fu a1 a2 a3 a4 a5 S_1162
      else
        some (S_1162, (0 : Int32))
    else
      fc_16_1189 fu a1 a2 a3 a4 a5 S_1162
  else
    some (S_1162, (0 : Int32))
noncomputable def fc_17_1233 (fu : Nat) (a1 a2 a3 a4 a5 : Int32) (S : St) : Option (St × Int32) :=
  some (S, (1 : Int32))
noncomputable def fc_17 (fu : Nat) (a1 a2 a3 a4 a5 : Int32) (S : St) : Option (St × Int32) :=
  bd (fL_step fu S) fun S_1194 r_1194 =>
  bd (fX12_step fu S_1194) fun S_1200 r_1200 =>
  bd (fX12_thrown fu S_1200) fun S_1206 r_1206 =>
  if r_1206 = r_1194 then
    if r_1194 = 0 then
      gd (ck (0 : Int32) 1) <|
      if (lg_cmp (S_1206.2 106 ((0 : Int32)).toNatClampNeg) (r_1200).toInt64) = 0 then
        fc_17_1233 fu a1 a2 a3 a4 a5 S_1206
      else
        some (S_1206, (0 : Int32))
    else
      fc_17_1233 fu a1 a2 a3 a4 a5 S_1206
  else
    some (S_1206, (0 : Int32))
noncomputable def fc_18_1277 (fu : Nat) (a1 a2 a3 a4 a5 : Int32) (S : St) : Option (St × Int32) :=
  some (S, (1 : Int32))
noncomputable def fc_18 (fu : Nat) (a1 a2 a3 a4 a5 : Int32) (S : St) : Option (St × Int32) :=
  bd (fL_lose fu S) fun S_1238 r_1238 =>
  bd (fX12_lose fu S_1238) fun S_1244 r_1244 =>
  bd (fX12_thrown fu S_1244) fun S_1250 r_1250 =>
  if r_1250 = r_1238 then
    if r_1238 = 0 then
      gd (ck (0 : Int32) 1) <|
      if (lg_cmp (S_1250.2 106 ((0 : Int32)).toNatClampNeg) (r_1244).toInt64) = 0 then
        fc_18_1277 fu a1 a2 a3 a4 a5 S_1250
      else
        some (S_1250, (0 : Int32))
    else
      fc_18_1277 fu a1 a2 a3 a4 a5 S_1250
  else
    some (S_1250, (0 : Int32))
noncomputable def fc_19_1321 (fu : Nat) (a1 a2 a3 a4 a5 : Int32) (S : St) : Option (St × Int32) :=
  some (S, (1 : Int32))
noncomputable def fc_19 (fu : Nat) (a1 a2 a3 a4 a5 : Int32) (S : St) : Option (St × Int32) :=
  bd (fL_forge fu S) fun S_1282 r_1282 =>
  bd (fX12_forge fu S_1282) fun S_1288 r_1288 =>
  bd (fX12_thrown fu S_1288) fun S_1294 r_1294 =>
  if r_1294 = r_1282 then
    if r_1282 = 0 then
      gd (ck (0 : Int32) 1) <|
      if (lg_cmp (S_1294.2 106 ((0 : Int32)).toNatClampNeg) (r_1288).toInt64) = 0 then
        fc_19_1321 fu a1 a2 a3 a4 a5 S_1294
      else
        some (S_1294, (0 : Int32))
    else
      fc_19_1321 fu a1 a2 a3 a4 a5 S_1294
  else
    some (S_1294, (0 : Int32))
noncomputable def fc_20_1377 (fu : Nat) (a1 a2 a3 a4 a5 : Int32) (S : St) : Option (St × Int32) :=
  some (S, (1 : Int32))
noncomputable def fc_20 (fu : Nat) (a1 a2 a3 a4 a5 : Int32) (S : St) : Option (St × Int32) :=
  bd (fL_query fu a1 S) fun S_1332 r_1332 =>
  bd (fX12_query fu a1 S_1332) fun S_1344 r_1344 =>
  bd (fX12_thrown fu S_1344) fun S_1350 r_1350 =>
  if r_1350 = r_1332 then
    if r_1332 = 0 then
      gd (ck (0 : Int32) 1) <|
      if (lg_cmp (S_1350.2 106 ((0 : Int32)).toNatClampNeg) (r_1344).toInt64) = 0 then
        fc_20_1377 fu a1 a2 a3 a4 a5 S_1350
      else
        some (S_1350, (0 : Int32))
    else
      fc_20_1377 fu a1 a2 a3 a4 a5 S_1350
  else
    some (S_1350, (0 : Int32))
noncomputable def fc_21_1433 (fu : Nat) (a1 a2 a3 a4 a5 : Int32) (S : St) : Option (St × Int32) :=
  some (S, (1 : Int32))
noncomputable def fc_21 (fu : Nat) (a1 a2 a3 a4 a5 : Int32) (S : St) : Option (St × Int32) :=
  bd (fL_result fu a1 S) fun S_1388 r_1388 =>
  bd (fX12_result fu a1 S_1388) fun S_1400 r_1400 =>
  bd (fX12_thrown fu S_1400) fun S_1406 r_1406 =>
  if r_1406 = r_1388 then
    if r_1388 = 0 then
      gd (ck (0 : Int32) 1) <|
      if (lg_cmp (S_1406.2 106 ((0 : Int32)).toNatClampNeg) (r_1400).toInt64) = 0 then
        fc_21_1433 fu a1 a2 a3 a4 a5 S_1406
      else
        some (S_1406, (0 : Int32))
    else
      fc_21_1433 fu a1 a2 a3 a4 a5 S_1406
  else
    some (S_1406, (0 : Int32))
noncomputable def fc_22 (fu : Nat) (a1 a2 a3 a4 a5 : Int32) (S : St) : Option (St × Int32) :=
  bd (fX11_data fu a1 S) fun S_1443 r_1443 =>
  bd (fX12_data fu a1 S_1443) fun S_1453 r_1453 =>
  if r_1443 = r_1453 then
    some (S_1453, (1 : Int32))
  else
    some (S_1453, (0 : Int32))
noncomputable def fc_23_1526 (fu : Nat) (a1 a2 a3 a4 a5 : Int32) (S : St) : Option (St × Int32) :=
  some (S, (1 : Int32))
noncomputable def fc_23 (fu : Nat) (a1 a2 a3 a4 a5 : Int32) (S : St) : Option (St × Int32) :=
  bd (fL_cached fu a1 a2 S) fun S_1475 r_1475 =>
  bd (fX12_cached fu a1 a2 S_1475) fun S_1493 r_1493 =>
  bd (fX12_thrown fu S_1493) fun S_1499 r_1499 =>
  if r_1499 = r_1475 then
    if r_1475 = 0 then
      gd (ck (0 : Int32) 1) <|
      if (lg_cmp (S_1499.2 106 ((0 : Int32)).toNatClampNeg) (r_1493).toInt64) = 0 then
        fc_23_1526 fu a1 a2 a3 a4 a5 S_1499
      else
        some (S_1499, (0 : Int32))
    else
      fc_23_1526 fu a1 a2 a3 a4 a5 S_1499
  else
    some (S_1499, (0 : Int32))
noncomputable def fc_24 (fu : Nat) (a1 a2 a3 a4 a5 : Int32) (S : St) : Option (St × Int32) :=
  bd (fX11_count fu a1 S) fun S_1536 r_1536 =>
  bd (fX12_count fu a1 S_1536) fun S_1546 r_1546 =>
  if r_1536 = r_1546 then
    some (S_1546, (1 : Int32))
  else
    some (S_1546, (0 : Int32))
noncomputable def fit1 (fu : Nat) (a0 a1 a2 a3 a4 a5 : Int32) (S : St) : Option (St × Int32) :=
  if (a0 &&& (31 : Int32)) = (0 : Int32) then fc_0 fu a1 a2 a3 a4 a5 S else
  if (a0 &&& (31 : Int32)) = (1 : Int32) then fc_1 fu a1 a2 a3 a4 a5 S else
  if (a0 &&& (31 : Int32)) = (2 : Int32) then fc_2 fu a1 a2 a3 a4 a5 S else
  if (a0 &&& (31 : Int32)) = (3 : Int32) then fc_3 fu a1 a2 a3 a4 a5 S else
  if (a0 &&& (31 : Int32)) = (4 : Int32) then fc_4 fu a1 a2 a3 a4 a5 S else
  if (a0 &&& (31 : Int32)) = (5 : Int32) then fc_5 fu a1 a2 a3 a4 a5 S else
  if (a0 &&& (31 : Int32)) = (6 : Int32) then fc_6 fu a1 a2 a3 a4 a5 S else
  if (a0 &&& (31 : Int32)) = (7 : Int32) then fc_7 fu a1 a2 a3 a4 a5 S else
  if (a0 &&& (31 : Int32)) = (8 : Int32) then fc_8 fu a1 a2 a3 a4 a5 S else
  if (a0 &&& (31 : Int32)) = (9 : Int32) then fc_9 fu a1 a2 a3 a4 a5 S else
  if (a0 &&& (31 : Int32)) = (10 : Int32) then fc_10 fu a1 a2 a3 a4 a5 S else
  if (a0 &&& (31 : Int32)) = (11 : Int32) then fc_11 fu a1 a2 a3 a4 a5 S else
  if (a0 &&& (31 : Int32)) = (12 : Int32) then fc_12 fu a1 a2 a3 a4 a5 S else
  if (a0 &&& (31 : Int32)) = (13 : Int32) then fc_13 fu a1 a2 a3 a4 a5 S else
  if (a0 &&& (31 : Int32)) = (14 : Int32) then fc_14 fu a1 a2 a3 a4 a5 S else
  if (a0 &&& (31 : Int32)) = (15 : Int32) then fc_15 fu a1 a2 a3 a4 a5 S else
  if (a0 &&& (31 : Int32)) = (16 : Int32) then fc_16 fu a1 a2 a3 a4 a5 S else
  if (a0 &&& (31 : Int32)) = (17 : Int32) then fc_17 fu a1 a2 a3 a4 a5 S else
  if (a0 &&& (31 : Int32)) = (18 : Int32) then fc_18 fu a1 a2 a3 a4 a5 S else
  if (a0 &&& (31 : Int32)) = (19 : Int32) then fc_19 fu a1 a2 a3 a4 a5 S else
  if (a0 &&& (31 : Int32)) = (20 : Int32) then fc_20 fu a1 a2 a3 a4 a5 S else
  if (a0 &&& (31 : Int32)) = (21 : Int32) then fc_21 fu a1 a2 a3 a4 a5 S else
  if (a0 &&& (31 : Int32)) = (22 : Int32) then fc_22 fu a1 a2 a3 a4 a5 S else
  if (a0 &&& (31 : Int32)) = (23 : Int32) then fc_23 fu a1 a2 a3 a4 a5 S else
  if (a0 &&& (31 : Int32)) = (24 : Int32) then fc_24 fu a1 a2 a3 a4 a5 S else
  some (S, (1 : Int32))
def lawOk (fu : Nat) (xs : Nat → Int32) : Nat → Nat → St → Prop
  | 0, _, _ => True
  | n + 1, i, S => ∃ S', fit1 fu (xs i) (xs (i + 1)) (xs (i + 2)) (xs (i + 3)) (xs (i + 4)) (xs (i + 5)) S = some (S', (1 : Int32)) ∧ lawOk fu xs n (i + 6) S'
def S0 : St := (fun q => if q = 3 then (fun k => if k = 3 then 1 else 0) else if q = 49 then (fun k => if k = 5 then 5 else 0) else if q = 63 then (fun k => if k = 5 then 1 else if k = 63 then 5 else if k = 64 then 1 else 0) else fun _ => 0, fun _ _ => 0)
