/-! the state: ints by cell and place, longs by cell and place; the cells' kinds; the words; the context -/
abbrev St : Type := (Nat → Nat → Int32) × (Nat → Nat → Int64)
def wI (q k : Nat) (v : Int32) (S : St) : St := (va_up S.1 q (upd (S.1 q) k v), S.2)
def wJ (q k : Nat) (v : Int64) (S : St) : St := (S.1, va_up S.2 q (vp_updL (S.2 q) k v))
def NC : Nat := 107
def descL : List ((Nat × List Nat) ⊕ (FieldType × Nat)) := [.inl (11, [3, 5, 9, 12, 20, 25, 28, 38, 44, 51]),
  .inl (0, [4, 0, 0]),
  .inr (.byte, 1000),
  .inl (3, [6, 7, 8, 0]),
  .inr (.int, 300),
  .inr (.long, 300),
  .inr (.int, 300),
  .inl (8, [10, 11, 0]),
  .inr (.long, 6),
  .inr (.int, 6),
  .inl (10, [5, 13, 14, 0, 15, 16, 17, 18, 19, 0]),
  .inr (.int, 12),
  .inr (.int, 12),
  .inr (.int, 150),
  .inr (.int, 150),
  .inr (.int, 150),
  .inr (.int, 150),
  .inr (.int, 150),
  .inl (9, [5, 21, 23, 24]),
  .inl (0, [22, 0, 0]),
  .inr (.byte, 1000),
  .inr (.int, 300),
  .inr (.int, 3),
  .inl (7, [5, 12, 26, 27, 0]),
  .inr (.int, 12),
  .inr (.int, 12),
  .inl (4, [5, 29, 32, 0, 0, 0, 0, 0, 0, 0]),
  .inl (8, [30, 31, 0]),
  .inr (.long, 6),
  .inr (.int, 6),
  .inl (5, [33, 34, 35, 36, 37, 0]),
  .inr (.int, 90),
  .inr (.int, 90),
  .inr (.int, 90),
  .inr (.int, 90),
  .inr (.int, 90),
  .inl (5, [39, 40, 41, 42, 43, 0]),
  .inr (.int, 90),
  .inr (.int, 90),
  .inr (.int, 90),
  .inr (.int, 90),
  .inr (.int, 90),
  .inl (1, [45, 46, 47, 48, 49, 50, 0, 0, 0]),
  .inr (.int, 100),
  .inr (.int, 100),
  .inr (.long, 100),
  .inr (.int, 100),
  .inr (.int, 100),
  .inr (.int, 1000),
  .inl (6, [5, 44, 52, 61, 0, 0, 0, 0, 0, 0, 62, 0, 63, 64]),
  .inl (2, [53, 54, 55, 56, 57, 58, 59, 60, 0, 0]),
  .inr (.int, 4),
  .inr (.int, 4),
  .inr (.int, 4),
  .inr (.int, 4),
  .inr (.int, 160),
  .inr (.int, 4),
  .inr (.int, 1200),
  .inr (.int, 4),
  .inr (.int, 4),
  .inr (.int, 10),
  .inr (.int, 10),
  .inr (.int, 10),
  .inl (12, [0, 66, 67, 68, 69, 0, 70, 71, 0, 72, 0, 73, 74, 75, 0, 76, 77, 78, 79, 80, 0, 81, 82, 0, 83, 0, 84, 0, 85, 86, 0, 0, 0, 0, 0, 0, 0, 87, 88, 89, 90, 91, 0, 92, 0, 93, 94, 95, 96, 97, 0, 0, 98, 0, 1, 99, 100, 101, 102, 103, 104, 105, 0, 0, 0, 0, 0, 0, 0, 0, 106, 0, 107]),
  .inr (.int, 300),
  .inr (.byte, 3000),
  .inr (.int, 300),
  .inr (.int, 300),
  .inr (.int, 8),
  .inr (.int, 8),
  .inr (.byte, 1040),
  .inr (.int, 5),
  .inr (.int, 12),
  .inr (.int, 12),
  .inr (.int, 150),
  .inr (.int, 150),
  .inr (.int, 150),
  .inr (.int, 150),
  .inr (.int, 150),
  .inr (.int, 12),
  .inr (.boolean, 144),
  .inr (.int, 4),
  .inr (.byte, 1000),
  .inr (.int, 300),
  .inr (.boolean, 150),
  .inr (.int, 100),
  .inr (.int, 100),
  .inr (.int, 100),
  .inr (.int, 100),
  .inr (.int, 100),
  .inr (.int, 500),
  .inr (.int, 100),
  .inr (.int, 100),
  .inr (.int, 100),
  .inr (.int, 1000),
  .inr (.long, 100),
  .inr (.int, 10),
  .inr (.int, 4),
  .inr (.int, 4),
  .inr (.int, 4),
  .inr (.int, 4),
  .inr (.int, 256),
  .inr (.int, 4),
  .inr (.boolean, 1200),
  .inr (.int, 10),
  .inr (.int, 10),
  .inr (.long, 1)]
def desc (q : Nat) : (Nat × List Nat) ⊕ (FieldType × Nat) := descL.getD q (.inl (0, []))
def fV (ad : Nat → Nat) (S : St) (q k : Nat) : Nat → Value
  | 0 => .int (S.1 q k)
  | 1 => .long (S.2 q k)
  | r + 2 => .ref (ad r)
def fVs (ad : Nat → Nat) (S : St) (q : Nat) (ds : List Nat) : List Value := ds.mapIdx (fun k d => fV ad S q k d)
def cE (cA : FieldType → ClassId) (ad : Nat → Nat) (S : St) (q : Nat) : va_E := match desc q with
  | .inl x => .inr (x.1, fVs ad S q x.2)
  | .inr x => .inl (cA x.1, x.2, if x.1 = .long then .inr (.inl (S.2 q)) else .inl (S.1 q))
def wl (cA : FieldType → ClassId) (ad : Nat → Nat) (S : St) : va_W := (List.range NC).map (fun q => (ad q, cE cA ad S q))
theorem wl_at {cA : FieldType → ClassId} {ad : Nat → Nat} {S : St} {q : Nat} (h : q < NC) : (wl cA ad S)[q]? = some (ad q, cE cA ad S q) := by
  simp [wl, h]
theorem cE_obj {cA : FieldType → ClassId} {ad : Nat → Nat} {S : St} {q ci : Nat} {ds : List Nat} (h : desc q = .inl (ci, ds)) : cE cA ad S q = .inr (ci, fVs ad S q ds) := by
  simp [cE, h]
theorem cE_int {cA : FieldType → ClassId} {ad : Nat → Nat} {S : St} {q n : Nat} {ty : FieldType} (h : desc q = .inr (ty, n)) (ht : ty ≠ .long) : cE cA ad S q = .inl (cA ty, n, .inl (S.1 q)) := by
  simp [cE, h, ht]
theorem cE_long {cA : FieldType → ClassId} {ad : Nat → Nat} {S : St} {q n : Nat} (h : desc q = .inr (.long, n)) : cE cA ad S q = .inl (cA .long, n, .inr (.inl (S.2 q))) := by
  simp [cE, h]
theorem cE_congr {cA : FieldType → ClassId} {ad : Nat → Nat} {S S' : St} {q : Nat} (h1 : S.1 q = S'.1 q) (h2 : S.2 q = S'.2 q) : cE cA ad S q = cE cA ad S' q := by
  have h3 : ∀ k d, fV ad S q k d = fV ad S' q k d := by
    intro k d
    match d with
    | 0 => simp [fV, h1]
    | 1 => simp [fV, h2]
    | r + 2 => rfl
  have h4 : ∀ ds, fVs ad S q ds = fVs ad S' q ds := by
    intro ds
    simp only [fVs, h3]
  unfold cE
  cases desc q with
  | inl x => simp only [h4]
  | inr x => simp only [h1, h2]
theorem fVs_at {ad : Nat → Nat} {S : St} {q k d : Nat} {ds : List Nat} (h : ds[k]? = some d) : (fVs ad S q ds)[k]? = some (fV ad S q k d) := by
  simp [fVs, h]
theorem fVs_len {ad : Nat → Nat} {S : St} {q k d : Nat} {ds : List Nat} (h : ds[k]? = some d) : k < (fVs ad S q ds).length := by
  have := (List.getElem?_eq_some_iff.mp h).1
  simpa [fVs] using this
theorem wl_set {cA : FieldType → ClassId} {ad : Nat → Nat} {S S' : St} {q : Nat} {e : va_E} (hq : q < NC) (he : cE cA ad S' q = e) (ho : ∀ j, j ≠ q → S'.1 j = S.1 j ∧ S'.2 j = S.2 j) : (wl cA ad S).set q (ad q, e) = wl cA ad S' := by
  apply List.ext_getElem?
  intro j
  by_cases hj : j = q
  · subst hj
    rw [wl_at hq, he]
    have : j < (wl cA ad S).length := by simp [wl, hq]
    rw [List.getElem?_set_self this]
  · rw [List.getElem?_set_ne (Ne.symm hj)]
    by_cases hN : j < NC
    · rw [wl_at hN, wl_at hN, cE_congr (ho j hj).1 (ho j hj).2]
    · simp [wl, hN]
theorem wI_ne {q k j : Nat} {v : Int32} {S : St} (h : j ≠ q) : (wI q k v S).1 j = S.1 j ∧ (wI q k v S).2 j = S.2 j := ⟨by simp [wI, va_up, h], rfl⟩
theorem wJ_ne {q k j : Nat} {v : Int64} {S : St} (h : j ≠ q) : (wJ q k v S).1 j = S.1 j ∧ (wJ q k v S).2 j = S.2 j := ⟨rfl, by simp [wJ, va_up, h]⟩
theorem wI_at (q k : Nat) (v : Int32) (S : St) : (wI q k v S).1 q = upd (S.1 q) k v := by simp [wI, va_up]
theorem wJ_at (q k : Nat) (v : Int64) (S : St) : (wJ q k v S).2 q = vp_updL (S.2 q) k v := by simp [wJ, va_up]
theorem fVs_setI {ad : Nat → Nat} {S : St} {q k : Nat} {ds : List Nat} {v : Int32} (h : ds[k]? = some 0) : fVs ad (wI q k v S) q ds = (fVs ad S q ds).set k (.int v) := by
  apply List.ext_getElem?
  intro j
  by_cases hj : j = k
  · subst hj
    rw [List.getElem?_set_self (fVs_len h), fVs_at h]
    simp [fV, wI_at, upd]
  · rw [List.getElem?_set_ne (Ne.symm hj)]
    cases hd : ds[j]? with
    | none => simp [fVs, hd]
    | some d =>
      rw [fVs_at hd, fVs_at hd]
      match d with
      | 0 => simp [fV, wI_at, upd, hj]
      | 1 => simp [fV, wI]
      | r + 2 => rfl
theorem fVs_setJ {ad : Nat → Nat} {S : St} {q k : Nat} {ds : List Nat} {v : Int64} (h : ds[k]? = some 1) : fVs ad (wJ q k v S) q ds = (fVs ad S q ds).set k (.long v) := by
  apply List.ext_getElem?
  intro j
  by_cases hj : j = k
  · subst hj
    rw [List.getElem?_set_self (fVs_len h), fVs_at h]
    simp [fV, wJ_at, vp_updL]
  · rw [List.getElem?_set_ne (Ne.symm hj)]
    cases hd : ds[j]? with
    | none => simp [fVs, hd]
    | some d =>
      rw [fVs_at hd, fVs_at hd]
      match d with
      | 0 => simp [fV, wJ]
      | 1 => simp [fV, wJ_at, vp_updL, hj]
      | r + 2 => rfl
/-- the words that every method is given -/
def GW : List Cond := lw_tbl.filter goodWord
theorem gw_of {w : Cond} (h : w ∈ lw_tbl) (hg : goodWord w = true) : w ∈ GW := List.mem_filter.mpr ⟨h, hg⟩
def GC (y : MethodName) (cc : ByteArray) (n : Nat) (ret : Option FieldType) : List Cond := Cond.code y cc n ret :: GW
theorem good_GW {w : Cond} (h : w ∈ GW) : (w.onTables && w.keeps) = true ∨ ∃ ty, w = .arrayClass ty := good_of_word (List.mem_filter.mp h).2
theorem good_GC {y : MethodName} {cc : ByteArray} {n : Nat} {r : Option FieldType} (h : Cond.code y cc n r ∈ lw_tbl) : GoodIn GW (GC y cc n r) := by
  intro w hw
  rcases List.mem_cons.mp hw with rfl | hw
  · exact ⟨gw_of h rfl, good_of_word rfl⟩
  · exact ⟨hw, good_GW hw⟩
abbrev tysl (cA : FieldType → ClassId) : List (ClassId × FieldType) := [(cA .int, .int), (cA .byte, .byte), (cA .boolean, .boolean), (cA .long, .long)]
abbrev aB (base : Nat) : Nat → Prop := fun q => base ≤ q
/-- what else is given of the machine's tables: links to private methods of the host; more of it with the throwing methods -/
def xcL : List String := ["java/lang/IllegalArgumentException", "java/lang/UnsupportedOperationException", "java/lang/IndexOutOfBoundsException", "java/util/NoSuchElementException", "java/lang/IllegalStateException"]
def dcL : List MethodName := [⟨"java/lang/RuntimeException", "<init>", "(Ljava/lang/String;)V"⟩, ⟨"java/lang/Exception", "<init>", "(Ljava/lang/String;)V"⟩, ⟨"java/lang/Throwable", "<init>", "(Ljava/lang/String;)V"⟩]
def stL : List (Nat × String) := [(110, "no text of a name"), (122, "too many names"), (143, "no such property of a name"), (156, "no minimum, or a zone of that apex is there"), (159, "too many zones"), (176, "no such owner, type or life in a zone"), (184, "the data must be a name"), (189, "too many records"), (205, "a server of that address is there"), (208, "too many servers"), (247, "no such record"), (264, "no such property of a record"), (270, "time does not go on so"), (280, "a seeking is not at its end"), (283, "no such type can be asked for"), (318, "no query is out"), (325, "no such property of a query"), (339, "no such property of a seeking"), (359, "no such name"), (363, "no such zone"), (366, "no such server")]
def EX (base : Nat) (U : State) (H : Heap) : Prop :=
  va_Nw (.methodLinkNest "NameSeeker$Reader" 76 ⟨"NameSeeker", "isNamed", "(I)Z"⟩ "NameSeeker") U ∧ va_Nw (.methodLinkNest "NameSeeker$Reader" 88 ⟨"NameSeeker", "isKept", "(I)Z"⟩ "NameSeeker") U ∧ va_Nw (.methodLinkNest "NameSeeker$Writer" 53 ⟨"NameSeeker", "isNamed", "(I)Z"⟩ "NameSeeker") U ∧
  (∀ y ∈ dcL, va_Nw (.declares y) U) ∧ (∀ n ∈ xcL, va_Nw (.castable n n) U) ∧ (∀ a ∈ xcL, ∀ b ∈ xcL, a ≠ b → va_Nc a b U) ∧ (∀ q ∈ stL, ∃ a, vk_R RX11 q.1 q.2 a U) ∧
  vx_Zq Jvm.Bundle.tN "UNASSIGNED_STACK" Jvm.Bundle.steD (aB base) U H ∧ vx_Zq Jvm.Bundle.tN "SUPPRESSED_SENTINEL" Jvm.Bundle.listD (aB base) U H
theorem EX.same {base : Nat} {u U : State} {H : Heap} (h : EX base u H) (hvm : u.vm = U.vm) : EX base U H := by
  obtain ⟨h1, h2, h3, h4, h5, h6, h7, h8, h9⟩ := h
  have ha : u.vm.Alike U.vm := by rw [hvm]; exact Vm.Alike.refl _
  refine ⟨h1.same rfl hvm, h2.same rfl hvm, h3.same rfl hvm, fun y hy => (h4 y hy).same rfl hvm, fun n hn => (h5 n hn).same rfl hvm, fun a ha' b hb' hab => (h6 a ha' b hb' hab).moved ha, fun q hq => ?_, vx_Zq.moved ha h8, vx_Zq.moved ha h9⟩
  obtain ⟨a, h⟩ := h7 q hq
  exact ⟨a, h.same hvm.symm⟩
theorem EX.pre {base : Nat} {s U : State} {H : Heap} {locs : List Loc} (h : EX base s s.heap) (hW : s.WarmedH U.vm) (hS : va_S (aB base) s.heap H locs) : EX base U H := by
  obtain ⟨h1, h2, h3, h4, h5, h6, h7, h8, h9⟩ := h
  refine ⟨h1.warmM hW, h2.warmM hW, h3.warmM hW, fun y hy => (h4 y hy).warmD hW, fun n hn => (h5 n hn).warmC hW, fun a ha' b hb' hab => (h6 a ha' b hb' hab).moved hW.alike, fun q hq => ?_, vx_Zq.moved hW.alike (h8.kept hS.2.1), vx_Zq.moved hW.alike (h9.kept hS.2.1)⟩
  obtain ⟨a, h⟩ := h7 q hq
  exact ⟨a, h.warm hW⟩
/-- what holds at a method's entry and at its end -/
def wd (D : va_G) (cA : FieldType → ClassId) (ad : Nat → Nat) (base : Nat) (S : St) (U : State) : Prop :=
  base ≤ U.heap.size ∧ va_P D vwCl (wl cA ad S) U.heap ∧ va_D (aB base) (wl cA ad S) ∧ va_K D vwCl (tysl cA) U ∧ EX base U U.heap
/-- what holds within a method's body -/
def WS (D : va_G) (cA : FieldType → ClassId) (ad : Nat → Nat) (base : Nat) (s : State) (S : St) (H : Heap) (locs : List Loc) : Prop :=
  va_P D vwCl (wl cA ad S) H ∧ va_D (aB base) (wl cA ad S) ∧ va_S (aB base) s.heap H locs
def CX (D : va_G) (cA : FieldType → ClassId) (base : Nat) (own : String) (cc : ByteArray) (nL : Nat) (p : Program) (s : State) (m : MethodId) (args : Array Value) (c : Code) : Prop :=
  p.tables.exec = Jvm.exec ∧ c.code = cc ∧ c.maxLocals = nL ∧ s.vm.findClass own = some m.cls ∧ (∀ w ∈ GW, w.before args s = true) ∧ va_K D vwCl (tysl cA) s ∧ base ≤ s.heap.size ∧ EX base s s.heap
theorem wd_blind {D : va_G} {cA : FieldType → ClassId} {ad : Nat → Nat} {base : Nat} {S : St} {vs : List Value} : FrameBlind (va_Pc vs (wd D cA ad base S)) := by
  intro a U g mk h
  obtain ⟨h0, h1, h2, h3, h4⟩ := h
  exact ⟨h0, h1, h2, h3, va_K.moved (u := U) (U := U.calling g mk a) (Vm.Alike.refl U.vm) h4.1, h4.2.same rfl⟩
def ck (i : Int32) (n : Nat) : Bool := decide (¬ (i < 0 ∨ n ≤ i.toNatClampNeg))
theorem ck_in {i : Int32} {n : Nat} (h : ck i n = true) : vp_in i n := by simpa [ck, vp_in] using h
def gd {α : Type} (b : Bool) (x : Option α) : Option α := if b = true then x else none
theorem gd_some {α : Type} {b : Bool} {x : Option α} {y : α} (h : gd b x = some y) : b = true ∧ x = some y := by
  unfold gd at h
  split at h
  · exact ⟨by assumption, h⟩
  · cases h
def bd {α β : Type} (x : Option (St × β)) (k : St → β → Option α) : Option α := match x with
  | none => none
  | some y => k y.1 y.2
theorem bd_some {α β : Type} {x : Option (St × β)} {k : St → β → Option α} {y : α} (h : bd x k = some y) : ∃ (S : St) (r : β), x = some (S, r) ∧ k S r = some y := by
  match x, h with
  | some z, h => exact ⟨z.1, z.2, rfl, h⟩
def sI {α : Type} (q k : Nat) (v : Int32) (S : St) (K : St → Option α) : Option α := K (wI q k v S)
def sJ {α : Type} (q k : Nat) (v : Int64) (S : St) (K : St → Option α) : Option α := K (wJ q k v S)
theorem sI_some {α : Type} {q k : Nat} {v : Int32} {S : St} {K : St → Option α} {y : α} (h : sI q k v S K = some y) : ∃ S1, wI q k v S = S1 ∧ K S1 = some y := ⟨_, rfl, h⟩
theorem sJ_some {α : Type} {q k : Nat} {v : Int64} {S : St} {K : St → Option α} {y : α} (h : sJ q k v S K = some y) : ∃ S1, wJ q k v S = S1 ∧ K S1 = some y := ⟨_, rfl, h⟩
theorem if_t {α : Type} {c : Prop} [Decidable c] {a b : Option α} {y : α} (h : (if c then a else b) = some y) (hc : c) : a = some y := by rw [if_pos hc] at h; exact h
theorem if_f {α : Type} {c : Prop} [Decidable c] {a b : Option α} {y : α} (h : (if c then a else b) = some y) (hc : ¬ c) : b = some y := by rw [if_neg hc] at h; exact h
theorem if_nt {α : Type} {c : Prop} [Decidable c] {a b : Option α} {y : α} (h : (if ¬ c then a else b) = some y) (hc : c) : b = some y := by rw [if_neg (not_not_intro hc)] at h; exact h
theorem no_none {α : Type} {y : α} (h : (none : Option α) = some y) : False := by cases h
def isB (v : Int32) : Bool := decide (v = 0 ∨ v = 1)
theorem isB_nar {v : Int32} (h : isB v = true) : narrow .boolean (.int v) = .int v := by
  have h : v = 0 ∨ v = 1 := by simpa [isB] using h
  rcases h with rfl | rfl <;> rfl
theorem isB_fit {v : Int32} (h : isB v = true) : fits .boolean (.int v) = true := by
  have h : v = 0 ∨ v = 1 := by simpa [isB] using h
  rcases h with rfl | rfl <;> rfl
abbrev QI (D : va_G) (cA : FieldType → ClassId) (ad : Nat → Nat) (base : Nat) (S' : St) (r : Int32) := va_Qi (fun (r' : Int32) (S'' : St) => r' = r ∧ S'' = S') (fun S'' t => wd D cA ad base S'' t) (aB base)
abbrev QL (D : va_G) (cA : FieldType → ClassId) (ad : Nat → Nat) (base : Nat) (S' : St) (r : Int64) := va_Ql (fun (r' : Int64) (S'' : St) => r' = r ∧ S'' = S') (fun S'' t => wd D cA ad base S'' t) (aB base)
abbrev QV (D : va_G) (cA : FieldType → ClassId) (ad : Nat → Nat) (base : Nat) (S' : St) := va_Qv (fun (S'' : St) => S'' = S') (fun S'' t => wd D cA ad base S'' t) (aB base)
abbrev QR (D : va_G) (cA : FieldType → ClassId) (ad : Nat → Nat) (base : Nat) (S' : St) (q : Nat) := va_Qr (fun (S'' : St) => S'' = S') (fun S'' a t => a = ad q ∧ wd D cA ad base S'' t) (aB base)
