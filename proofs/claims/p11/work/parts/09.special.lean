theorem lk_out3 {x : Int32} {o1 o2 o3 d : Int} (h1 : ¬ x = 1) (h2 : ¬ x = 6) (h3 : ¬ x = 16) : Op.lookupswitch.offset [(1, o1), (6, o2), (16, o3)] d x.toInt = d := by
  have k1 : ¬ (1 : Int) = x.toInt := fun h => h1 (Int32.toInt_inj.mp (by rw [← h]; rfl))
  have k2 : ¬ (6 : Int) = x.toInt := fun h => h2 (Int32.toInt_inj.mp (by rw [← h]; rfl))
  have k3 : ¬ (16 : Int) = x.toInt := fun h => h3 (Int32.toInt_inj.mp (by rw [← h]; rfl))
  rw [Op.lookupswitch.offset_cons, if_neg k1, Op.lookupswitch.offset_cons, if_neg k2, Op.lookupswitch.offset_cons, if_neg k3, Op.lookupswitch.offset_nil]
def cpOk (S : St) (x0 : Nat) (sp dp n : Int32) (n0 n1 : Nat) : Bool := decide (¬ sp < 0 ∧ ¬ dp < 0 ∧ ¬ n < 0 ∧ sp.toNatClampNeg + n.toNatClampNeg ≤ n0 ∧ dp.toNatClampNeg + n.toNatClampNeg ≤ n1 ∧ ∀ i, i < n.toNatClampNeg → (S.1 x0 (sp.toNatClampNeg + i)).toInt8.toInt32 = S.1 x0 (sp.toNatClampNeg + i))
def wC (x0 x1 : Nat) (sp dp n : Int32) (S : St) : St := (va_up S.1 x1 (va_cpy (S.1 x0) (S.1 x1) sp.toNatClampNeg dp.toNatClampNeg n.toNatClampNeg), S.2)
def sC {α : Type} (x0 x1 : Nat) (sp dp n : Int32) (S : St) (K : St → Option α) : Option α := K (wC x0 x1 sp dp n S)
theorem sC_some {α : Type} {x0 x1 : Nat} {sp dp n : Int32} {S : St} {K : St → Option α} {y : α} (h : sC x0 x1 sp dp n S K = some y) : ∃ S1, wC x0 x1 sp dp n S = S1 ∧ K S1 = some y := ⟨_, rfl, h⟩
section RSP
variable {p : Program} {l : Launch} {e : Env} {R : Room} {s : State} {m : MethodId} {args : Array Value} {below : List Frame} {meth : Method} {c : Code} {H : Heap} {locs : List Loc} {cells slots : Nat} {Q : State → Prop}
variable {cc : ByteArray} {pc nL : Nat} {ls : Array Slot} {rest : List Value} {D : va_G} {cA : FieldType → ClassId} {ad : Nat → Nat} {base : Nat} {S : St} {own : String}
theorem r_min (C : CX D cA base own cc nL p s m args c) (hsize : ls.size = nL) {index : Nat} (hlink : Cond.methodLink own index Lib.MathLoose.min_long.x ∈ lw_tbl) (hframes : 1 ≤ R.frames) (hlocals : (rest.map fun v => v.category).sum + 15 ≤ R.locals) (hc : cells ≤ R.cells) (hs : slots ≤ R.slots) {x y : Int64} (hdg : decode cc pc = .ok (.invokestatic index, 3))
    (kk : W p l e R s m args below meth c H locs cells slots Q (F0 m (pc + 3) ls (.long (if y < x then y else x) :: rest))) : W p l e R s m args below meth c H locs cells slots Q (F0 m pc ls (.long y :: .long x :: rest)) := by
  obtain ⟨hx, hb, hml, hown, hts, hK, hbase⟩ := C
  exact va_mmin_long hx hb (hml.trans hsize.symm) hown (hts _ (gw_of hlink rfl)) (hts _ (gw_of gw6_64 rfl)) (hts _ (gw_of gw1_24 rfl)) (hts _ (gw_of gw6_65 rfl)) hframes hlocals hc hs hdg kk
theorem r_copy (C : CX D cA base own cc nL p s m args c) (hw : WS D cA ad base s S H locs) (hsize : ls.size = nL) {x0 x1 n0 n1 index : Nat} {sp dp n : Int32} (hlink : Cond.methodLink own index arraycopyName ∈ lw_tbl) (h0 : desc x0 = .inr (.byte, n0)) (h0N : x0 < NC) (h1 : desc x1 = .inr (.byte, n1)) (h1N : x1 < NC) (hok : cpOk S x0 sp dp n n0 n1 = true) (hframes : 1 ≤ R.frames) (hlocals : (rest.map fun v => v.category).sum + (nativeFrameWords "java/lang/System" "arraycopy" 5 + 11) ≤ R.locals) (hdg : decode cc pc = .ok (.invokestatic index, 3)) {S1 : St} (hS1 : wC x0 x1 sp dp n S = S1)
    (kk : ∀ (H : Heap) (locs : List Loc), WS D cA ad base s S1 H locs → W p l e R s m args below meth c H locs cells slots Q (F0 m (pc + 3) ls rest)) : W p l e R s m args below meth c H locs cells slots Q (F0 m pc ls (.int n :: .int dp :: .ref (ad x1) :: .int sp :: .ref (ad x0) :: rest)) := by
  obtain ⟨hx, hb, hml, hown, hts, hK, hbase⟩ := C
  obtain ⟨hP, hD, hS⟩ := hw
  obtain ⟨k1, k2, k3, k4, k5, k6⟩ : ¬ sp < 0 ∧ ¬ dp < 0 ∧ ¬ n < 0 ∧ sp.toNatClampNeg + n.toNatClampNeg ≤ n0 ∧ dp.toNatClampNeg + n.toNatClampNeg ≤ n1 ∧ ∀ i, i < n.toNatClampNeg → (S.1 x0 (sp.toNatClampNeg + i)).toInt8.toInt32 = S.1 x0 (sp.toNatClampNeg + i) := of_decide_eq_true hok
  refine va_copyi hx hb (hml.trans hsize.symm) hown (hts _ (gw_of hlink rfl)) (hts _ (gw_of gw5_39 rfl)) (hts _ (gw_of gw5_38 rfl)) (hts _ (gw_of gw1_22 rfl)) hK hP hD hS x0 x1 1 1 (ty := .byte) (by rw [wl_at h0N, cE_int h0 (by decide)]) (by rw [wl_at h1N, cE_int h1 (by decide)]) rfl rfl rfl k1 k2 k3 k4 k5 (fun i hi => by rw [← k6 i hi]; exact pk_fb _) hframes hlocals hdg (fun H1 locs1 hP hD hS => ?_)
  have e1 : (wl cA ad S).set x1 (ad x1, .inl (cA .byte, n1, .inl (va_cpy (S.1 x0) (S.1 x1) sp.toNatClampNeg dp.toNatClampNeg n.toNatClampNeg))) = wl cA ad S1 := by
    rw [← hS1]
    exact wl_set h1N (by rw [cE_int h1 (by decide)]; simp [wC, va_up]) (fun j hj => ⟨by simp [wC, va_up, hj], rfl⟩)
  rw [e1] at hP hD
  exact kk H1 locs1 ⟨hP, hD, hS⟩
end RSP
