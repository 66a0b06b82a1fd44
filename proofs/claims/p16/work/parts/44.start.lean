theorem len1 (cA : FieldType → ClassId) (base : Nat) : (cl1 cA base).length = 63 := rfl
theorem str_ex {args : Array Value} {s : State} {k : Nat} {tx : String} (h1 : (Cond.stringRef RX11 k tx).before args s = true) (h2 : (Cond.exactly (.string RX11 k) "java/lang/String").before args s = true) : ∃ a, vk_R RX11 k tx a s := by
  obtain ⟨a, c, cA, kA, q1, -⟩ := Cond.exactly_spec (args := args) (first := s) (o := none) (s := s) (idx := []) (t := .string RX11 k) (cls := "java/lang/String") h2
  exact ⟨a, vk_R.of h1 q1⟩
theorem arr_ex {args : Array Value} {s : State} {ty : FieldType} (h : (Cond.arrayClass ty).before args s = true) : ∃ cA : ClassId, ArrOfT s cA ty ∧ s.vm.findClass ("[" ++ ty.toString) = some cA := by
  obtain ⟨c, k, comp, h1, h2, h3⟩ := Cond.arrayClass_spec (args := args) (first := s) (o := none) (s := s) (idx := []) h
  exact ⟨c, fun n z => ⟨fun k h => (by cases h), k, h2, comp, h3⟩, h1⟩
set_option maxRecDepth 100000 in
set_option maxHeartbeats 4000000 in
theorem ex_start {b : Nat} {s : State} (hts : ∀ w ∈ lw_tbl, w.before #[Value.ref b] s = true) (hgv : (Jvm.Cond.and given_1 narrow_1).before #[Value.ref b] s = true) : EX s.heap.size s s.heap := by
  have hs := flat_of_before _ hgv
  refine ⟨va_Nw.of rfl (hts _ gw3_10), va_Nw.of rfl (hts _ gw3_26), va_Nw.of rfl (hts _ gw4_234), List.forall_mem_cons.mpr ⟨va_Nw.of rfl (hts _ gw3_126), List.forall_mem_cons.mpr ⟨va_Nw.of rfl (hts _ gw3_128), List.forall_mem_cons.mpr ⟨va_Nw.of rfl (hts _ gw3_130), fun _ h => absurd h List.not_mem_nil⟩⟩⟩, List.forall_mem_cons.mpr ⟨va_Nw.of rfl (hts _ gw3_124), List.forall_mem_cons.mpr ⟨va_Nw.of rfl (hts _ gw3_197), List.forall_mem_cons.mpr ⟨va_Nw.of rfl (hts _ gw3_231), List.forall_mem_cons.mpr ⟨va_Nw.of rfl (hts _ gw4_24), List.forall_mem_cons.mpr ⟨va_Nw.of rfl (hts _ gw5_100), fun _ h => absurd h List.not_mem_nil⟩⟩⟩⟩⟩, List.forall_mem_cons.mpr ⟨(List.forall_mem_cons.mpr ⟨(fun h => absurd rfl h), List.forall_mem_cons.mpr ⟨(fun _ => va_Nc.of (hs _ (by decide +kernel))), List.forall_mem_cons.mpr ⟨(fun _ => va_Nc.of (hs _ (by decide +kernel))), List.forall_mem_cons.mpr ⟨(fun _ => va_Nc.of (hs _ (by decide +kernel))), List.forall_mem_cons.mpr ⟨(fun _ => va_Nc.of (hs _ (by decide +kernel))), fun _ h => absurd h List.not_mem_nil⟩⟩⟩⟩⟩), List.forall_mem_cons.mpr ⟨(List.forall_mem_cons.mpr ⟨(fun _ => va_Nc.of (hs _ (by decide +kernel))), List.forall_mem_cons.mpr ⟨(fun h => absurd rfl h), List.forall_mem_cons.mpr ⟨(fun _ => va_Nc.of (hs _ (by decide +kernel))), List.forall_mem_cons.mpr ⟨(fun _ => va_Nc.of (hs _ (by decide +kernel))), List.forall_mem_cons.mpr ⟨(fun _ => va_Nc.of (hs _ (by decide +kernel))), fun _ h => absurd h List.not_mem_nil⟩⟩⟩⟩⟩), List.forall_mem_cons.mpr ⟨(List.forall_mem_cons.mpr ⟨(fun _ => va_Nc.of (hs _ (by decide +kernel))), List.forall_mem_cons.mpr ⟨(fun _ => va_Nc.of (hs _ (by decide +kernel))), List.forall_mem_cons.mpr ⟨(fun h => absurd rfl h), List.forall_mem_cons.mpr ⟨(fun _ => va_Nc.of (hs _ (by decide +kernel))), List.forall_mem_cons.mpr ⟨(fun _ => va_Nc.of (hs _ (by decide +kernel))), fun _ h => absurd h List.not_mem_nil⟩⟩⟩⟩⟩), List.forall_mem_cons.mpr ⟨(List.forall_mem_cons.mpr ⟨(fun _ => va_Nc.of (hs _ (by decide +kernel))), List.forall_mem_cons.mpr ⟨(fun _ => va_Nc.of (hs _ (by decide +kernel))), List.forall_mem_cons.mpr ⟨(fun _ => va_Nc.of (hs _ (by decide +kernel))), List.forall_mem_cons.mpr ⟨(fun h => absurd rfl h), List.forall_mem_cons.mpr ⟨(fun _ => va_Nc.of (hs _ (by decide +kernel))), fun _ h => absurd h List.not_mem_nil⟩⟩⟩⟩⟩), List.forall_mem_cons.mpr ⟨(List.forall_mem_cons.mpr ⟨(fun _ => va_Nc.of (hs _ (by decide +kernel))), List.forall_mem_cons.mpr ⟨(fun _ => va_Nc.of (hs _ (by decide +kernel))), List.forall_mem_cons.mpr ⟨(fun _ => va_Nc.of (hs _ (by decide +kernel))), List.forall_mem_cons.mpr ⟨(fun _ => va_Nc.of (hs _ (by decide +kernel))), List.forall_mem_cons.mpr ⟨(fun h => absurd rfl h), fun _ h => absurd h List.not_mem_nil⟩⟩⟩⟩⟩), fun _ h => absurd h List.not_mem_nil⟩⟩⟩⟩⟩, List.forall_mem_cons.mpr ⟨str_ex (hts _ gw3_165) (hs _ (by decide +kernel)), List.forall_mem_cons.mpr ⟨str_ex (hts _ gw3_204) (hs _ (by decide +kernel)), List.forall_mem_cons.mpr ⟨str_ex (hts _ gw4_31) (hs _ (by decide +kernel)), List.forall_mem_cons.mpr ⟨str_ex (hts _ gw4_69) (hs _ (by decide +kernel)), List.forall_mem_cons.mpr ⟨str_ex (hts _ gw4_70) (hs _ (by decide +kernel)), List.forall_mem_cons.mpr ⟨str_ex (hts _ gw4_101) (hs _ (by decide +kernel)), List.forall_mem_cons.mpr ⟨str_ex (hts _ gw4_103) (hs _ (by decide +kernel)), List.forall_mem_cons.mpr ⟨str_ex (hts _ gw4_104) (hs _ (by decide +kernel)), List.forall_mem_cons.mpr ⟨str_ex (hts _ gw4_139) (hs _ (by decide +kernel)), List.forall_mem_cons.mpr ⟨str_ex (hts _ gw4_140) (hs _ (by decide +kernel)), List.forall_mem_cons.mpr ⟨str_ex (hts _ gw5_51) (hs _ (by decide +kernel)), List.forall_mem_cons.mpr ⟨str_ex (hts _ gw5_73) (hs _ (by decide +kernel)), List.forall_mem_cons.mpr ⟨str_ex (hts _ gw5_81) (hs _ (by decide +kernel)), List.forall_mem_cons.mpr ⟨str_ex (hts _ gw5_107) (hs _ (by decide +kernel)), List.forall_mem_cons.mpr ⟨str_ex (hts _ gw5_114) (hs _ (by decide +kernel)), List.forall_mem_cons.mpr ⟨str_ex (hts _ gw6_13) (hs _ (by decide +kernel)), List.forall_mem_cons.mpr ⟨str_ex (hts _ gw6_134) (hs _ (by decide +kernel)), List.forall_mem_cons.mpr ⟨str_ex (hts _ gw6_166) (hs _ (by decide +kernel)), List.forall_mem_cons.mpr ⟨str_ex (hts _ gw3_238) (hs _ (by decide +kernel)), List.forall_mem_cons.mpr ⟨str_ex (hts _ gw4_90) (hs _ (by decide +kernel)), List.forall_mem_cons.mpr ⟨str_ex (hts _ gw4_160) (hs _ (by decide +kernel)), fun _ h => absurd h List.not_mem_nil⟩⟩⟩⟩⟩⟩⟩⟩⟩⟩⟩⟩⟩⟩⟩⟩⟩⟩⟩⟩⟩, ?_, ?_⟩
  · exact vx_Zqof (hts _ gw3_149) (hts _ gw1_14) (hs _ (by decide +kernel)) (fun a h => Nat.not_le.mpr h)
  · exact vx_Zqof (hts _ gw3_151) (hts _ gw1_14) (hs _ (by decide +kernel)) (fun a h => Nat.not_le.mpr h)
set_option maxHeartbeats 4000000 in
set_option maxRecDepth 100000 in
theorem start_open {fu : Nat} (hpure : ∀ (xs : Nat → Int32) (n : Nat), n ≤ 512 → lawOk fu xs n 0 S0) {p : Program} {e : Env} {s : State} {m : MethodId} {below : List Frame} {meth : Method} {c : Code} (l : Launch) (hlt : l.stackTraces = false) {b L : Nat} {xs : Nat → Int32} (hL : L ≤ 3072) (C0 : lw_At p s m meth c b L xs) : W p l e room_1 s m #[Value.ref b] below meth c s.heap [] 0 0 (lw_Z below #[Value.ref b] s) (entryFrame m ([Value.ref b] : List Value).toArray 7) := by
  obtain ⟨hx, hb, hr, hml, hown, hts, hX, hbl, hlocks, hgv⟩ := id C0
  have hgw : ∀ w ∈ GW, w.before #[Value.ref b] s = true := fun w hw => hts w (List.mem_filter.mp hw).1
  obtain ⟨c0, iS0, hKn0⟩ := u_known (C := RX0) (T := TX0) (N := 3) (n := 3) hgw inX0 (hts _ gw1_34)
  obtain ⟨c1, iS1, hKn1⟩ := u_known (C := RX1) (T := TX1) (N := 9) (n := 9) hgw inX1 (hts _ gw1_234)
  obtain ⟨c2, iS2, hKn2⟩ := u_known (C := RX2) (T := TX2) (N := 10) (n := 10) hgw inX2 (hts _ gw2_34)
  obtain ⟨c3, iS3, hKn3⟩ := u_known (C := RX3) (T := TX3) (N := 4) (n := 4) hgw inX3 (hts _ gw1_51)
  obtain ⟨c4, iS4, hKn4⟩ := u_known (C := RX4) (T := TX4) (N := 10) (n := 10) hgw inX4 (hts _ gw1_168)
  obtain ⟨c5, iS5, hKn5⟩ := u_known (C := RX5) (T := TX5) (N := 6) (n := 6) hgw inX5 (hts _ gw1_176)
  obtain ⟨c6, iS6, hKn6⟩ := u_known (C := RX6) (T := TX6) (N := 14) (n := 14) hgw inX6 (hts _ gw2_28)
  obtain ⟨c7, iS7, hKn7⟩ := u_known (C := RX7) (T := TX7) (N := 5) (n := 5) hgw inX7 (hts _ gw1_146)
  obtain ⟨c8, iS8, hKn8⟩ := u_known (C := RX8) (T := TX8) (N := 3) (n := 3) hgw inX8 (hts _ gw1_72)
  obtain ⟨c9, iS9, hKn9⟩ := u_known (C := RX9) (T := TX9) (N := 4) (n := 4) hgw inX9 (hts _ gw1_125)
  obtain ⟨c10, iS10, hKn10⟩ := u_known (C := RX10) (T := TX10) (N := 10) (n := 10) hgw inX10 (hts _ gw1_88)
  obtain ⟨c11, iS11, hKn11⟩ := u_known (C := RX11) (T := TX11) (N := 10) (n := 10) hgw inX11 (hts _ gw1_26)
  obtain ⟨c12, iS12, hKn12⟩ := u_known (C := RX12) (T := TX12) (N := 73) (n := 73) hgw inX12 (hts _ gw6_176)
  obtain ⟨dC, dI, hKc⟩ : ∃ (dC : Nat → ClassId) (dI : Nat → Nat → Nat), ∀ (k : Nat) (q : vw_C), vwCl[k]? = some q → u_Kn s q.1 q.2.1 q.2.2 (dC k) (dI k) := by
    refine ⟨fun k => if k = 0 then c0 else if k = 1 then c1 else if k = 2 then c2 else if k = 3 then c3 else if k = 4 then c4 else if k = 5 then c5 else if k = 6 then c6 else if k = 7 then c7 else if k = 8 then c8 else if k = 9 then c9 else if k = 10 then c10 else if k = 11 then c11 else c12, fun k => if k = 0 then iS0 else if k = 1 then iS1 else if k = 2 then iS2 else if k = 3 then iS3 else if k = 4 then iS4 else if k = 5 then iS5 else if k = 6 then iS6 else if k = 7 then iS7 else if k = 8 then iS8 else if k = 9 then iS9 else if k = 10 then iS10 else if k = 11 then iS11 else iS12, ?_⟩
    intro k q hq
    match k, hq with
      | 0, hq => cases hq; exact hKn0
      | 1, hq => cases hq; exact hKn1
      | 2, hq => cases hq; exact hKn2
      | 3, hq => cases hq; exact hKn3
      | 4, hq => cases hq; exact hKn4
      | 5, hq => cases hq; exact hKn5
      | 6, hq => cases hq; exact hKn6
      | 7, hq => cases hq; exact hKn7
      | 8, hq => cases hq; exact hKn8
      | 9, hq => cases hq; exact hKn9
      | 10, hq => cases hq; exact hKn10
      | 11, hq => cases hq; exact hKn11
      | 12, hq => cases hq; exact hKn12
      | k + 13, hq => simp [vwCl] at hq
  obtain ⟨cI, aI1, aI2⟩ := arr_ex (hts _ gw1_69)
  obtain ⟨cB, aB1, aB2⟩ := arr_ex (hts _ gw1_49)
  obtain ⟨cZ, aZ1, aZ2⟩ := arr_ex (hts _ gw7_161)
  obtain ⟨cJ, aJ1, aJ2⟩ := arr_ex (hts _ gw1_70)
  obtain ⟨cA, e1, e2, e3, e4⟩ : ∃ cA : FieldType → ClassId, cA .int = cI ∧ cA .byte = cB ∧ cA .boolean = cZ ∧ cA .long = cJ := ⟨fun ty => if ty = .int then cI else if ty = .byte then cB else if ty = .boolean then cZ else cJ, by simp, by simp, by simp, by simp⟩
  subst e1; subst e2; subst e3; subst e4
  have hK : va_K (dC, dI) vwCl (tysl cA) s := ⟨hKc, fun k q hq => by
    match k, hq with
    | 0, hq => cases hq; exact ⟨aI1, aI2⟩
    | 1, hq => cases hq; exact ⟨aB1, aB2⟩
    | 2, hq => cases hq; exact ⟨aZ1, aZ2⟩
    | 3, hq => cases hq; exact ⟨aJ1, aJ2⟩
    | k + 4, hq => simp at hq⟩
  have C : CX (dC, dI) cA s.heap.size RL cL_law 7 p s m #[Value.ref b] c := ⟨hx, hb, hml, hown, hgw, hK, Nat.le_refl _, ex_start hts hgv⟩
  have hl := lv_entry ([.ref b]) (n := 7) (Nat.le_of_ble_eq_true rfl)
  rw [lg_entry_eq]
  generalize (lg_sl ([.ref b]) ++ List.replicate (7 - (lg_sl ([.ref b])).length) Slot.unset).toArray = ls at hl ⊢
  have hl : lv_has ls 7 [(0, .ref b)] := hl
  generalize hbs : s.heap.size = base at C
  have hw : WP (dC, dI) base s ([] ++ []) s.heap [] := ⟨fun k q h => by simp [wq] at h, by simp [hbs], va_S.rf⟩
  refine p_new C hw (n := 0) rfl (i := 0) rfl (fs := [.null, .null, .null, .null, .null, .null, .null, .null, .null, .null]) vc_11 inX11 tyX11_ok gw1_25 gw1_26 gw1_1 (by decide +kernel) (Nat.le_of_ble_eq_true rfl) (Nat.le_of_ble_eq_true rfl) dL_law_0 (fun H locs hw => ?_)
  refine lv_dup hx hb dL_law_3 rfl ?_
  have hw : WP (dC, dI) base s ([] ++ [.inr (11, [.null, .null, .null, .null, .null, .null, .null, .null, .null, .null])]) H locs := hw
  refine p_call (rest := [.ref (base + (0 + 0))]) (k := 0) C hw (i_X11 l (dC, dI) cA base [] 0 rfl) gw1_29 gw1_1 gw1_27 gw1_28 rfl (by decide +kernel) ⟨rfl, rfl, Nat.le_of_ble_eq_true rfl, Nat.le_of_ble_eq_true rfl⟩ rfl hl.1 rfl (Nat.le_of_ble_eq_true rfl) dL_law_4 (Nat.le_of_ble_eq_true rfl) (Nat.le_of_ble_eq_true rfl) (fun H locs hw => ?_)
  refine lv_astore_n (lv' := [(1, .ref (base + 0)), (0, .ref b)]) hx hb dL_law_7 rfl hl (by decide) rfl (fun ls hl => ?_)
  have hw : WP (dC, dI) base s (cl1 cA base ++ []) H locs := by
    rw [List.append_nil]
    simpa using hw
  refine p_new C hw (n := 63) (len1 cA base) (i := 0) rfl (fs := [.int 0, .null, .null, .null, .null, .int 0, .null, .null, .int 0, .null, .int 0, .null, .null, .null, .int 0, .null, .null, .null, .null, .null, .int 0, .null, .null, .int 0, .null, .int 0, .null, .int 0, .null, .null, .int 0, .int 0, .int 0, .int 0, .int 0, .int 0, .int 0, .null, .null, .null, .null, .null, .int 0, .null, .int 0, .null, .null, .null, .null, .null, .int 0, .int 0, .null, .int 0, .long 0, .null, .null, .null, .null, .null, .null, .null, .int 0, .int 0, .int 0, .int 0, .int 0, .int 0, .int 0, .int 0, .null, .int 0, .null]) vc_12 inX12 tyX12_ok gw6_175 gw6_176 gw1_13 (by decide +kernel) (Nat.le_of_ble_eq_true rfl) (Nat.le_of_ble_eq_true rfl) dL_law_8 (fun H locs hw => ?_)
  refine lv_dup hx hb dL_law_11 rfl ?_
  have hw : WP (dC, dI) base s (cl1 cA base ++ [.inr (12, [.int 0, .null, .null, .null, .null, .int 0, .null, .null, .int 0, .null, .int 0, .null, .null, .null, .int 0, .null, .null, .null, .null, .null, .int 0, .null, .null, .int 0, .null, .int 0, .null, .int 0, .null, .null, .int 0, .int 0, .int 0, .int 0, .int 0, .int 0, .int 0, .null, .null, .null, .null, .null, .int 0, .null, .int 0, .null, .null, .null, .null, .null, .int 0, .int 0, .null, .int 0, .long 0, .null, .null, .null, .null, .null, .null, .null, .int 0, .int 0, .int 0, .int 0, .int 0, .int 0, .int 0, .int 0, .null, .int 0, .null])]) H locs := hw
  refine p_call (rest := [.ref (base + (63 + 0))]) (k := 0) C hw (i_X12 l (dC, dI) cA base (cl1 cA base) 63 (len1 cA base)) gw6_179 gw1_13 gw6_177 gw6_178 rfl (by decide +kernel) ⟨rfl, rfl, Nat.le_of_ble_eq_true rfl, Nat.le_of_ble_eq_true rfl⟩ rfl hl.1 rfl (Nat.le_of_ble_eq_true rfl) dL_law_12 (Nat.le_of_ble_eq_true rfl) (Nat.le_of_ble_eq_true rfl) (fun H locs hw => ?_)
  have hw : WP (dC, dI) base s (cl1 cA base ++ cl2 cA base) H locs := hw
  refine lv_astore_n (lv' := [(2, .ref (base + 63)), (1, .ref (base + 0)), (0, .ref b)]) hx hb dL_law_15 rfl hl (by decide) rfl (fun ls hl => ?_)
  refine lv_iconst (v := (1 : Int32)) hx hb dL_law_16 (by decide) ?_
  refine p_newa C hw (n := 63) (len1 cA base) (i := 43) rfl (atype := .long) (ty := .long) rfl gw1_70 (by simp) (fun _ h => h) (a0 := (1, .inr (.inl (fun _ => 0)))) (fun _ => rfl) (by decide) (by decide) (by decide) (Nat.le_of_ble_eq_true rfl) (Nat.le_of_ble_eq_true rfl) dL_law_17 (fun H locs hw => ?_)
  have hw : WP (dC, dI) base s (cl1 cA base ++ (cl2 cA base ++ cl3 cA)) H locs := hw
  refine lv_astore_n (lv' := [(3, .ref (base + 106)), (2, .ref (base + 63)), (1, .ref (base + 0)), (0, .ref b)]) hx hb dL_law_19 rfl hl (by decide) rfl (fun ls hl => ?_)
  refine lv_iconst (v := (0 : Int32)) hx hb dL_law_20 (by decide) ?_
  refine lv_istore (lv' := [(4, .int 0), (3, .ref (base + 106)), (2, .ref (base + 63)), (1, .ref (base + 0)), (0, .ref b)]) hx hb dL_law_21 hl (by decide) rfl (fun ls hl => ?_)
  refine W.widen (k := 107) (n := 19268) (Nat.le_of_ble_eq_true rfl) (Nat.le_of_ble_eq_true rfl) ?_
  have hw2 : WS (dC, dI) cA (fun k => base + k) base s S0 H locs := ⟨by rw [← wq_wl]; exact hw.1, by rw [← wq_wl]; exact wq_D _ _, hw.2.2⟩
  subst hbs
  have h6 : 6 * (L / 6) ≤ L := Nat.mul_div_le L 6
  have h7 : L < 6 * (L / 6) + 6 := by omega
  exact law_loop hlt C hr hlocks hX hbl hL (fu := fu) (L / 6) 0 0 107 19268 S0 H locs ls (by omega) (by omega) rfl (by omega) (by omega) (hpure xs (L / 6) (by omega)) hw2 (lv_sub hl [4, 3, 2, 1, 0] rfl)
