theorem no01 {S S' : St} : ¬ (some (S, (0 : Int32)) = some (S', (1 : Int32))) := by
  intro h
  have h2 : (0 : Int32) = 1 := congrArg (fun z : St × Int32 => z.2) (Option.some.inj h)
  exact absurd h2 (by decide)
section RLW
variable {p : Program} {l : Launch} {e : Env} {R : Room} {s : State} {m : MethodId} {args : Array Value} {below : List Frame} {meth : Method} {c : Code} {H : Heap} {locs : List Loc} {cells slots : Nat} {Q : State → Prop}
variable {cc : ByteArray} {pc nL : Nat} {ls : Array Slot} {rest : List Value} {D : va_G} {cA : FieldType → ClassId} {ad : Nat → Nat} {base : Nat} {S : St} {own : String}
theorem r_sld (C : CX D cA base own cc nL p s m args c) (hw : WS D cA ad base s S H locs) {b L0 : Nat} {xs : Nat → Int32} (hX : va_X b L0 xs s s.heap) (hbl : b < s.heap.size) (hbB : ¬ aB base b) {i a : Int32} (hin : vp_in i L0) (ha : xs i.toNatClampNeg = a) (hdg : decode cc pc = .ok (.iaload, 1))
    (kk : W p l e R s m args below meth c H locs cells slots Q (F0 m (pc + 1) ls (.int a :: rest))) : W p l e R s m args below meth c H locs cells slots Q (F0 m pc ls (.int i :: .ref b :: rest)) := by
  subst ha
  exact va_sld C.1 C.2.1 hX hbl hbB hw.2.2 hin hdg kk
end RLW
noncomputable def fc_0 (fu : Nat) (a1 a2 a3 a4 a5 : Int32) (S : St) : Option (St × Int32) :=
  bd (fX11_feed fu a1 a2 a3 a4 a5 S) fun S_187 r_187 =>
  bd (fX12_feed fu a1 a2 a3 a4 a5 S_187) fun S_221 r_221 =>
  if r_187 = r_221 then
    some (S_221, (1 : Int32))
  else
    some (S_221, (0 : Int32))
set_option maxHeartbeats 4000000 in
set_option maxRecDepth 100000 in
theorem lc_0 {p : Program} {l : Launch} {e : Env} {s : State} {m : MethodId} {below : List Frame} {meth : Method} {c : Code} {Q : State → Prop} {D : va_G} {cA : FieldType → ClassId} {ad : Nat → Nat} {base b L0 : Nat} {xs : Nat → Int32} (hlt : l.stackTraces = false) (C : CX D cA base RL cL_law 7 p s m #[Value.ref b] c) (hX : va_X b L0 xs s s.heap) (hbl : b < s.heap.size) (hbB : ¬ aB base b) {x4 a1 a2 a3 a4 a5 : Int32} (h_in1 : vp_in (x4 + 1) L0) (h_in2 : vp_in (x4 + 2) L0) (h_in3 : vp_in (x4 + 3) L0) (h_in4 : vp_in (x4 + 4) L0) (h_in5 : vp_in (x4 + 5) L0) (ha1 : xs (x4 + 1).toNatClampNeg = a1) (ha2 : xs (x4 + 2).toNatClampNeg = a2) (ha3 : xs (x4 + 3).toNatClampNeg = a3) (ha4 : xs (x4 + 4).toNatClampNeg = a4) (ha5 : xs (x4 + 5).toNatClampNeg = a5) {c0 s0 : Nat} (hc0 : c0 + 1 ≤ room_1.cells) (hs0 : s0 + 6 ≤ room_1.slots) {fu : Nat} {S S' : St} (hf : fc_0 fu a1 a2 a3 a4 a5 S = some (S', (1 : Int32)))
    (kk : ∀ (H : Heap) (locs : List Loc) (ls : Array Slot), WS D cA ad base s S' H locs → lv_has ls 7 [(0, .ref b), (1, .ref (ad 0)), (2, .ref (ad 63)), (3, .ref (ad 106)), (4, .int x4)] → W p l e room_1 s m #[Value.ref b] below meth c H locs (c0 + 1) (s0 + 6) Q (F0 m 1554 ls []))
    {H : Heap} {locs : List Loc} {ls : Array Slot} (hw : WS D cA ad base s S H locs) (hl : lv_has ls 7 [(0, .ref b), (1, .ref (ad 0)), (2, .ref (ad 63)), (3, .ref (ad 106)), (4, .int x4)]) : W p l e room_1 s m #[Value.ref b] below meth c H locs c0 s0 Q (F0 m 156 ls []) := by
  have hx := C.1
  have hb := C.2.1
  have hc1 : c0 ≤ room_1.cells := by omega
  have hs1 : s0 ≤ room_1.slots := by omega
  refine lv_aload_n hx hb dL_law_156 rfl (lv_at hl 1 rfl) ?_
  refine lv_aload_n hx hb dL_law_157 rfl (lv_at hl 0 rfl) ?_
  refine lv_iload hx hb dL_law_158 (lv_at hl 4 rfl) ?_
  refine lv_iconst (v := (1 : Int32)) hx hb dL_law_160 (by decide) ?_
  refine lv_iadd hx hb dL_law_161 ?_
  refine r_sld C hw hX hbl hbB h_in1 ha1 dL_law_162 ?_
  refine lv_aload_n hx hb dL_law_163 rfl (lv_at hl 0 rfl) ?_
  refine lv_iload hx hb dL_law_164 (lv_at hl 4 rfl) ?_
  refine lv_iconst (v := (2 : Int32)) hx hb dL_law_166 (by decide) ?_
  refine lv_iadd hx hb dL_law_167 ?_
  refine r_sld C hw hX hbl hbB h_in2 ha2 dL_law_168 ?_
  refine lv_aload_n hx hb dL_law_169 rfl (lv_at hl 0 rfl) ?_
  refine lv_iload hx hb dL_law_170 (lv_at hl 4 rfl) ?_
  refine lv_iconst (v := (3 : Int32)) hx hb dL_law_172 (by decide) ?_
  refine lv_iadd hx hb dL_law_173 ?_
  refine r_sld C hw hX hbl hbB h_in3 ha3 dL_law_174 ?_
  refine lv_aload_n hx hb dL_law_175 rfl (lv_at hl 0 rfl) ?_
  refine lv_iload hx hb dL_law_176 (lv_at hl 4 rfl) ?_
  refine lv_iconst (v := (4 : Int32)) hx hb dL_law_178 (by decide) ?_
  refine lv_iadd hx hb dL_law_179 ?_
  refine r_sld C hw hX hbl hbB h_in4 ha4 dL_law_180 ?_
  refine lv_aload_n hx hb dL_law_181 rfl (lv_at hl 0 rfl) ?_
  refine lv_iload hx hb dL_law_182 (lv_at hl 4 rfl) ?_
  refine lv_iconst (v := (5 : Int32)) hx hb dL_law_184 (by decide) ?_
  refine lv_iadd hx hb dL_law_185 ?_
  refine r_sld C hw hX hbl hbB h_in5 ha5 dL_law_186 ?_
  obtain ⟨S_187, r_187, h_187, hf⟩ := bd_some hf
  refine r_bi hw (r_runV (rest := []) C hw (m_X11_feed l D cA ad base fu h_187) mvX11_feed gw2_144 ⟨rfl, rfl, Nat.le_of_ble_eq_true rfl, Nat.le_of_ble_eq_true rfl⟩ dq_0 ln_0 vc_11 rfl hl.1 rfl (Nat.le_of_ble_eq_true rfl) dL_law_187 hc1 hs1) (fun H locs hw => ?_)
  refine lv_aload_n hx hb dL_law_190 rfl (lv_at hl 2 rfl) ?_
  refine lv_aload_n hx hb dL_law_191 rfl (lv_at hl 0 rfl) ?_
  refine lv_iload hx hb dL_law_192 (lv_at hl 4 rfl) ?_
  refine lv_iconst (v := (1 : Int32)) hx hb dL_law_194 (by decide) ?_
  refine lv_iadd hx hb dL_law_195 ?_
  refine r_sld C hw hX hbl hbB h_in1 ha1 dL_law_196 ?_
  refine lv_aload_n hx hb dL_law_197 rfl (lv_at hl 0 rfl) ?_
  refine lv_iload hx hb dL_law_198 (lv_at hl 4 rfl) ?_
  refine lv_iconst (v := (2 : Int32)) hx hb dL_law_200 (by decide) ?_
  refine lv_iadd hx hb dL_law_201 ?_
  refine r_sld C hw hX hbl hbB h_in2 ha2 dL_law_202 ?_
  refine lv_aload_n hx hb dL_law_203 rfl (lv_at hl 0 rfl) ?_
  refine lv_iload hx hb dL_law_204 (lv_at hl 4 rfl) ?_
  refine lv_iconst (v := (3 : Int32)) hx hb dL_law_206 (by decide) ?_
  refine lv_iadd hx hb dL_law_207 ?_
  refine r_sld C hw hX hbl hbB h_in3 ha3 dL_law_208 ?_
  refine lv_aload_n hx hb dL_law_209 rfl (lv_at hl 0 rfl) ?_
  refine lv_iload hx hb dL_law_210 (lv_at hl 4 rfl) ?_
  refine lv_iconst (v := (4 : Int32)) hx hb dL_law_212 (by decide) ?_
  refine lv_iadd hx hb dL_law_213 ?_
  refine r_sld C hw hX hbl hbB h_in4 ha4 dL_law_214 ?_
  refine lv_aload_n hx hb dL_law_215 rfl (lv_at hl 0 rfl) ?_
  refine lv_iload hx hb dL_law_216 (lv_at hl 4 rfl) ?_
  refine lv_iconst (v := (5 : Int32)) hx hb dL_law_218 (by decide) ?_
  refine lv_iadd hx hb dL_law_219 ?_
  refine r_sld C hw hX hbl hbB h_in5 ha5 dL_law_220 ?_
  obtain ⟨S_221, r_221, h_221, hf⟩ := bd_some hf
  refine r_bi hw (r_runV (rest := [.int r_187]) C hw (m_X12_feed l D cA ad base fu h_221) mvX12_feed gw7_166 ⟨rfl, rfl, Nat.le_of_ble_eq_true rfl, Nat.le_of_ble_eq_true rfl⟩ dq_63 ln_63 vc_12 rfl hl.1 rfl (Nat.le_of_ble_eq_true rfl) dL_law_221 hc1 hs1) (fun H locs hw => ?_)
  refine lv_icmp_eq (tgt := 1554) hx hb dL_law_224 (by decide) (fun c_224 => ?_) (fun c_224 => ?_)
  · have hf := if_t hf c_224
    refine W.widen (k := c0 + 1) (n := s0 + 6) (by omega) (by omega) ?_
    exact kk _ _ _ (by cases hf; exact hw) (lv_sub hl [0, 1, 2, 3, 4] rfl)
  · have hf := if_f hf c_224
    refine lv_iconst (v := (0 : Int32)) hx hb dL_law_227 (by decide) ?_
    exact absurd hf no01
noncomputable def fc_1 (fu : Nat) (a1 a2 a3 a4 a5 : Int32) (S : St) : Option (St × Int32) :=
  bd (fX11_end fu a1 S) fun S_236 r_236 =>
  bd (fX12_end fu a1 S_236) fun S_246 r_246 =>
  if r_236 = r_246 then
    some (S_246, (1 : Int32))
  else
    some (S_246, (0 : Int32))
set_option maxHeartbeats 4000000 in
set_option maxRecDepth 100000 in
theorem lc_1 {p : Program} {l : Launch} {e : Env} {s : State} {m : MethodId} {below : List Frame} {meth : Method} {c : Code} {Q : State → Prop} {D : va_G} {cA : FieldType → ClassId} {ad : Nat → Nat} {base b L0 : Nat} {xs : Nat → Int32} (hlt : l.stackTraces = false) (C : CX D cA base RL cL_law 7 p s m #[Value.ref b] c) (hX : va_X b L0 xs s s.heap) (hbl : b < s.heap.size) (hbB : ¬ aB base b) {x4 a1 a2 a3 a4 a5 : Int32} (h_in1 : vp_in (x4 + 1) L0) (h_in2 : vp_in (x4 + 2) L0) (h_in3 : vp_in (x4 + 3) L0) (h_in4 : vp_in (x4 + 4) L0) (h_in5 : vp_in (x4 + 5) L0) (ha1 : xs (x4 + 1).toNatClampNeg = a1) (ha2 : xs (x4 + 2).toNatClampNeg = a2) (ha3 : xs (x4 + 3).toNatClampNeg = a3) (ha4 : xs (x4 + 4).toNatClampNeg = a4) (ha5 : xs (x4 + 5).toNatClampNeg = a5) {c0 s0 : Nat} (hc0 : c0 + 1 ≤ room_1.cells) (hs0 : s0 + 6 ≤ room_1.slots) {fu : Nat} {S S' : St} (hf : fc_1 fu a1 a2 a3 a4 a5 S = some (S', (1 : Int32)))
    (kk : ∀ (H : Heap) (locs : List Loc) (ls : Array Slot), WS D cA ad base s S' H locs → lv_has ls 7 [(0, .ref b), (1, .ref (ad 0)), (2, .ref (ad 63)), (3, .ref (ad 106)), (4, .int x4)] → W p l e room_1 s m #[Value.ref b] below meth c H locs (c0 + 1) (s0 + 6) Q (F0 m 1554 ls []))
    {H : Heap} {locs : List Loc} {ls : Array Slot} (hw : WS D cA ad base s S H locs) (hl : lv_has ls 7 [(0, .ref b), (1, .ref (ad 0)), (2, .ref (ad 63)), (3, .ref (ad 106)), (4, .int x4)]) : W p l e room_1 s m #[Value.ref b] below meth c H locs c0 s0 Q (F0 m 229 ls []) := by
  have hx := C.1
  have hb := C.2.1
  have hc1 : c0 ≤ room_1.cells := by omega
  have hs1 : s0 ≤ room_1.slots := by omega
  refine lv_aload_n hx hb dL_law_229 rfl (lv_at hl 1 rfl) ?_
  refine lv_aload_n hx hb dL_law_230 rfl (lv_at hl 0 rfl) ?_
  refine lv_iload hx hb dL_law_231 (lv_at hl 4 rfl) ?_
  refine lv_iconst (v := (1 : Int32)) hx hb dL_law_233 (by decide) ?_
  refine lv_iadd hx hb dL_law_234 ?_
  refine r_sld C hw hX hbl hbB h_in1 ha1 dL_law_235 ?_
  obtain ⟨S_236, r_236, h_236, hf⟩ := bd_some hf
  refine r_bi hw (r_runV (rest := []) C hw (m_X11_end l D cA ad base fu h_236) mvX11_end gw2_160 ⟨rfl, rfl, Nat.le_of_ble_eq_true rfl, Nat.le_of_ble_eq_true rfl⟩ dq_0 ln_0 vc_11 rfl hl.1 rfl (Nat.le_of_ble_eq_true rfl) dL_law_236 hc1 hs1) (fun H locs hw => ?_)
  refine lv_aload_n hx hb dL_law_239 rfl (lv_at hl 2 rfl) ?_
  refine lv_aload_n hx hb dL_law_240 rfl (lv_at hl 0 rfl) ?_
  refine lv_iload hx hb dL_law_241 (lv_at hl 4 rfl) ?_
  refine lv_iconst (v := (1 : Int32)) hx hb dL_law_243 (by decide) ?_
  refine lv_iadd hx hb dL_law_244 ?_
  refine r_sld C hw hX hbl hbB h_in1 ha1 dL_law_245 ?_
  obtain ⟨S_246, r_246, h_246, hf⟩ := bd_some hf
  refine r_bi hw (r_runV (rest := [.int r_236]) C hw (m_X12_end l D cA ad base fu h_246) mvX12_end gw7_170 ⟨rfl, rfl, Nat.le_of_ble_eq_true rfl, Nat.le_of_ble_eq_true rfl⟩ dq_63 ln_63 vc_12 rfl hl.1 rfl (Nat.le_of_ble_eq_true rfl) dL_law_246 hc1 hs1) (fun H locs hw => ?_)
  refine lv_icmp_eq (tgt := 1554) hx hb dL_law_249 (by decide) (fun c_249 => ?_) (fun c_249 => ?_)
  · have hf := if_t hf c_249
    refine W.widen (k := c0 + 1) (n := s0 + 6) (by omega) (by omega) ?_
    exact kk _ _ _ (by cases hf; exact hw) (lv_sub hl [0, 1, 2, 3, 4] rfl)
  · have hf := if_f hf c_249
    refine lv_iconst (v := (0 : Int32)) hx hb dL_law_252 (by decide) ?_
    exact absurd hf no01
noncomputable def fc_2 (fu : Nat) (a1 a2 a3 a4 a5 : Int32) (S : St) : Option (St × Int32) :=
  bd (fX11_turn fu a1 a2 S) fun S_267 r_267 =>
  bd (fX12_turn fu a1 a2 S_267) fun S_283 r_283 =>
  if r_267 = r_283 then
    some (S_283, (1 : Int32))
  else
    some (S_283, (0 : Int32))
set_option maxHeartbeats 4000000 in
set_option maxRecDepth 100000 in
theorem lc_2 {p : Program} {l : Launch} {e : Env} {s : State} {m : MethodId} {below : List Frame} {meth : Method} {c : Code} {Q : State → Prop} {D : va_G} {cA : FieldType → ClassId} {ad : Nat → Nat} {base b L0 : Nat} {xs : Nat → Int32} (hlt : l.stackTraces = false) (C : CX D cA base RL cL_law 7 p s m #[Value.ref b] c) (hX : va_X b L0 xs s s.heap) (hbl : b < s.heap.size) (hbB : ¬ aB base b) {x4 a1 a2 a3 a4 a5 : Int32} (h_in1 : vp_in (x4 + 1) L0) (h_in2 : vp_in (x4 + 2) L0) (h_in3 : vp_in (x4 + 3) L0) (h_in4 : vp_in (x4 + 4) L0) (h_in5 : vp_in (x4 + 5) L0) (ha1 : xs (x4 + 1).toNatClampNeg = a1) (ha2 : xs (x4 + 2).toNatClampNeg = a2) (ha3 : xs (x4 + 3).toNatClampNeg = a3) (ha4 : xs (x4 + 4).toNatClampNeg = a4) (ha5 : xs (x4 + 5).toNatClampNeg = a5) {c0 s0 : Nat} (hc0 : c0 + 1 ≤ room_1.cells) (hs0 : s0 + 6 ≤ room_1.slots) {fu : Nat} {S S' : St} (hf : fc_2 fu a1 a2 a3 a4 a5 S = some (S', (1 : Int32)))
    (kk : ∀ (H : Heap) (locs : List Loc) (ls : Array Slot), WS D cA ad base s S' H locs → lv_has ls 7 [(0, .ref b), (1, .ref (ad 0)), (2, .ref (ad 63)), (3, .ref (ad 106)), (4, .int x4)] → W p l e room_1 s m #[Value.ref b] below meth c H locs (c0 + 1) (s0 + 6) Q (F0 m 1554 ls []))
    {H : Heap} {locs : List Loc} {ls : Array Slot} (hw : WS D cA ad base s S H locs) (hl : lv_has ls 7 [(0, .ref b), (1, .ref (ad 0)), (2, .ref (ad 63)), (3, .ref (ad 106)), (4, .int x4)]) : W p l e room_1 s m #[Value.ref b] below meth c H locs c0 s0 Q (F0 m 254 ls []) := by
  have hx := C.1
  have hb := C.2.1
  have hc1 : c0 ≤ room_1.cells := by omega
  have hs1 : s0 ≤ room_1.slots := by omega
  refine lv_aload_n hx hb dL_law_254 rfl (lv_at hl 1 rfl) ?_
  refine lv_aload_n hx hb dL_law_255 rfl (lv_at hl 0 rfl) ?_
  refine lv_iload hx hb dL_law_256 (lv_at hl 4 rfl) ?_
  refine lv_iconst (v := (1 : Int32)) hx hb dL_law_258 (by decide) ?_
  refine lv_iadd hx hb dL_law_259 ?_
  refine r_sld C hw hX hbl hbB h_in1 ha1 dL_law_260 ?_
  refine lv_aload_n hx hb dL_law_261 rfl (lv_at hl 0 rfl) ?_
  refine lv_iload hx hb dL_law_262 (lv_at hl 4 rfl) ?_
  refine lv_iconst (v := (2 : Int32)) hx hb dL_law_264 (by decide) ?_
  refine lv_iadd hx hb dL_law_265 ?_
  refine r_sld C hw hX hbl hbB h_in2 ha2 dL_law_266 ?_
  obtain ⟨S_267, r_267, h_267, hf⟩ := bd_some hf
  refine r_bi hw (r_runV (rest := []) C hw (m_X11_turn l D cA ad base fu h_267) mvX11_turn gw2_168 ⟨rfl, rfl, Nat.le_of_ble_eq_true rfl, Nat.le_of_ble_eq_true rfl⟩ dq_0 ln_0 vc_11 rfl hl.1 rfl (Nat.le_of_ble_eq_true rfl) dL_law_267 hc1 hs1) (fun H locs hw => ?_)
  refine lv_aload_n hx hb dL_law_270 rfl (lv_at hl 2 rfl) ?_
  refine lv_aload_n hx hb dL_law_271 rfl (lv_at hl 0 rfl) ?_
  refine lv_iload hx hb dL_law_272 (lv_at hl 4 rfl) ?_
  refine lv_iconst (v := (1 : Int32)) hx hb dL_law_274 (by decide) ?_
  refine lv_iadd hx hb dL_law_275 ?_
  refine r_sld C hw hX hbl hbB h_in1 ha1 dL_law_276 ?_
  refine lv_aload_n hx hb dL_law_277 rfl (lv_at hl 0 rfl) ?_
  refine lv_iload hx hb dL_law_278 (lv_at hl 4 rfl) ?_
  refine lv_iconst (v := (2 : Int32)) hx hb dL_law_280 (by decide) ?_
  refine lv_iadd hx hb dL_law_281 ?_
  refine r_sld C hw hX hbl hbB h_in2 ha2 dL_law_282 ?_
  obtain ⟨S_283, r_283, h_283, hf⟩ := bd_some hf
  refine r_bi hw (r_runV (rest := [.int r_267]) C hw (m_X12_turn l D cA ad base fu h_283) mvX12_turn gw7_174 ⟨rfl, rfl, Nat.le_of_ble_eq_true rfl, Nat.le_of_ble_eq_true rfl⟩ dq_63 ln_63 vc_12 rfl hl.1 rfl (Nat.le_of_ble_eq_true rfl) dL_law_283 hc1 hs1) (fun H locs hw => ?_)
  refine lv_icmp_eq (tgt := 1554) hx hb dL_law_286 (by decide) (fun c_286 => ?_) (fun c_286 => ?_)
  · have hf := if_t hf c_286
    refine W.widen (k := c0 + 1) (n := s0 + 6) (by omega) (by omega) ?_
    exact kk _ _ _ (by cases hf; exact hw) (lv_sub hl [0, 1, 2, 3, 4] rfl)
  · have hf := if_f hf c_286
    refine lv_iconst (v := (0 : Int32)) hx hb dL_law_289 (by decide) ?_
    exact absurd hf no01
noncomputable def fc_3_332 (fu : Nat) (a1 a2 a3 a4 a5 : Int32) (S : St) : Option (St × Int32) :=
  some (S, (1 : Int32))
noncomputable def fc_3 (fu : Nat) (a1 a2 a3 a4 a5 : Int32) (S : St) : Option (St × Int32) :=
  bd (fL_name fu S) fun S_293 r_293 =>
  bd (fX12_name fu S_293) fun S_299 r_299 =>
  bd (fX12_thrown fu S_299) fun S_305 r_305 =>
  if r_305 = r_293 then
    if r_293 = 0 then
      gd (ck (0 : Int32) 1) <|
      if (lg_cmp (S_305.2 106 ((0 : Int32)).toNatClampNeg) (r_299).toInt64) = 0 then
        fc_3_332 fu a1 a2 a3 a4 a5 S_305
      else
        some (S_305, (0 : Int32))
    else
      fc_3_332 fu a1 a2 a3 a4 a5 S_305
  else
    some (S_305, (0 : Int32))
set_option maxHeartbeats 4000000 in
set_option maxRecDepth 100000 in
theorem lc_3 {p : Program} {l : Launch} {e : Env} {s : State} {m : MethodId} {below : List Frame} {meth : Method} {c : Code} {Q : State → Prop} {D : va_G} {cA : FieldType → ClassId} {ad : Nat → Nat} {base b L0 : Nat} {xs : Nat → Int32} (hlt : l.stackTraces = false) (C : CX D cA base RL cL_law 7 p s m #[Value.ref b] c) (hX : va_X b L0 xs s s.heap) (hbl : b < s.heap.size) (hbB : ¬ aB base b) {x4 a1 a2 a3 a4 a5 : Int32} (h_in1 : vp_in (x4 + 1) L0) (h_in2 : vp_in (x4 + 2) L0) (h_in3 : vp_in (x4 + 3) L0) (h_in4 : vp_in (x4 + 4) L0) (h_in5 : vp_in (x4 + 5) L0) (ha1 : xs (x4 + 1).toNatClampNeg = a1) (ha2 : xs (x4 + 2).toNatClampNeg = a2) (ha3 : xs (x4 + 3).toNatClampNeg = a3) (ha4 : xs (x4 + 4).toNatClampNeg = a4) (ha5 : xs (x4 + 5).toNatClampNeg = a5) {c0 s0 : Nat} (hc0 : c0 + 1 ≤ room_1.cells) (hs0 : s0 + 6 ≤ room_1.slots) {fu : Nat} {S S' : St} (hf : fc_3 fu a1 a2 a3 a4 a5 S = some (S', (1 : Int32)))
    (kk : ∀ (H : Heap) (locs : List Loc) (ls : Array Slot), WS D cA ad base s S' H locs → lv_has ls 7 [(0, .ref b), (1, .ref (ad 0)), (2, .ref (ad 63)), (3, .ref (ad 106)), (4, .int x4)] → W p l e room_1 s m #[Value.ref b] below meth c H locs (c0 + 1) (s0 + 6) Q (F0 m 1554 ls []))
    {H : Heap} {locs : List Loc} {ls : Array Slot} (hw : WS D cA ad base s S H locs) (hl : lv_has ls 7 [(0, .ref b), (1, .ref (ad 0)), (2, .ref (ad 63)), (3, .ref (ad 106)), (4, .int x4)]) : W p l e room_1 s m #[Value.ref b] below meth c H locs c0 s0 Q (F0 m 291 ls []) := by
  have hx := C.1
  have hb := C.2.1
  have hc1 : c0 ≤ room_1.cells := by omega
  have hs1 : s0 ≤ room_1.slots := by omega
  have J_332 : ∀ (S : St) (H : Heap) (locs : List Loc) (ls : Array Slot), fc_3_332 fu a1 a2 a3 a4 a5 S = some (S', (1 : Int32)) → lv_has ls 7 [(0, .ref b), (1, .ref (ad 0)), (2, .ref (ad 63)), (3, .ref (ad 106)), (4, .int x4)] → WS D cA ad base s S H locs → W p l e room_1 s m #[Value.ref b] below meth c H locs (c0 + 1) (s0 + 6) Q (F0 m 332 ls []) := by
    intro  S H locs ls hf hl hw
    refine lv_goto (tgt := 1554) hx hb dL_law_332 (by decide) ?_
    exact kk _ _ _ (by cases hf; exact hw) (lv_sub hl [0, 1, 2, 3, 4] rfl)
  refine lv_aload_n hx hb dL_law_291 rfl (lv_at hl 1 rfl) ?_
  refine lv_aload_n hx hb dL_law_292 rfl (lv_at hl 3 rfl) ?_
  obtain ⟨S_293, r_293, h_293, hf⟩ := bd_some hf
  refine r_biW hw (r_runSW (rest := []) C hw (m_L_name l hlt D cA ad base fu h_293) msL_name gw3_103 ⟨rfl, rfl, Nat.le_of_ble_eq_true rfl, Nat.le_of_ble_eq_true rfl⟩ rfl hl.1 rfl (Nat.le_of_ble_eq_true rfl) dL_law_293 hc0 hs0) (fun H locs hw => ?_)
  refine lv_istore (lv' := [(5, .int r_293), (0, .ref b), (1, .ref (ad 0)), (2, .ref (ad 63)), (3, .ref (ad 106)), (4, .int x4)]) hx hb dL_law_296 hl (by decide) rfl (fun ls hl => ?_)
  refine lv_aload_n hx hb dL_law_298 rfl (lv_at hl 3 rfl) ?_
  obtain ⟨S_299, r_299, h_299, hf⟩ := bd_some hf
  refine r_bi hw (r_runV (rest := []) C hw (m_X12_name l D cA ad base fu h_299) mvX12_name gw7_178 ⟨rfl, rfl, Nat.le_of_ble_eq_true rfl, Nat.le_of_ble_eq_true rfl⟩ dq_63 ln_63 vc_12 rfl hl.1 rfl (Nat.le_of_ble_eq_true rfl) dL_law_299 hc0 hs0) (fun H locs hw => ?_)
  refine lv_istore (lv' := [(6, .int r_299), (5, .int r_293), (0, .ref b), (1, .ref (ad 0)), (2, .ref (ad 63)), (3, .ref (ad 106)), (4, .int x4)]) hx hb dL_law_302 hl (by decide) rfl (fun ls hl => ?_)
  refine lv_aload_n hx hb dL_law_304 rfl (lv_at hl 4 rfl) ?_
  obtain ⟨S_305, r_305, h_305, hf⟩ := bd_some hf
  refine r_bi hw (r_runV (rest := []) C hw (m_X12_thrown l D cA ad base fu h_305) mvX12_thrown gw7_162 ⟨rfl, rfl, Nat.le_of_ble_eq_true rfl, Nat.le_of_ble_eq_true rfl⟩ dq_63 ln_63 vc_12 rfl hl.1 rfl (Nat.le_of_ble_eq_true rfl) dL_law_305 hc0 hs0) (fun H locs hw => ?_)
  refine lv_iload hx hb dL_law_308 (lv_at hl 1 rfl) ?_
  refine lv_icmp_eq (tgt := 315) hx hb dL_law_310 (by decide) (fun c_310 => ?_) (fun c_310 => ?_)
  · have hf := if_t hf c_310
    refine lv_iload hx hb dL_law_315 (lv_at hl 1 rfl) ?_
    refine lv_if_ne (tgt := 332) hx hb dL_law_317 (by decide) (fun c_317 => ?_) (fun c_317 => ?_)
    · have hf := if_f hf c_317
      exact J_332 _ _ _ _ hf (lv_sub hl [2, 3, 4, 5, 6] rfl) hw
    · have hf := if_t hf c_317
      refine lv_aload_n hx hb dL_law_320 rfl (lv_at hl 5 rfl) ?_
      refine lv_iconst (v := (0 : Int32)) hx hb dL_law_321 (by decide) ?_
      obtain ⟨z_322, hf⟩ := gd_some hf
      refine r_lald C hw (x := 106) dq_106 ln_106 z_322 dL_law_322 ?_
      refine lv_iload hx hb dL_law_323 (lv_at hl 0 rfl) ?_
      refine lv_i2l hx hb dL_law_325 rfl ?_
      refine W.lcmp hx hb dL_law_326 ?_
      refine lv_if_eq (tgt := 332) hx hb dL_law_327 (by decide) (fun c_327 => ?_) (fun c_327 => ?_)
      · have hf := if_t hf c_327
        exact J_332 _ _ _ _ hf (lv_sub hl [2, 3, 4, 5, 6] rfl) hw
      · have hf := if_f hf c_327
        refine lv_iconst (v := (0 : Int32)) hx hb dL_law_330 (by decide) ?_
        exact absurd hf no01
  · have hf := if_f hf c_310
    refine lv_iconst (v := (0 : Int32)) hx hb dL_law_313 (by decide) ?_
    exact absurd hf no01
noncomputable def fc_4_400 (fu : Nat) (a1 a2 a3 a4 a5 : Int32) (S : St) : Option (St × Int32) :=
  some (S, (1 : Int32))
noncomputable def fc_4 (fu : Nat) (a1 a2 a3 a4 a5 : Int32) (S : St) : Option (St × Int32) :=
  bd (fL_look fu a1 a2 S) fun S_349 r_349 =>
  bd (fX12_look fu a1 a2 S_349) fun S_367 r_367 =>
  bd (fX12_thrown fu S_367) fun S_373 r_373 =>
  if r_373 = r_349 then
    if r_349 = 0 then
      gd (ck (0 : Int32) 1) <|
      if (lg_cmp (S_373.2 106 ((0 : Int32)).toNatClampNeg) (r_367).toInt64) = 0 then
        fc_4_400 fu a1 a2 a3 a4 a5 S_373
      else
        some (S_373, (0 : Int32))
    else
      fc_4_400 fu a1 a2 a3 a4 a5 S_373
  else
    some (S_373, (0 : Int32))
set_option maxHeartbeats 4000000 in
set_option maxRecDepth 100000 in
theorem lc_4 {p : Program} {l : Launch} {e : Env} {s : State} {m : MethodId} {below : List Frame} {meth : Method} {c : Code} {Q : State → Prop} {D : va_G} {cA : FieldType → ClassId} {ad : Nat → Nat} {base b L0 : Nat} {xs : Nat → Int32} (hlt : l.stackTraces = false) (C : CX D cA base RL cL_law 7 p s m #[Value.ref b] c) (hX : va_X b L0 xs s s.heap) (hbl : b < s.heap.size) (hbB : ¬ aB base b) {x4 a1 a2 a3 a4 a5 : Int32} (h_in1 : vp_in (x4 + 1) L0) (h_in2 : vp_in (x4 + 2) L0) (h_in3 : vp_in (x4 + 3) L0) (h_in4 : vp_in (x4 + 4) L0) (h_in5 : vp_in (x4 + 5) L0) (ha1 : xs (x4 + 1).toNatClampNeg = a1) (ha2 : xs (x4 + 2).toNatClampNeg = a2) (ha3 : xs (x4 + 3).toNatClampNeg = a3) (ha4 : xs (x4 + 4).toNatClampNeg = a4) (ha5 : xs (x4 + 5).toNatClampNeg = a5) {c0 s0 : Nat} (hc0 : c0 + 1 ≤ room_1.cells) (hs0 : s0 + 6 ≤ room_1.slots) {fu : Nat} {S S' : St} (hf : fc_4 fu a1 a2 a3 a4 a5 S = some (S', (1 : Int32)))
    (kk : ∀ (H : Heap) (locs : List Loc) (ls : Array Slot), WS D cA ad base s S' H locs → lv_has ls 7 [(0, .ref b), (1, .ref (ad 0)), (2, .ref (ad 63)), (3, .ref (ad 106)), (4, .int x4)] → W p l e room_1 s m #[Value.ref b] below meth c H locs (c0 + 1) (s0 + 6) Q (F0 m 1554 ls []))
    {H : Heap} {locs : List Loc} {ls : Array Slot} (hw : WS D cA ad base s S H locs) (hl : lv_has ls 7 [(0, .ref b), (1, .ref (ad 0)), (2, .ref (ad 63)), (3, .ref (ad 106)), (4, .int x4)]) : W p l e room_1 s m #[Value.ref b] below meth c H locs c0 s0 Q (F0 m 335 ls []) := by
  have hx := C.1
  have hb := C.2.1
  have hc1 : c0 ≤ room_1.cells := by omega
  have hs1 : s0 ≤ room_1.slots := by omega
  have J_400 : ∀ (S : St) (H : Heap) (locs : List Loc) (ls : Array Slot), fc_4_400 fu a1 a2 a3 a4 a5 S = some (S', (1 : Int32)) → lv_has ls 7 [(0, .ref b), (1, .ref (ad 0)), (2, .ref (ad 63)), (3, .ref (ad 106)), (4, .int x4)] → WS D cA ad base s S H locs → W p l e room_1 s m #[Value.ref b] below meth c H locs (c0 + 1) (s0 + 6) Q (F0 m 400 ls []) := by
    intro  S H locs ls hf hl hw
    refine lv_goto (tgt := 1554) hx hb dL_law_400 (by decide) ?_
    exact kk _ _ _ (by cases hf; exact hw) (lv_sub hl [0, 1, 2, 3, 4] rfl)
  refine lv_aload_n hx hb dL_law_335 rfl (lv_at hl 1 rfl) ?_
  refine lv_aload_n hx hb dL_law_336 rfl (lv_at hl 0 rfl) ?_
  refine lv_iload hx hb dL_law_337 (lv_at hl 4 rfl) ?_
  refine lv_iconst (v := (1 : Int32)) hx hb dL_law_339 (by decide) ?_
  refine lv_iadd hx hb dL_law_340 ?_
  refine r_sld C hw hX hbl hbB h_in1 ha1 dL_law_341 ?_
  refine lv_aload_n hx hb dL_law_342 rfl (lv_at hl 0 rfl) ?_
  refine lv_iload hx hb dL_law_343 (lv_at hl 4 rfl) ?_
  refine lv_iconst (v := (2 : Int32)) hx hb dL_law_345 (by decide) ?_
  refine lv_iadd hx hb dL_law_346 ?_
  refine r_sld C hw hX hbl hbB h_in2 ha2 dL_law_347 ?_
  refine lv_aload_n hx hb dL_law_348 rfl (lv_at hl 3 rfl) ?_
  obtain ⟨S_349, r_349, h_349, hf⟩ := bd_some hf
  refine r_biW hw (r_runSW (rest := []) C hw (m_L_look l hlt D cA ad base fu h_349) msL_look gw3_212 ⟨rfl, rfl, Nat.le_of_ble_eq_true rfl, Nat.le_of_ble_eq_true rfl⟩ rfl hl.1 rfl (Nat.le_of_ble_eq_true rfl) dL_law_349 hc0 hs0) (fun H locs hw => ?_)
  refine lv_istore (lv' := [(5, .int r_349), (0, .ref b), (1, .ref (ad 0)), (2, .ref (ad 63)), (3, .ref (ad 106)), (4, .int x4)]) hx hb dL_law_352 hl (by decide) rfl (fun ls hl => ?_)
  refine lv_aload_n hx hb dL_law_354 rfl (lv_at hl 3 rfl) ?_
  refine lv_aload_n hx hb dL_law_355 rfl (lv_at hl 1 rfl) ?_
  refine lv_iload hx hb dL_law_356 (lv_at hl 5 rfl) ?_
  refine lv_iconst (v := (1 : Int32)) hx hb dL_law_358 (by decide) ?_
  refine lv_iadd hx hb dL_law_359 ?_
  refine r_sld C hw hX hbl hbB h_in1 ha1 dL_law_360 ?_
  refine lv_aload_n hx hb dL_law_361 rfl (lv_at hl 1 rfl) ?_
  refine lv_iload hx hb dL_law_362 (lv_at hl 5 rfl) ?_
  refine lv_iconst (v := (2 : Int32)) hx hb dL_law_364 (by decide) ?_
  refine lv_iadd hx hb dL_law_365 ?_
  refine r_sld C hw hX hbl hbB h_in2 ha2 dL_law_366 ?_
  obtain ⟨S_367, r_367, h_367, hf⟩ := bd_some hf
  refine r_bi hw (r_runV (rest := []) C hw (m_X12_look l D cA ad base fu h_367) mvX12_look gw7_213 ⟨rfl, rfl, Nat.le_of_ble_eq_true rfl, Nat.le_of_ble_eq_true rfl⟩ dq_63 ln_63 vc_12 rfl hl.1 rfl (Nat.le_of_ble_eq_true rfl) dL_law_367 hc0 hs0) (fun H locs hw => ?_)
  refine lv_istore (lv' := [(6, .int r_367), (5, .int r_349), (0, .ref b), (1, .ref (ad 0)), (2, .ref (ad 63)), (3, .ref (ad 106)), (4, .int x4)]) hx hb dL_law_370 hl (by decide) rfl (fun ls hl => ?_)
  refine lv_aload_n hx hb dL_law_372 rfl (lv_at hl 4 rfl) ?_
  obtain ⟨S_373, r_373, h_373, hf⟩ := bd_some hf
  refine r_bi hw (r_runV (rest := []) C hw (m_X12_thrown l D cA ad base fu h_373) mvX12_thrown gw7_162 ⟨rfl, rfl, Nat.le_of_ble_eq_true rfl, Nat.le_of_ble_eq_true rfl⟩ dq_63 ln_63 vc_12 rfl hl.1 rfl (Nat.le_of_ble_eq_true rfl) dL_law_373 hc0 hs0) (fun H locs hw => ?_)
  refine lv_iload hx hb dL_law_376 (lv_at hl 1 rfl) ?_
  refine lv_icmp_eq (tgt := 383) hx hb dL_law_378 (by decide) (fun c_378 => ?_) (fun c_378 => ?_)
  · have hf := if_t hf c_378
    refine lv_iload hx hb dL_law_383 (lv_at hl 1 rfl) ?_
    refine lv_if_ne (tgt := 400) hx hb dL_law_385 (by decide) (fun c_385 => ?_) (fun c_385 => ?_)
    · have hf := if_f hf c_385
      exact J_400 _ _ _ _ hf (lv_sub hl [2, 3, 4, 5, 6] rfl) hw
    · have hf := if_t hf c_385
      refine lv_aload_n hx hb dL_law_388 rfl (lv_at hl 5 rfl) ?_
      refine lv_iconst (v := (0 : Int32)) hx hb dL_law_389 (by decide) ?_
      obtain ⟨z_390, hf⟩ := gd_some hf
      refine r_lald C hw (x := 106) dq_106 ln_106 z_390 dL_law_390 ?_
      refine lv_iload hx hb dL_law_391 (lv_at hl 0 rfl) ?_
      refine lv_i2l hx hb dL_law_393 rfl ?_
      refine W.lcmp hx hb dL_law_394 ?_
      refine lv_if_eq (tgt := 400) hx hb dL_law_395 (by decide) (fun c_395 => ?_) (fun c_395 => ?_)
      · have hf := if_t hf c_395
        exact J_400 _ _ _ _ hf (lv_sub hl [2, 3, 4, 5, 6] rfl) hw
      · have hf := if_f hf c_395
        refine lv_iconst (v := (0 : Int32)) hx hb dL_law_398 (by decide) ?_
        exact absurd hf no01
  · have hf := if_f hf c_378
    refine lv_iconst (v := (0 : Int32)) hx hb dL_law_381 (by decide) ?_
    exact absurd hf no01
noncomputable def fc_5_468 (fu : Nat) (a1 a2 a3 a4 a5 : Int32) (S : St) : Option (St × Int32) :=
  some (S, (1 : Int32))
noncomputable def fc_5 (fu : Nat) (a1 a2 a3 a4 a5 : Int32) (S : St) : Option (St × Int32) :=
  bd (fL_text fu a1 a2 S) fun S_417 r_417 =>
  bd (fX12_text fu a1 a2 S_417) fun S_435 r_435 =>
  bd (fX12_thrown fu S_435) fun S_441 r_441 =>
  if r_441 = r_417 then
    if r_417 = 0 then
      gd (ck (0 : Int32) 1) <|
      if (lg_cmp (S_441.2 106 ((0 : Int32)).toNatClampNeg) (r_435).toInt64) = 0 then
        fc_5_468 fu a1 a2 a3 a4 a5 S_441
      else
        some (S_441, (0 : Int32))
    else
      fc_5_468 fu a1 a2 a3 a4 a5 S_441
  else
    some (S_441, (0 : Int32))
set_option maxHeartbeats 4000000 in
set_option maxRecDepth 100000 in
theorem lc_5 {p : Program} {l : Launch} {e : Env} {s : State} {m : MethodId} {below : List Frame} {meth : Method} {c : Code} {Q : State → Prop} {D : va_G} {cA : FieldType → ClassId} {ad : Nat → Nat} {base b L0 : Nat} {xs : Nat → Int32} (hlt : l.stackTraces = false) (C : CX D cA base RL cL_law 7 p s m #[Value.ref b] c) (hX : va_X b L0 xs s s.heap) (hbl : b < s.heap.size) (hbB : ¬ aB base b) {x4 a1 a2 a3 a4 a5 : Int32} (h_in1 : vp_in (x4 + 1) L0) (h_in2 : vp_in (x4 + 2) L0) (h_in3 : vp_in (x4 + 3) L0) (h_in4 : vp_in (x4 + 4) L0) (h_in5 : vp_in (x4 + 5) L0) (ha1 : xs (x4 + 1).toNatClampNeg = a1) (ha2 : xs (x4 + 2).toNatClampNeg = a2) (ha3 : xs (x4 + 3).toNatClampNeg = a3) (ha4 : xs (x4 + 4).toNatClampNeg = a4) (ha5 : xs (x4 + 5).toNatClampNeg = a5) {c0 s0 : Nat} (hc0 : c0 + 1 ≤ room_1.cells) (hs0 : s0 + 6 ≤ room_1.slots) {fu : Nat} {S S' : St} (hf : fc_5 fu a1 a2 a3 a4 a5 S = some (S', (1 : Int32)))
    (kk : ∀ (H : Heap) (locs : List Loc) (ls : Array Slot), WS D cA ad base s S' H locs → lv_has ls 7 [(0, .ref b), (1, .ref (ad 0)), (2, .ref (ad 63)), (3, .ref (ad 106)), (4, .int x4)] → W p l e room_1 s m #[Value.ref b] below meth c H locs (c0 + 1) (s0 + 6) Q (F0 m 1554 ls []))
    {H : Heap} {locs : List Loc} {ls : Array Slot} (hw : WS D cA ad base s S H locs) (hl : lv_has ls 7 [(0, .ref b), (1, .ref (ad 0)), (2, .ref (ad 63)), (3, .ref (ad 106)), (4, .int x4)]) : W p l e room_1 s m #[Value.ref b] below meth c H locs c0 s0 Q (F0 m 403 ls []) := by
  have hx := C.1
  have hb := C.2.1
  have hc1 : c0 ≤ room_1.cells := by omega
  have hs1 : s0 ≤ room_1.slots := by omega
  have J_468 : ∀ (S : St) (H : Heap) (locs : List Loc) (ls : Array Slot), fc_5_468 fu a1 a2 a3 a4 a5 S = some (S', (1 : Int32)) → lv_has ls 7 [(0, .ref b), (1, .ref (ad 0)), (2, .ref (ad 63)), (3, .ref (ad 106)), (4, .int x4)] → WS D cA ad base s S H locs → W p l e room_1 s m #[Value.ref b] below meth c H locs (c0 + 1) (s0 + 6) Q (F0 m 468 ls []) := by
    intro  S H locs ls hf hl hw
    refine lv_goto (tgt := 1554) hx hb dL_law_468 (by decide) ?_
    exact kk _ _ _ (by cases hf; exact hw) (lv_sub hl [0, 1, 2, 3, 4] rfl)
  refine lv_aload_n hx hb dL_law_403 rfl (lv_at hl 1 rfl) ?_
  refine lv_aload_n hx hb dL_law_404 rfl (lv_at hl 0 rfl) ?_
  refine lv_iload hx hb dL_law_405 (lv_at hl 4 rfl) ?_
  refine lv_iconst (v := (1 : Int32)) hx hb dL_law_407 (by decide) ?_
  refine lv_iadd hx hb dL_law_408 ?_
  refine r_sld C hw hX hbl hbB h_in1 ha1 dL_law_409 ?_
  refine lv_aload_n hx hb dL_law_410 rfl (lv_at hl 0 rfl) ?_
  refine lv_iload hx hb dL_law_411 (lv_at hl 4 rfl) ?_
  refine lv_iconst (v := (2 : Int32)) hx hb dL_law_413 (by decide) ?_
  refine lv_iadd hx hb dL_law_414 ?_
  refine r_sld C hw hX hbl hbB h_in2 ha2 dL_law_415 ?_
  refine lv_aload_n hx hb dL_law_416 rfl (lv_at hl 3 rfl) ?_
  obtain ⟨S_417, r_417, h_417, hf⟩ := bd_some hf
  refine r_biW hw (r_runSW (rest := []) C hw (m_L_text l hlt D cA ad base fu h_417) msL_text gw4_38 ⟨rfl, rfl, Nat.le_of_ble_eq_true rfl, Nat.le_of_ble_eq_true rfl⟩ rfl hl.1 rfl (Nat.le_of_ble_eq_true rfl) dL_law_417 hc0 hs0) (fun H locs hw => ?_)
  refine lv_istore (lv' := [(5, .int r_417), (0, .ref b), (1, .ref (ad 0)), (2, .ref (ad 63)), (3, .ref (ad 106)), (4, .int x4)]) hx hb dL_law_420 hl (by decide) rfl (fun ls hl => ?_)
  refine lv_aload_n hx hb dL_law_422 rfl (lv_at hl 3 rfl) ?_
  refine lv_aload_n hx hb dL_law_423 rfl (lv_at hl 1 rfl) ?_
  refine lv_iload hx hb dL_law_424 (lv_at hl 5 rfl) ?_
  refine lv_iconst (v := (1 : Int32)) hx hb dL_law_426 (by decide) ?_
  refine lv_iadd hx hb dL_law_427 ?_
  refine r_sld C hw hX hbl hbB h_in1 ha1 dL_law_428 ?_
  refine lv_aload_n hx hb dL_law_429 rfl (lv_at hl 1 rfl) ?_
  refine lv_iload hx hb dL_law_430 (lv_at hl 5 rfl) ?_
  refine lv_iconst (v := (2 : Int32)) hx hb dL_law_432 (by decide) ?_
  refine lv_iadd hx hb dL_law_433 ?_
  refine r_sld C hw hX hbl hbB h_in2 ha2 dL_law_434 ?_
  obtain ⟨S_435, r_435, h_435, hf⟩ := bd_some hf
  refine r_bi hw (r_runV (rest := []) C hw (m_X12_text l D cA ad base fu h_435) mvX12_text gw7_225 ⟨rfl, rfl, Nat.le_of_ble_eq_true rfl, Nat.le_of_ble_eq_true rfl⟩ dq_63 ln_63 vc_12 rfl hl.1 rfl (Nat.le_of_ble_eq_true rfl) dL_law_435 hc0 hs0) (fun H locs hw => ?_)
  refine lv_istore (lv' := [(6, .int r_435), (5, .int r_417), (0, .ref b), (1, .ref (ad 0)), (2, .ref (ad 63)), (3, .ref (ad 106)), (4, .int x4)]) hx hb dL_law_438 hl (by decide) rfl (fun ls hl => ?_)
  refine lv_aload_n hx hb dL_law_440 rfl (lv_at hl 4 rfl) ?_
  obtain ⟨S_441, r_441, h_441, hf⟩ := bd_some hf
  refine r_bi hw (r_runV (rest := []) C hw (m_X12_thrown l D cA ad base fu h_441) mvX12_thrown gw7_162 ⟨rfl, rfl, Nat.le_of_ble_eq_true rfl, Nat.le_of_ble_eq_true rfl⟩ dq_63 ln_63 vc_12 rfl hl.1 rfl (Nat.le_of_ble_eq_true rfl) dL_law_441 hc0 hs0) (fun H locs hw => ?_)
  refine lv_iload hx hb dL_law_444 (lv_at hl 1 rfl) ?_
  refine lv_icmp_eq (tgt := 451) hx hb dL_law_446 (by decide) (fun c_446 => ?_) (fun c_446 => ?_)
  · have hf := if_t hf c_446
    refine lv_iload hx hb dL_law_451 (lv_at hl 1 rfl) ?_
    refine lv_if_ne (tgt := 468) hx hb dL_law_453 (by decide) (fun c_453 => ?_) (fun c_453 => ?_)
    · have hf := if_f hf c_453
      exact J_468 _ _ _ _ hf (lv_sub hl [2, 3, 4, 5, 6] rfl) hw
    · have hf := if_t hf c_453
      refine lv_aload_n hx hb dL_law_456 rfl (lv_at hl 5 rfl) ?_
      refine lv_iconst (v := (0 : Int32)) hx hb dL_law_457 (by decide) ?_
      obtain ⟨z_458, hf⟩ := gd_some hf
      refine r_lald C hw (x := 106) dq_106 ln_106 z_458 dL_law_458 ?_
      refine lv_iload hx hb dL_law_459 (lv_at hl 0 rfl) ?_
      refine lv_i2l hx hb dL_law_461 rfl ?_
      refine W.lcmp hx hb dL_law_462 ?_
      refine lv_if_eq (tgt := 468) hx hb dL_law_463 (by decide) (fun c_463 => ?_) (fun c_463 => ?_)
      · have hf := if_t hf c_463
        exact J_468 _ _ _ _ hf (lv_sub hl [2, 3, 4, 5, 6] rfl) hw
      · have hf := if_f hf c_463
        refine lv_iconst (v := (0 : Int32)) hx hb dL_law_466 (by decide) ?_
        exact absurd hf no01
  · have hf := if_f hf c_446
    refine lv_iconst (v := (0 : Int32)) hx hb dL_law_449 (by decide) ?_
    exact absurd hf no01
noncomputable def fc_6_536 (fu : Nat) (a1 a2 a3 a4 a5 : Int32) (S : St) : Option (St × Int32) :=
  some (S, (1 : Int32))
noncomputable def fc_6 (fu : Nat) (a1 a2 a3 a4 a5 : Int32) (S : St) : Option (St × Int32) :=
  bd (fL_zone fu a1 a2 S) fun S_485 r_485 =>
  bd (fX12_zone fu a1 a2 S_485) fun S_503 r_503 =>
  bd (fX12_thrown fu S_503) fun S_509 r_509 =>
  if r_509 = r_485 then
    if r_485 = 0 then
      gd (ck (0 : Int32) 1) <|
      if (lg_cmp (S_509.2 106 ((0 : Int32)).toNatClampNeg) (r_503).toInt64) = 0 then
        fc_6_536 fu a1 a2 a3 a4 a5 S_509
      else
        some (S_509, (0 : Int32))
    else
      fc_6_536 fu a1 a2 a3 a4 a5 S_509
  else
    some (S_509, (0 : Int32))
set_option maxHeartbeats 4000000 in
set_option maxRecDepth 100000 in
theorem lc_6 {p : Program} {l : Launch} {e : Env} {s : State} {m : MethodId} {below : List Frame} {meth : Method} {c : Code} {Q : State → Prop} {D : va_G} {cA : FieldType → ClassId} {ad : Nat → Nat} {base b L0 : Nat} {xs : Nat → Int32} (hlt : l.stackTraces = false) (C : CX D cA base RL cL_law 7 p s m #[Value.ref b] c) (hX : va_X b L0 xs s s.heap) (hbl : b < s.heap.size) (hbB : ¬ aB base b) {x4 a1 a2 a3 a4 a5 : Int32} (h_in1 : vp_in (x4 + 1) L0) (h_in2 : vp_in (x4 + 2) L0) (h_in3 : vp_in (x4 + 3) L0) (h_in4 : vp_in (x4 + 4) L0) (h_in5 : vp_in (x4 + 5) L0) (ha1 : xs (x4 + 1).toNatClampNeg = a1) (ha2 : xs (x4 + 2).toNatClampNeg = a2) (ha3 : xs (x4 + 3).toNatClampNeg = a3) (ha4 : xs (x4 + 4).toNatClampNeg = a4) (ha5 : xs (x4 + 5).toNatClampNeg = a5) {c0 s0 : Nat} (hc0 : c0 + 1 ≤ room_1.cells) (hs0 : s0 + 6 ≤ room_1.slots) {fu : Nat} {S S' : St} (hf : fc_6 fu a1 a2 a3 a4 a5 S = some (S', (1 : Int32)))
    (kk : ∀ (H : Heap) (locs : List Loc) (ls : Array Slot), WS D cA ad base s S' H locs → lv_has ls 7 [(0, .ref b), (1, .ref (ad 0)), (2, .ref (ad 63)), (3, .ref (ad 106)), (4, .int x4)] → W p l e room_1 s m #[Value.ref b] below meth c H locs (c0 + 1) (s0 + 6) Q (F0 m 1554 ls []))
    {H : Heap} {locs : List Loc} {ls : Array Slot} (hw : WS D cA ad base s S H locs) (hl : lv_has ls 7 [(0, .ref b), (1, .ref (ad 0)), (2, .ref (ad 63)), (3, .ref (ad 106)), (4, .int x4)]) : W p l e room_1 s m #[Value.ref b] below meth c H locs c0 s0 Q (F0 m 471 ls []) := by
  have hx := C.1
  have hb := C.2.1
  have hc1 : c0 ≤ room_1.cells := by omega
  have hs1 : s0 ≤ room_1.slots := by omega
  have J_536 : ∀ (S : St) (H : Heap) (locs : List Loc) (ls : Array Slot), fc_6_536 fu a1 a2 a3 a4 a5 S = some (S', (1 : Int32)) → lv_has ls 7 [(0, .ref b), (1, .ref (ad 0)), (2, .ref (ad 63)), (3, .ref (ad 106)), (4, .int x4)] → WS D cA ad base s S H locs → W p l e room_1 s m #[Value.ref b] below meth c H locs (c0 + 1) (s0 + 6) Q (F0 m 536 ls []) := by
    intro  S H locs ls hf hl hw
    refine lv_goto (tgt := 1554) hx hb dL_law_536 (by decide) ?_
    exact kk _ _ _ (by cases hf; exact hw) (lv_sub hl [0, 1, 2, 3, 4] rfl)
  refine lv_aload_n hx hb dL_law_471 rfl (lv_at hl 1 rfl) ?_
  refine lv_aload_n hx hb dL_law_472 rfl (lv_at hl 0 rfl) ?_
  refine lv_iload hx hb dL_law_473 (lv_at hl 4 rfl) ?_
  refine lv_iconst (v := (1 : Int32)) hx hb dL_law_475 (by decide) ?_
  refine lv_iadd hx hb dL_law_476 ?_
  refine r_sld C hw hX hbl hbB h_in1 ha1 dL_law_477 ?_
  refine lv_aload_n hx hb dL_law_478 rfl (lv_at hl 0 rfl) ?_
  refine lv_iload hx hb dL_law_479 (lv_at hl 4 rfl) ?_
  refine lv_iconst (v := (2 : Int32)) hx hb dL_law_481 (by decide) ?_
  refine lv_iadd hx hb dL_law_482 ?_
  refine r_sld C hw hX hbl hbB h_in2 ha2 dL_law_483 ?_
  refine lv_aload_n hx hb dL_law_484 rfl (lv_at hl 3 rfl) ?_
  obtain ⟨S_485, r_485, h_485, hf⟩ := bd_some hf
  refine r_biW hw (r_runSW (rest := []) C hw (m_L_zone l hlt D cA ad base fu h_485) msL_zone gw4_54 ⟨rfl, rfl, Nat.le_of_ble_eq_true rfl, Nat.le_of_ble_eq_true rfl⟩ rfl hl.1 rfl (Nat.le_of_ble_eq_true rfl) dL_law_485 hc0 hs0) (fun H locs hw => ?_)
  refine lv_istore (lv' := [(5, .int r_485), (0, .ref b), (1, .ref (ad 0)), (2, .ref (ad 63)), (3, .ref (ad 106)), (4, .int x4)]) hx hb dL_law_488 hl (by decide) rfl (fun ls hl => ?_)
  refine lv_aload_n hx hb dL_law_490 rfl (lv_at hl 3 rfl) ?_
  refine lv_aload_n hx hb dL_law_491 rfl (lv_at hl 1 rfl) ?_
  refine lv_iload hx hb dL_law_492 (lv_at hl 5 rfl) ?_
  refine lv_iconst (v := (1 : Int32)) hx hb dL_law_494 (by decide) ?_
  refine lv_iadd hx hb dL_law_495 ?_
  refine r_sld C hw hX hbl hbB h_in1 ha1 dL_law_496 ?_
  refine lv_aload_n hx hb dL_law_497 rfl (lv_at hl 1 rfl) ?_
  refine lv_iload hx hb dL_law_498 (lv_at hl 5 rfl) ?_
  refine lv_iconst (v := (2 : Int32)) hx hb dL_law_500 (by decide) ?_
  refine lv_iadd hx hb dL_law_501 ?_
  refine r_sld C hw hX hbl hbB h_in2 ha2 dL_law_502 ?_
  obtain ⟨S_503, r_503, h_503, hf⟩ := bd_some hf
  refine r_bi hw (r_runV (rest := []) C hw (m_X12_zone l D cA ad base fu h_503) mvX12_zone gw7_229 ⟨rfl, rfl, Nat.le_of_ble_eq_true rfl, Nat.le_of_ble_eq_true rfl⟩ dq_63 ln_63 vc_12 rfl hl.1 rfl (Nat.le_of_ble_eq_true rfl) dL_law_503 hc0 hs0) (fun H locs hw => ?_)
  refine lv_istore (lv' := [(6, .int r_503), (5, .int r_485), (0, .ref b), (1, .ref (ad 0)), (2, .ref (ad 63)), (3, .ref (ad 106)), (4, .int x4)]) hx hb dL_law_506 hl (by decide) rfl (fun ls hl => ?_)
  refine lv_aload_n hx hb dL_law_508 rfl (lv_at hl 4 rfl) ?_
  obtain ⟨S_509, r_509, h_509, hf⟩ := bd_some hf
  refine r_bi hw (r_runV (rest := []) C hw (m_X12_thrown l D cA ad base fu h_509) mvX12_thrown gw7_162 ⟨rfl, rfl, Nat.le_of_ble_eq_true rfl, Nat.le_of_ble_eq_true rfl⟩ dq_63 ln_63 vc_12 rfl hl.1 rfl (Nat.le_of_ble_eq_true rfl) dL_law_509 hc0 hs0) (fun H locs hw => ?_)
  refine lv_iload hx hb dL_law_512 (lv_at hl 1 rfl) ?_
  refine lv_icmp_eq (tgt := 519) hx hb dL_law_514 (by decide) (fun c_514 => ?_) (fun c_514 => ?_)
  · have hf := if_t hf c_514
    refine lv_iload hx hb dL_law_519 (lv_at hl 1 rfl) ?_
    refine lv_if_ne (tgt := 536) hx hb dL_law_521 (by decide) (fun c_521 => ?_) (fun c_521 => ?_)
    · have hf := if_f hf c_521
      exact J_536 _ _ _ _ hf (lv_sub hl [2, 3, 4, 5, 6] rfl) hw
    · have hf := if_t hf c_521
      refine lv_aload_n hx hb dL_law_524 rfl (lv_at hl 5 rfl) ?_
      refine lv_iconst (v := (0 : Int32)) hx hb dL_law_525 (by decide) ?_
      obtain ⟨z_526, hf⟩ := gd_some hf
      refine r_lald C hw (x := 106) dq_106 ln_106 z_526 dL_law_526 ?_
      refine lv_iload hx hb dL_law_527 (lv_at hl 0 rfl) ?_
      refine lv_i2l hx hb dL_law_529 rfl ?_
      refine W.lcmp hx hb dL_law_530 ?_
      refine lv_if_eq (tgt := 536) hx hb dL_law_531 (by decide) (fun c_531 => ?_) (fun c_531 => ?_)
      · have hf := if_t hf c_531
        exact J_536 _ _ _ _ hf (lv_sub hl [2, 3, 4, 5, 6] rfl) hw
      · have hf := if_f hf c_531
        refine lv_iconst (v := (0 : Int32)) hx hb dL_law_534 (by decide) ?_
        exact absurd hf no01
  · have hf := if_f hf c_514
    refine lv_iconst (v := (0 : Int32)) hx hb dL_law_517 (by decide) ?_
    exact absurd hf no01
noncomputable def fc_7_640 (fu : Nat) (a1 a2 a3 a4 a5 : Int32) (S : St) : Option (St × Int32) :=
  some (S, (1 : Int32))
noncomputable def fc_7 (fu : Nat) (a1 a2 a3 a4 a5 : Int32) (S : St) : Option (St × Int32) :=
  bd (fL_record fu a1 a2 a3 a4 a5 S) fun S_571 r_571 =>
  bd (fX12_record fu a1 a2 a3 a4 a5 S_571) fun S_607 r_607 =>
  bd (fX12_thrown fu S_607) fun S_613 r_613 =>
  if r_613 = r_571 then
    if r_571 = 0 then
      gd (ck (0 : Int32) 1) <|
      if (lg_cmp (S_613.2 106 ((0 : Int32)).toNatClampNeg) (r_607).toInt64) = 0 then
        fc_7_640 fu a1 a2 a3 a4 a5 S_613
      else
        some (S_613, (0 : Int32))
    else
      fc_7_640 fu a1 a2 a3 a4 a5 S_613
  else
    some (S_613, (0 : Int32))
set_option maxHeartbeats 4000000 in
set_option maxRecDepth 100000 in
theorem lc_7 {p : Program} {l : Launch} {e : Env} {s : State} {m : MethodId} {below : List Frame} {meth : Method} {c : Code} {Q : State → Prop} {D : va_G} {cA : FieldType → ClassId} {ad : Nat → Nat} {base b L0 : Nat} {xs : Nat → Int32} (hlt : l.stackTraces = false) (C : CX D cA base RL cL_law 7 p s m #[Value.ref b] c) (hX : va_X b L0 xs s s.heap) (hbl : b < s.heap.size) (hbB : ¬ aB base b) {x4 a1 a2 a3 a4 a5 : Int32} (h_in1 : vp_in (x4 + 1) L0) (h_in2 : vp_in (x4 + 2) L0) (h_in3 : vp_in (x4 + 3) L0) (h_in4 : vp_in (x4 + 4) L0) (h_in5 : vp_in (x4 + 5) L0) (ha1 : xs (x4 + 1).toNatClampNeg = a1) (ha2 : xs (x4 + 2).toNatClampNeg = a2) (ha3 : xs (x4 + 3).toNatClampNeg = a3) (ha4 : xs (x4 + 4).toNatClampNeg = a4) (ha5 : xs (x4 + 5).toNatClampNeg = a5) {c0 s0 : Nat} (hc0 : c0 + 1 ≤ room_1.cells) (hs0 : s0 + 6 ≤ room_1.slots) {fu : Nat} {S S' : St} (hf : fc_7 fu a1 a2 a3 a4 a5 S = some (S', (1 : Int32)))
    (kk : ∀ (H : Heap) (locs : List Loc) (ls : Array Slot), WS D cA ad base s S' H locs → lv_has ls 7 [(0, .ref b), (1, .ref (ad 0)), (2, .ref (ad 63)), (3, .ref (ad 106)), (4, .int x4)] → W p l e room_1 s m #[Value.ref b] below meth c H locs (c0 + 1) (s0 + 6) Q (F0 m 1554 ls []))
    {H : Heap} {locs : List Loc} {ls : Array Slot} (hw : WS D cA ad base s S H locs) (hl : lv_has ls 7 [(0, .ref b), (1, .ref (ad 0)), (2, .ref (ad 63)), (3, .ref (ad 106)), (4, .int x4)]) : W p l e room_1 s m #[Value.ref b] below meth c H locs c0 s0 Q (F0 m 539 ls []) := by
  have hx := C.1
  have hb := C.2.1
  have hc1 : c0 ≤ room_1.cells := by omega
  have hs1 : s0 ≤ room_1.slots := by omega
  have J_640 : ∀ (S : St) (H : Heap) (locs : List Loc) (ls : Array Slot), fc_7_640 fu a1 a2 a3 a4 a5 S = some (S', (1 : Int32)) → lv_has ls 7 [(0, .ref b), (1, .ref (ad 0)), (2, .ref (ad 63)), (3, .ref (ad 106)), (4, .int x4)] → WS D cA ad base s S H locs → W p l e room_1 s m #[Value.ref b] below meth c H locs (c0 + 1) (s0 + 6) Q (F0 m 640 ls []) := by
    intro  S H locs ls hf hl hw
    refine lv_goto (tgt := 1554) hx hb dL_law_640 (by decide) ?_
    exact kk _ _ _ (by cases hf; exact hw) (lv_sub hl [0, 1, 2, 3, 4] rfl)
  refine lv_aload_n hx hb dL_law_539 rfl (lv_at hl 1 rfl) ?_
  refine lv_aload_n hx hb dL_law_540 rfl (lv_at hl 0 rfl) ?_
  refine lv_iload hx hb dL_law_541 (lv_at hl 4 rfl) ?_
  refine lv_iconst (v := (1 : Int32)) hx hb dL_law_543 (by decide) ?_
  refine lv_iadd hx hb dL_law_544 ?_
  refine r_sld C hw hX hbl hbB h_in1 ha1 dL_law_545 ?_
  refine lv_aload_n hx hb dL_law_546 rfl (lv_at hl 0 rfl) ?_
  refine lv_iload hx hb dL_law_547 (lv_at hl 4 rfl) ?_
  refine lv_iconst (v := (2 : Int32)) hx hb dL_law_549 (by decide) ?_
  refine lv_iadd hx hb dL_law_550 ?_
  refine r_sld C hw hX hbl hbB h_in2 ha2 dL_law_551 ?_
  refine lv_aload_n hx hb dL_law_552 rfl (lv_at hl 0 rfl) ?_
  refine lv_iload hx hb dL_law_553 (lv_at hl 4 rfl) ?_
  refine lv_iconst (v := (3 : Int32)) hx hb dL_law_555 (by decide) ?_
  refine lv_iadd hx hb dL_law_556 ?_
  refine r_sld C hw hX hbl hbB h_in3 ha3 dL_law_557 ?_
  refine lv_aload_n hx hb dL_law_558 rfl (lv_at hl 0 rfl) ?_
  refine lv_iload hx hb dL_law_559 (lv_at hl 4 rfl) ?_
  refine lv_iconst (v := (4 : Int32)) hx hb dL_law_561 (by decide) ?_
  refine lv_iadd hx hb dL_law_562 ?_
  refine r_sld C hw hX hbl hbB h_in4 ha4 dL_law_563 ?_
  refine lv_aload_n hx hb dL_law_564 rfl (lv_at hl 0 rfl) ?_
  refine lv_iload hx hb dL_law_565 (lv_at hl 4 rfl) ?_
  refine lv_iconst (v := (5 : Int32)) hx hb dL_law_567 (by decide) ?_
  refine lv_iadd hx hb dL_law_568 ?_
  refine r_sld C hw hX hbl hbB h_in5 ha5 dL_law_569 ?_
  refine lv_aload_n hx hb dL_law_570 rfl (lv_at hl 3 rfl) ?_
  obtain ⟨S_571, r_571, h_571, hf⟩ := bd_some hf
  refine r_biW hw (r_runSW (rest := []) C hw (m_L_record l hlt D cA ad base fu h_571) msL_record gw4_75 ⟨rfl, rfl, Nat.le_of_ble_eq_true rfl, Nat.le_of_ble_eq_true rfl⟩ rfl hl.1 rfl (Nat.le_of_ble_eq_true rfl) dL_law_571 hc0 hs0) (fun H locs hw => ?_)
  refine lv_istore (lv' := [(5, .int r_571), (0, .ref b), (1, .ref (ad 0)), (2, .ref (ad 63)), (3, .ref (ad 106)), (4, .int x4)]) hx hb dL_law_574 hl (by decide) rfl (fun ls hl => ?_)
  refine lv_aload_n hx hb dL_law_576 rfl (lv_at hl 3 rfl) ?_
  refine lv_aload_n hx hb dL_law_577 rfl (lv_at hl 1 rfl) ?_
  refine lv_iload hx hb dL_law_578 (lv_at hl 5 rfl) ?_
  refine lv_iconst (v := (1 : Int32)) hx hb dL_law_580 (by decide) ?_
  refine lv_iadd hx hb dL_law_581 ?_
  refine r_sld C hw hX hbl hbB h_in1 ha1 dL_law_582 ?_
  refine lv_aload_n hx hb dL_law_583 rfl (lv_at hl 1 rfl) ?_
  refine lv_iload hx hb dL_law_584 (lv_at hl 5 rfl) ?_
  refine lv_iconst (v := (2 : Int32)) hx hb dL_law_586 (by decide) ?_
  refine lv_iadd hx hb dL_law_587 ?_
  refine r_sld C hw hX hbl hbB h_in2 ha2 dL_law_588 ?_
  refine lv_aload_n hx hb dL_law_589 rfl (lv_at hl 1 rfl) ?_
  refine lv_iload hx hb dL_law_590 (lv_at hl 5 rfl) ?_
  refine lv_iconst (v := (3 : Int32)) hx hb dL_law_592 (by decide) ?_
  refine lv_iadd hx hb dL_law_593 ?_
  refine r_sld C hw hX hbl hbB h_in3 ha3 dL_law_594 ?_
  refine lv_aload_n hx hb dL_law_595 rfl (lv_at hl 1 rfl) ?_
  refine lv_iload hx hb dL_law_596 (lv_at hl 5 rfl) ?_
  refine lv_iconst (v := (4 : Int32)) hx hb dL_law_598 (by decide) ?_
  refine lv_iadd hx hb dL_law_599 ?_
  refine r_sld C hw hX hbl hbB h_in4 ha4 dL_law_600 ?_
  refine lv_aload_n hx hb dL_law_601 rfl (lv_at hl 1 rfl) ?_
  refine lv_iload hx hb dL_law_602 (lv_at hl 5 rfl) ?_
  refine lv_iconst (v := (5 : Int32)) hx hb dL_law_604 (by decide) ?_
  refine lv_iadd hx hb dL_law_605 ?_
  refine r_sld C hw hX hbl hbB h_in5 ha5 dL_law_606 ?_
  obtain ⟨S_607, r_607, h_607, hf⟩ := bd_some hf
  refine r_bi hw (r_runV (rest := []) C hw (m_X12_record l D cA ad base fu h_607) mvX12_record gw7_237 ⟨rfl, rfl, Nat.le_of_ble_eq_true rfl, Nat.le_of_ble_eq_true rfl⟩ dq_63 ln_63 vc_12 rfl hl.1 rfl (Nat.le_of_ble_eq_true rfl) dL_law_607 hc0 hs0) (fun H locs hw => ?_)
  refine lv_istore (lv' := [(6, .int r_607), (5, .int r_571), (0, .ref b), (1, .ref (ad 0)), (2, .ref (ad 63)), (3, .ref (ad 106)), (4, .int x4)]) hx hb dL_law_610 hl (by decide) rfl (fun ls hl => ?_)
  refine lv_aload_n hx hb dL_law_612 rfl (lv_at hl 4 rfl) ?_
  obtain ⟨S_613, r_613, h_613, hf⟩ := bd_some hf
  refine r_bi hw (r_runV (rest := []) C hw (m_X12_thrown l D cA ad base fu h_613) mvX12_thrown gw7_162 ⟨rfl, rfl, Nat.le_of_ble_eq_true rfl, Nat.le_of_ble_eq_true rfl⟩ dq_63 ln_63 vc_12 rfl hl.1 rfl (Nat.le_of_ble_eq_true rfl) dL_law_613 hc0 hs0) (fun H locs hw => ?_)
  refine lv_iload hx hb dL_law_616 (lv_at hl 1 rfl) ?_
  refine lv_icmp_eq (tgt := 623) hx hb dL_law_618 (by decide) (fun c_618 => ?_) (fun c_618 => ?_)
  · have hf := if_t hf c_618
    refine lv_iload hx hb dL_law_623 (lv_at hl 1 rfl) ?_
    refine lv_if_ne (tgt := 640) hx hb dL_law_625 (by decide) (fun c_625 => ?_) (fun c_625 => ?_)
    · have hf := if_f hf c_625
      exact J_640 _ _ _ _ hf (lv_sub hl [2, 3, 4, 5, 6] rfl) hw
    · have hf := if_t hf c_625
      refine lv_aload_n hx hb dL_law_628 rfl (lv_at hl 5 rfl) ?_
      refine lv_iconst (v := (0 : Int32)) hx hb dL_law_629 (by decide) ?_
      obtain ⟨z_630, hf⟩ := gd_some hf
      refine r_lald C hw (x := 106) dq_106 ln_106 z_630 dL_law_630 ?_
      refine lv_iload hx hb dL_law_631 (lv_at hl 0 rfl) ?_
      refine lv_i2l hx hb dL_law_633 rfl ?_
      refine W.lcmp hx hb dL_law_634 ?_
      refine lv_if_eq (tgt := 640) hx hb dL_law_635 (by decide) (fun c_635 => ?_) (fun c_635 => ?_)
      · have hf := if_t hf c_635
        exact J_640 _ _ _ _ hf (lv_sub hl [2, 3, 4, 5, 6] rfl) hw
      · have hf := if_f hf c_635
        refine lv_iconst (v := (0 : Int32)) hx hb dL_law_638 (by decide) ?_
        exact absurd hf no01
  · have hf := if_f hf c_618
    refine lv_iconst (v := (0 : Int32)) hx hb dL_law_621 (by decide) ?_
    exact absurd hf no01
noncomputable def fc_8_720 (fu : Nat) (a1 a2 a3 a4 a5 : Int32) (S : St) : Option (St × Int32) :=
  some (S, (1 : Int32))
noncomputable def fc_8 (fu : Nat) (a1 a2 a3 a4 a5 : Int32) (S : St) : Option (St × Int32) :=
  bd (fL_drop fu a1 a2 a3 S) fun S_663 r_663 =>
  bd (fX12_drop fu a1 a2 a3 S_663) fun S_687 r_687 =>
  bd (fX12_thrown fu S_687) fun S_693 r_693 =>
  if r_693 = r_663 then
    if r_663 = 0 then
      gd (ck (0 : Int32) 1) <|
      if (lg_cmp (S_693.2 106 ((0 : Int32)).toNatClampNeg) (r_687).toInt64) = 0 then
        fc_8_720 fu a1 a2 a3 a4 a5 S_693
      else
        some (S_693, (0 : Int32))
    else
      fc_8_720 fu a1 a2 a3 a4 a5 S_693
  else
    some (S_693, (0 : Int32))
set_option maxHeartbeats 4000000 in
set_option maxRecDepth 100000 in
theorem lc_8 {p : Program} {l : Launch} {e : Env} {s : State} {m : MethodId} {below : List Frame} {meth : Method} {c : Code} {Q : State → Prop} {D : va_G} {cA : FieldType → ClassId} {ad : Nat → Nat} {base b L0 : Nat} {xs : Nat → Int32} (hlt : l.stackTraces = false) (C : CX D cA base RL cL_law 7 p s m #[Value.ref b] c) (hX : va_X b L0 xs s s.heap) (hbl : b < s.heap.size) (hbB : ¬ aB base b) {x4 a1 a2 a3 a4 a5 : Int32} (h_in1 : vp_in (x4 + 1) L0) (h_in2 : vp_in (x4 + 2) L0) (h_in3 : vp_in (x4 + 3) L0) (h_in4 : vp_in (x4 + 4) L0) (h_in5 : vp_in (x4 + 5) L0) (ha1 : xs (x4 + 1).toNatClampNeg = a1) (ha2 : xs (x4 + 2).toNatClampNeg = a2) (ha3 : xs (x4 + 3).toNatClampNeg = a3) (ha4 : xs (x4 + 4).toNatClampNeg = a4) (ha5 : xs (x4 + 5).toNatClampNeg = a5) {c0 s0 : Nat} (hc0 : c0 + 1 ≤ room_1.cells) (hs0 : s0 + 6 ≤ room_1.slots) {fu : Nat} {S S' : St} (hf : fc_8 fu a1 a2 a3 a4 a5 S = some (S', (1 : Int32)))
    (kk : ∀ (H : Heap) (locs : List Loc) (ls : Array Slot), WS D cA ad base s S' H locs → lv_has ls 7 [(0, .ref b), (1, .ref (ad 0)), (2, .ref (ad 63)), (3, .ref (ad 106)), (4, .int x4)] → W p l e room_1 s m #[Value.ref b] below meth c H locs (c0 + 1) (s0 + 6) Q (F0 m 1554 ls []))
    {H : Heap} {locs : List Loc} {ls : Array Slot} (hw : WS D cA ad base s S H locs) (hl : lv_has ls 7 [(0, .ref b), (1, .ref (ad 0)), (2, .ref (ad 63)), (3, .ref (ad 106)), (4, .int x4)]) : W p l e room_1 s m #[Value.ref b] below meth c H locs c0 s0 Q (F0 m 643 ls []) := by
  have hx := C.1
  have hb := C.2.1
  have hc1 : c0 ≤ room_1.cells := by omega
  have hs1 : s0 ≤ room_1.slots := by omega
  have J_720 : ∀ (S : St) (H : Heap) (locs : List Loc) (ls : Array Slot), fc_8_720 fu a1 a2 a3 a4 a5 S = some (S', (1 : Int32)) → lv_has ls 7 [(0, .ref b), (1, .ref (ad 0)), (2, .ref (ad 63)), (3, .ref (ad 106)), (4, .int x4)] → WS D cA ad base s S H locs → W p l e room_1 s m #[Value.ref b] below meth c H locs (c0 + 1) (s0 + 6) Q (F0 m 720 ls []) := by
    intro  S H locs ls hf hl hw
    refine lv_goto (tgt := 1554) hx hb dL_law_720 (by decide) ?_
    exact kk _ _ _ (by cases hf; exact hw) (lv_sub hl [0, 1, 2, 3, 4] rfl)
  refine lv_aload_n hx hb dL_law_643 rfl (lv_at hl 1 rfl) ?_
  refine lv_aload_n hx hb dL_law_644 rfl (lv_at hl 0 rfl) ?_
  refine lv_iload hx hb dL_law_645 (lv_at hl 4 rfl) ?_
  refine lv_iconst (v := (1 : Int32)) hx hb dL_law_647 (by decide) ?_
  refine lv_iadd hx hb dL_law_648 ?_
  refine r_sld C hw hX hbl hbB h_in1 ha1 dL_law_649 ?_
  refine lv_aload_n hx hb dL_law_650 rfl (lv_at hl 0 rfl) ?_
  refine lv_iload hx hb dL_law_651 (lv_at hl 4 rfl) ?_
  refine lv_iconst (v := (2 : Int32)) hx hb dL_law_653 (by decide) ?_
  refine lv_iadd hx hb dL_law_654 ?_
  refine r_sld C hw hX hbl hbB h_in2 ha2 dL_law_655 ?_
  refine lv_aload_n hx hb dL_law_656 rfl (lv_at hl 0 rfl) ?_
  refine lv_iload hx hb dL_law_657 (lv_at hl 4 rfl) ?_
  refine lv_iconst (v := (3 : Int32)) hx hb dL_law_659 (by decide) ?_
  refine lv_iadd hx hb dL_law_660 ?_
  refine r_sld C hw hX hbl hbB h_in3 ha3 dL_law_661 ?_
  refine lv_aload_n hx hb dL_law_662 rfl (lv_at hl 3 rfl) ?_
  obtain ⟨S_663, r_663, h_663, hf⟩ := bd_some hf
  refine r_biW hw (r_runSW (rest := []) C hw (m_L_drop l hlt D cA ad base fu h_663) msL_drop gw4_113 ⟨rfl, rfl, Nat.le_of_ble_eq_true rfl, Nat.le_of_ble_eq_true rfl⟩ rfl hl.1 rfl (Nat.le_of_ble_eq_true rfl) dL_law_663 hc0 hs0) (fun H locs hw => ?_)
  refine lv_istore (lv' := [(5, .int r_663), (0, .ref b), (1, .ref (ad 0)), (2, .ref (ad 63)), (3, .ref (ad 106)), (4, .int x4)]) hx hb dL_law_666 hl (by decide) rfl (fun ls hl => ?_)
  refine lv_aload_n hx hb dL_law_668 rfl (lv_at hl 3 rfl) ?_
  refine lv_aload_n hx hb dL_law_669 rfl (lv_at hl 1 rfl) ?_
  refine lv_iload hx hb dL_law_670 (lv_at hl 5 rfl) ?_
  refine lv_iconst (v := (1 : Int32)) hx hb dL_law_672 (by decide) ?_
  refine lv_iadd hx hb dL_law_673 ?_
  refine r_sld C hw hX hbl hbB h_in1 ha1 dL_law_674 ?_
  refine lv_aload_n hx hb dL_law_675 rfl (lv_at hl 1 rfl) ?_
  refine lv_iload hx hb dL_law_676 (lv_at hl 5 rfl) ?_
  refine lv_iconst (v := (2 : Int32)) hx hb dL_law_678 (by decide) ?_
  refine lv_iadd hx hb dL_law_679 ?_
  refine r_sld C hw hX hbl hbB h_in2 ha2 dL_law_680 ?_
  refine lv_aload_n hx hb dL_law_681 rfl (lv_at hl 1 rfl) ?_
  refine lv_iload hx hb dL_law_682 (lv_at hl 5 rfl) ?_
  refine lv_iconst (v := (3 : Int32)) hx hb dL_law_684 (by decide) ?_
  refine lv_iadd hx hb dL_law_685 ?_
  refine r_sld C hw hX hbl hbB h_in3 ha3 dL_law_686 ?_
  obtain ⟨S_687, r_687, h_687, hf⟩ := bd_some hf
  refine r_bi hw (r_runV (rest := []) C hw (m_X12_drop l D cA ad base fu h_687) mvX12_drop gw8_16 ⟨rfl, rfl, Nat.le_of_ble_eq_true rfl, Nat.le_of_ble_eq_true rfl⟩ dq_63 ln_63 vc_12 rfl hl.1 rfl (Nat.le_of_ble_eq_true rfl) dL_law_687 hc0 hs0) (fun H locs hw => ?_)
  refine lv_istore (lv' := [(6, .int r_687), (5, .int r_663), (0, .ref b), (1, .ref (ad 0)), (2, .ref (ad 63)), (3, .ref (ad 106)), (4, .int x4)]) hx hb dL_law_690 hl (by decide) rfl (fun ls hl => ?_)
  refine lv_aload_n hx hb dL_law_692 rfl (lv_at hl 4 rfl) ?_
  obtain ⟨S_693, r_693, h_693, hf⟩ := bd_some hf
  refine r_bi hw (r_runV (rest := []) C hw (m_X12_thrown l D cA ad base fu h_693) mvX12_thrown gw7_162 ⟨rfl, rfl, Nat.le_of_ble_eq_true rfl, Nat.le_of_ble_eq_true rfl⟩ dq_63 ln_63 vc_12 rfl hl.1 rfl (Nat.le_of_ble_eq_true rfl) dL_law_693 hc0 hs0) (fun H locs hw => ?_)
  refine lv_iload hx hb dL_law_696 (lv_at hl 1 rfl) ?_
  refine lv_icmp_eq (tgt := 703) hx hb dL_law_698 (by decide) (fun c_698 => ?_) (fun c_698 => ?_)
  · have hf := if_t hf c_698
    refine lv_iload hx hb dL_law_703 (lv_at hl 1 rfl) ?_
    refine lv_if_ne (tgt := 720) hx hb dL_law_705 (by decide) (fun c_705 => ?_) (fun c_705 => ?_)
    · have hf := if_f hf c_705
      exact J_720 _ _ _ _ hf (lv_sub hl [2, 3, 4, 5, 6] rfl) hw
    · have hf := if_t hf c_705
      refine lv_aload_n hx hb dL_law_708 rfl (lv_at hl 5 rfl) ?_
      refine lv_iconst (v := (0 : Int32)) hx hb dL_law_709 (by decide) ?_
      obtain ⟨z_710, hf⟩ := gd_some hf
      refine r_lald C hw (x := 106) dq_106 ln_106 z_710 dL_law_710 ?_
      refine lv_iload hx hb dL_law_711 (lv_at hl 0 rfl) ?_
      refine lv_i2l hx hb dL_law_713 rfl ?_
      refine W.lcmp hx hb dL_law_714 ?_
      refine lv_if_eq (tgt := 720) hx hb dL_law_715 (by decide) (fun c_715 => ?_) (fun c_715 => ?_)
      · have hf := if_t hf c_715
        exact J_720 _ _ _ _ hf (lv_sub hl [2, 3, 4, 5, 6] rfl) hw
      · have hf := if_f hf c_715
        refine lv_iconst (v := (0 : Int32)) hx hb dL_law_718 (by decide) ?_
        exact absurd hf no01
  · have hf := if_f hf c_698
    refine lv_iconst (v := (0 : Int32)) hx hb dL_law_701 (by decide) ?_
    exact absurd hf no01
noncomputable def fc_9_776 (fu : Nat) (a1 a2 a3 a4 a5 : Int32) (S : St) : Option (St × Int32) :=
  some (S, (1 : Int32))
noncomputable def fc_9 (fu : Nat) (a1 a2 a3 a4 a5 : Int32) (S : St) : Option (St × Int32) :=
  bd (fL_server fu a1 S) fun S_731 r_731 =>
  bd (fX12_server fu a1 S_731) fun S_743 r_743 =>
  bd (fX12_thrown fu S_743) fun S_749 r_749 =>
  if r_749 = r_731 then
    if r_731 = 0 then
      gd (ck (0 : Int32) 1) <|
      if (lg_cmp (S_749.2 106 ((0 : Int32)).toNatClampNeg) (r_743).toInt64) = 0 then
        fc_9_776 fu a1 a2 a3 a4 a5 S_749
      else
        some (S_749, (0 : Int32))
    else
      fc_9_776 fu a1 a2 a3 a4 a5 S_749
  else
    some (S_749, (0 : Int32))
set_option maxHeartbeats 4000000 in
set_option maxRecDepth 100000 in
theorem lc_9 {p : Program} {l : Launch} {e : Env} {s : State} {m : MethodId} {below : List Frame} {meth : Method} {c : Code} {Q : State → Prop} {D : va_G} {cA : FieldType → ClassId} {ad : Nat → Nat} {base b L0 : Nat} {xs : Nat → Int32} (hlt : l.stackTraces = false) (C : CX D cA base RL cL_law 7 p s m #[Value.ref b] c) (hX : va_X b L0 xs s s.heap) (hbl : b < s.heap.size) (hbB : ¬ aB base b) {x4 a1 a2 a3 a4 a5 : Int32} (h_in1 : vp_in (x4 + 1) L0) (h_in2 : vp_in (x4 + 2) L0) (h_in3 : vp_in (x4 + 3) L0) (h_in4 : vp_in (x4 + 4) L0) (h_in5 : vp_in (x4 + 5) L0) (ha1 : xs (x4 + 1).toNatClampNeg = a1) (ha2 : xs (x4 + 2).toNatClampNeg = a2) (ha3 : xs (x4 + 3).toNatClampNeg = a3) (ha4 : xs (x4 + 4).toNatClampNeg = a4) (ha5 : xs (x4 + 5).toNatClampNeg = a5) {c0 s0 : Nat} (hc0 : c0 + 1 ≤ room_1.cells) (hs0 : s0 + 6 ≤ room_1.slots) {fu : Nat} {S S' : St} (hf : fc_9 fu a1 a2 a3 a4 a5 S = some (S', (1 : Int32)))
    (kk : ∀ (H : Heap) (locs : List Loc) (ls : Array Slot), WS D cA ad base s S' H locs → lv_has ls 7 [(0, .ref b), (1, .ref (ad 0)), (2, .ref (ad 63)), (3, .ref (ad 106)), (4, .int x4)] → W p l e room_1 s m #[Value.ref b] below meth c H locs (c0 + 1) (s0 + 6) Q (F0 m 1554 ls []))
    {H : Heap} {locs : List Loc} {ls : Array Slot} (hw : WS D cA ad base s S H locs) (hl : lv_has ls 7 [(0, .ref b), (1, .ref (ad 0)), (2, .ref (ad 63)), (3, .ref (ad 106)), (4, .int x4)]) : W p l e room_1 s m #[Value.ref b] below meth c H locs c0 s0 Q (F0 m 723 ls []) := by
  have hx := C.1
  have hb := C.2.1
  have hc1 : c0 ≤ room_1.cells := by omega
  have hs1 : s0 ≤ room_1.slots := by omega
  have J_776 : ∀ (S : St) (H : Heap) (locs : List Loc) (ls : Array Slot), fc_9_776 fu a1 a2 a3 a4 a5 S = some (S', (1 : Int32)) → lv_has ls 7 [(0, .ref b), (1, .ref (ad 0)), (2, .ref (ad 63)), (3, .ref (ad 106)), (4, .int x4)] → WS D cA ad base s S H locs → W p l e room_1 s m #[Value.ref b] below meth c H locs (c0 + 1) (s0 + 6) Q (F0 m 776 ls []) := by
    intro  S H locs ls hf hl hw
    refine lv_goto (tgt := 1554) hx hb dL_law_776 (by decide) ?_
    exact kk _ _ _ (by cases hf; exact hw) (lv_sub hl [0, 1, 2, 3, 4] rfl)
  refine lv_aload_n hx hb dL_law_723 rfl (lv_at hl 1 rfl) ?_
  refine lv_aload_n hx hb dL_law_724 rfl (lv_at hl 0 rfl) ?_
  refine lv_iload hx hb dL_law_725 (lv_at hl 4 rfl) ?_
  refine lv_iconst (v := (1 : Int32)) hx hb dL_law_727 (by decide) ?_
  refine lv_iadd hx hb dL_law_728 ?_
  refine r_sld C hw hX hbl hbB h_in1 ha1 dL_law_729 ?_
  refine lv_aload_n hx hb dL_law_730 rfl (lv_at hl 3 rfl) ?_
  obtain ⟨S_731, r_731, h_731, hf⟩ := bd_some hf
  refine r_biW hw (r_runSW (rest := []) C hw (m_L_server l hlt D cA ad base fu h_731) msL_server gw4_128 ⟨rfl, rfl, Nat.le_of_ble_eq_true rfl, Nat.le_of_ble_eq_true rfl⟩ rfl hl.1 rfl (Nat.le_of_ble_eq_true rfl) dL_law_731 hc0 hs0) (fun H locs hw => ?_)
  refine lv_istore (lv' := [(5, .int r_731), (0, .ref b), (1, .ref (ad 0)), (2, .ref (ad 63)), (3, .ref (ad 106)), (4, .int x4)]) hx hb dL_law_734 hl (by decide) rfl (fun ls hl => ?_)
  refine lv_aload_n hx hb dL_law_736 rfl (lv_at hl 3 rfl) ?_
  refine lv_aload_n hx hb dL_law_737 rfl (lv_at hl 1 rfl) ?_
  refine lv_iload hx hb dL_law_738 (lv_at hl 5 rfl) ?_
  refine lv_iconst (v := (1 : Int32)) hx hb dL_law_740 (by decide) ?_
  refine lv_iadd hx hb dL_law_741 ?_
  refine r_sld C hw hX hbl hbB h_in1 ha1 dL_law_742 ?_
  obtain ⟨S_743, r_743, h_743, hf⟩ := bd_some hf
  refine r_bi hw (r_runV (rest := []) C hw (m_X12_server l D cA ad base fu h_743) mvX12_server gw8_20 ⟨rfl, rfl, Nat.le_of_ble_eq_true rfl, Nat.le_of_ble_eq_true rfl⟩ dq_63 ln_63 vc_12 rfl hl.1 rfl (Nat.le_of_ble_eq_true rfl) dL_law_743 hc0 hs0) (fun H locs hw => ?_)
  refine lv_istore (lv' := [(6, .int r_743), (5, .int r_731), (0, .ref b), (1, .ref (ad 0)), (2, .ref (ad 63)), (3, .ref (ad 106)), (4, .int x4)]) hx hb dL_law_746 hl (by decide) rfl (fun ls hl => ?_)
  refine lv_aload_n hx hb dL_law_748 rfl (lv_at hl 4 rfl) ?_
  obtain ⟨S_749, r_749, h_749, hf⟩ := bd_some hf
  refine r_bi hw (r_runV (rest := []) C hw (m_X12_thrown l D cA ad base fu h_749) mvX12_thrown gw7_162 ⟨rfl, rfl, Nat.le_of_ble_eq_true rfl, Nat.le_of_ble_eq_true rfl⟩ dq_63 ln_63 vc_12 rfl hl.1 rfl (Nat.le_of_ble_eq_true rfl) dL_law_749 hc0 hs0) (fun H locs hw => ?_)
  refine lv_iload hx hb dL_law_752 (lv_at hl 1 rfl) ?_
  refine lv_icmp_eq (tgt := 759) hx hb dL_law_754 (by decide) (fun c_754 => ?_) (fun c_754 => ?_)
  · have hf := if_t hf c_754
    refine lv_iload hx hb dL_law_759 (lv_at hl 1 rfl) ?_
    refine lv_if_ne (tgt := 776) hx hb dL_law_761 (by decide) (fun c_761 => ?_) (fun c_761 => ?_)
    · have hf := if_f hf c_761
      exact J_776 _ _ _ _ hf (lv_sub hl [2, 3, 4, 5, 6] rfl) hw
    · have hf := if_t hf c_761
      refine lv_aload_n hx hb dL_law_764 rfl (lv_at hl 5 rfl) ?_
      refine lv_iconst (v := (0 : Int32)) hx hb dL_law_765 (by decide) ?_
      obtain ⟨z_766, hf⟩ := gd_some hf
      refine r_lald C hw (x := 106) dq_106 ln_106 z_766 dL_law_766 ?_
      refine lv_iload hx hb dL_law_767 (lv_at hl 0 rfl) ?_
      refine lv_i2l hx hb dL_law_769 rfl ?_
      refine W.lcmp hx hb dL_law_770 ?_
      refine lv_if_eq (tgt := 776) hx hb dL_law_771 (by decide) (fun c_771 => ?_) (fun c_771 => ?_)
      · have hf := if_t hf c_771
        exact J_776 _ _ _ _ hf (lv_sub hl [2, 3, 4, 5, 6] rfl) hw
      · have hf := if_f hf c_771
        refine lv_iconst (v := (0 : Int32)) hx hb dL_law_774 (by decide) ?_
        exact absurd hf no01
  · have hf := if_f hf c_754
    refine lv_iconst (v := (0 : Int32)) hx hb dL_law_757 (by decide) ?_
    exact absurd hf no01
noncomputable def fc_10_879 (fu : Nat) (a1 a2 a3 a4 a5 : Int32) (S : St) : Option (St × Int32) :=
  some (S, (1 : Int32))
noncomputable def fc_10_873 (fu : Nat) (a1 a2 a3 a4 a5 : Int32) (t0 : Int64) (t1 : Int64) (S : St) : Option (St × Int32) :=
  if (lg_cmp t1 t0) = 0 then
    fc_10_879 fu a1 a2 a3 a4 a5 S
  else
    some (S, (0 : Int32))
noncomputable def fc_10_839 (fu : Nat) (a1 a2 a3 a4 a5 : Int32) (x5 : Int32) (t0 : Int32) (t1 : Int32) (t2 : Int32) (S : St) : Option (St × Int32) :=
  bd (fX12_serve fu t2 t1 t0 S) fun S_839 r_839 =>
  bd (fX12_thrown fu S_839) fun S_845 r_845 =>
  if r_845 = x5 then
    if x5 = 0 then
      gd (ck (0 : Int32) 1) <|
      if r_839 = 0 then
        fc_10_873 fu a1 a2 a3 a4 a5 (0 : Int64) (S_845.2 106 ((0 : Int32)).toNatClampNeg) S_845
      else
        fc_10_873 fu a1 a2 a3 a4 a5 (1 : Int64) (S_845.2 106 ((0 : Int32)).toNatClampNeg) S_845
    else
      fc_10_879 fu a1 a2 a3 a4 a5 S_845
  else
    some (S_845, (0 : Int32))
noncomputable def fc_10_806 (fu : Nat) (a1 a2 a3 a4 a5 : Int32) (t0 : Int32) (t1 : Int32) (t2 : Int32) (S : St) : Option (St × Int32) :=
  bd (fL_serve fu t2 t1 t0 S) fun S_807 r_807 =>
  if a3 = 0 then
    fc_10_839 fu a1 a2 a3 a4 a5 r_807 (0 : Int32) a2 a1 S_807
  else
    fc_10_839 fu a1 a2 a3 a4 a5 r_807 (1 : Int32) a2 a1 S_807
noncomputable def fc_10 (fu : Nat) (a1 a2 a3 a4 a5 : Int32) (S : St) : Option (St × Int32) :=
  if a3 = 0 then
    fc_10_806 fu a1 a2 a3 a4 a5 (0 : Int32) a2 a1 S
  else
    fc_10_806 fu a1 a2 a3 a4 a5 (1 : Int32) a2 a1 S
set_option maxHeartbeats 4000000 in
set_option maxRecDepth 100000 in
theorem lc_10 {p : Program} {l : Launch} {e : Env} {s : State} {m : MethodId} {below : List Frame} {meth : Method} {c : Code} {Q : State → Prop} {D : va_G} {cA : FieldType → ClassId} {ad : Nat → Nat} {base b L0 : Nat} {xs : Nat → Int32} (hlt : l.stackTraces = false) (C : CX D cA base RL cL_law 7 p s m #[Value.ref b] c) (hX : va_X b L0 xs s s.heap) (hbl : b < s.heap.size) (hbB : ¬ aB base b) {x4 a1 a2 a3 a4 a5 : Int32} (h_in1 : vp_in (x4 + 1) L0) (h_in2 : vp_in (x4 + 2) L0) (h_in3 : vp_in (x4 + 3) L0) (h_in4 : vp_in (x4 + 4) L0) (h_in5 : vp_in (x4 + 5) L0) (ha1 : xs (x4 + 1).toNatClampNeg = a1) (ha2 : xs (x4 + 2).toNatClampNeg = a2) (ha3 : xs (x4 + 3).toNatClampNeg = a3) (ha4 : xs (x4 + 4).toNatClampNeg = a4) (ha5 : xs (x4 + 5).toNatClampNeg = a5) {c0 s0 : Nat} (hc0 : c0 + 1 ≤ room_1.cells) (hs0 : s0 + 6 ≤ room_1.slots) {fu : Nat} {S S' : St} (hf : fc_10 fu a1 a2 a3 a4 a5 S = some (S', (1 : Int32)))
    (kk : ∀ (H : Heap) (locs : List Loc) (ls : Array Slot), WS D cA ad base s S' H locs → lv_has ls 7 [(0, .ref b), (1, .ref (ad 0)), (2, .ref (ad 63)), (3, .ref (ad 106)), (4, .int x4)] → W p l e room_1 s m #[Value.ref b] below meth c H locs (c0 + 1) (s0 + 6) Q (F0 m 1554 ls []))
    {H : Heap} {locs : List Loc} {ls : Array Slot} (hw : WS D cA ad base s S H locs) (hl : lv_has ls 7 [(0, .ref b), (1, .ref (ad 0)), (2, .ref (ad 63)), (3, .ref (ad 106)), (4, .int x4)]) : W p l e room_1 s m #[Value.ref b] below meth c H locs c0 s0 Q (F0 m 779 ls []) := by
  have hx := C.1
  have hb := C.2.1
  have hc1 : c0 ≤ room_1.cells := by omega
  have hs1 : s0 ≤ room_1.slots := by omega
  have J_879 : ∀ (S : St) (H : Heap) (locs : List Loc) (ls : Array Slot), fc_10_879 fu a1 a2 a3 a4 a5 S = some (S', (1 : Int32)) → lv_has ls 7 [(0, .ref b), (1, .ref (ad 0)), (2, .ref (ad 63)), (3, .ref (ad 106)), (4, .int x4)] → WS D cA ad base s S H locs → W p l e room_1 s m #[Value.ref b] below meth c H locs (c0 + 1) (s0 + 6) Q (F0 m 879 ls []) := by
    intro  S H locs ls hf hl hw
    refine lv_goto (tgt := 1554) hx hb dL_law_879 (by decide) ?_
    exact kk _ _ _ (by cases hf; exact hw) (lv_sub hl [0, 1, 2, 3, 4] rfl)
  have J_873 : ∀ (t0 : Int64) (t1 : Int64) (S : St) (H : Heap) (locs : List Loc) (ls : Array Slot), fc_10_873 fu a1 a2 a3 a4 a5 t0 t1 S = some (S', (1 : Int32)) → lv_has ls 7 [(0, .ref b), (1, .ref (ad 0)), (2, .ref (ad 63)), (3, .ref (ad 106)), (4, .int x4)] → WS D cA ad base s S H locs → W p l e room_1 s m #[Value.ref b] below meth c H locs (c0 + 1) (s0 + 6) Q (F0 m 873 ls [.long t0, .long t1]) := by
    intro t0 t1 S H locs ls hf hl hw
    refine W.lcmp hx hb dL_law_873 ?_
    refine lv_if_eq (tgt := 879) hx hb dL_law_874 (by decide) (fun c_874 => ?_) (fun c_874 => ?_)
    · have hf := if_t hf c_874
      exact J_879 _ _ _ _ hf (lv_sub hl [0, 1, 2, 3, 4] rfl) hw
    · have hf := if_f hf c_874
      refine lv_iconst (v := (0 : Int32)) hx hb dL_law_877 (by decide) ?_
      exact absurd hf no01
  have J_839 : ∀ (x5 : Int32) (t0 : Int32) (t1 : Int32) (t2 : Int32) (S : St) (H : Heap) (locs : List Loc) (ls : Array Slot), fc_10_839 fu a1 a2 a3 a4 a5 x5 t0 t1 t2 S = some (S', (1 : Int32)) → lv_has ls 7 [(0, .ref b), (1, .ref (ad 0)), (2, .ref (ad 63)), (3, .ref (ad 106)), (4, .int x4), (5, .int x5)] → WS D cA ad base s S H locs → W p l e room_1 s m #[Value.ref b] below meth c H locs (c0 + 1) (s0 + 6) Q (F0 m 839 ls [.int t0, .int t1, .int t2, .ref (ad 63)]) := by
    intro x5 t0 t1 t2 S H locs ls hf hl hw
    obtain ⟨S_839, r_839, h_839, hf⟩ := bd_some hf
    refine r_bi hw (r_runV (rest := []) C hw (m_X12_serve l D cA ad base fu h_839) mvX12_serve gw8_28 ⟨rfl, rfl, Nat.le_of_ble_eq_true rfl, Nat.le_of_ble_eq_true rfl⟩ dq_63 ln_63 vc_12 rfl hl.1 rfl (Nat.le_of_ble_eq_true rfl) dL_law_839 hc0 hs0) (fun H locs hw => ?_)
    refine lv_istore (lv' := [(6, .int r_839), (0, .ref b), (1, .ref (ad 0)), (2, .ref (ad 63)), (3, .ref (ad 106)), (4, .int x4), (5, .int x5)]) hx hb dL_law_842 hl (by decide) rfl (fun ls hl => ?_)
    refine lv_aload_n hx hb dL_law_844 rfl (lv_at hl 3 rfl) ?_
    obtain ⟨S_845, r_845, h_845, hf⟩ := bd_some hf
    refine r_bi hw (r_runV (rest := []) C hw (m_X12_thrown l D cA ad base fu h_845) mvX12_thrown gw7_162 ⟨rfl, rfl, Nat.le_of_ble_eq_true rfl, Nat.le_of_ble_eq_true rfl⟩ dq_63 ln_63 vc_12 rfl hl.1 rfl (Nat.le_of_ble_eq_true rfl) dL_law_845 hc0 hs0) (fun H locs hw => ?_)
    refine lv_iload hx hb dL_law_848 (lv_at hl 6 rfl) ?_
    refine lv_icmp_eq (tgt := 855) hx hb dL_law_850 (by decide) (fun c_850 => ?_) (fun c_850 => ?_)
    · have hf := if_t hf c_850
      refine lv_iload hx hb dL_law_855 (lv_at hl 6 rfl) ?_
      refine lv_if_ne (tgt := 879) hx hb dL_law_857 (by decide) (fun c_857 => ?_) (fun c_857 => ?_)
      · have hf := if_f hf c_857
        exact J_879 _ _ _ _ hf (lv_sub hl [1, 2, 3, 4, 5] rfl) hw
      · have hf := if_t hf c_857
        refine lv_aload_n hx hb dL_law_860 rfl (lv_at hl 4 rfl) ?_
        refine lv_iconst (v := (0 : Int32)) hx hb dL_law_861 (by decide) ?_
        obtain ⟨z_862, hf⟩ := gd_some hf
        refine r_lald C hw (x := 106) dq_106 ln_106 z_862 dL_law_862 ?_
        refine lv_iload hx hb dL_law_863 (lv_at hl 0 rfl) ?_
        refine lv_if_eq (tgt := 872) hx hb dL_law_865 (by decide) (fun c_865 => ?_) (fun c_865 => ?_)
        · have hf := if_t hf c_865
          refine lv_lconst (v := (0 : Int64)) hx hb dL_law_872 (by decide) ?_
          exact J_873 _ _ _ _ _ _ hf (lv_sub hl [1, 2, 3, 4, 5] rfl) hw
        · have hf := if_f hf c_865
          refine lv_lconst (v := (1 : Int64)) hx hb dL_law_868 (by decide) ?_
          refine lv_goto (tgt := 873) hx hb dL_law_869 (by decide) ?_
          exact J_873 _ _ _ _ _ _ hf (lv_sub hl [1, 2, 3, 4, 5] rfl) hw
    · have hf := if_f hf c_850
      refine lv_iconst (v := (0 : Int32)) hx hb dL_law_853 (by decide) ?_
      exact absurd hf no01
  have J_806 : ∀ (t0 : Int32) (t1 : Int32) (t2 : Int32) (S : St) (H : Heap) (locs : List Loc) (ls : Array Slot), fc_10_806 fu a1 a2 a3 a4 a5 t0 t1 t2 S = some (S', (1 : Int32)) → lv_has ls 7 [(0, .ref b), (1, .ref (ad 0)), (2, .ref (ad 63)), (3, .ref (ad 106)), (4, .int x4)] → WS D cA ad base s S H locs → W p l e room_1 s m #[Value.ref b] below meth c H locs c0 s0 Q (F0 m 806 ls [.int t0, .int t1, .int t2, .ref (ad 0)]) := by
    intro t0 t1 t2 S H locs ls hf hl hw
    refine lv_aload_n hx hb dL_law_806 rfl (lv_at hl 3 rfl) ?_
    obtain ⟨S_807, r_807, h_807, hf⟩ := bd_some hf
    refine r_biW hw (r_runSW (rest := []) C hw (m_L_serve l hlt D cA ad base fu h_807) msL_serve gw4_145 ⟨rfl, rfl, Nat.le_of_ble_eq_true rfl, Nat.le_of_ble_eq_true rfl⟩ rfl hl.1 rfl (Nat.le_of_ble_eq_true rfl) dL_law_807 hc0 hs0) (fun H locs hw => ?_)
    refine lv_istore (lv' := [(5, .int r_807), (0, .ref b), (1, .ref (ad 0)), (2, .ref (ad 63)), (3, .ref (ad 106)), (4, .int x4)]) hx hb dL_law_810 hl (by decide) rfl (fun ls hl => ?_)
    refine lv_aload_n hx hb dL_law_812 rfl (lv_at hl 3 rfl) ?_
    refine lv_aload_n hx hb dL_law_813 rfl (lv_at hl 1 rfl) ?_
    refine lv_iload hx hb dL_law_814 (lv_at hl 5 rfl) ?_
    refine lv_iconst (v := (1 : Int32)) hx hb dL_law_816 (by decide) ?_
    refine lv_iadd hx hb dL_law_817 ?_
    refine r_sld C hw hX hbl hbB h_in1 ha1 dL_law_818 ?_
    refine lv_aload_n hx hb dL_law_819 rfl (lv_at hl 1 rfl) ?_
    refine lv_iload hx hb dL_law_820 (lv_at hl 5 rfl) ?_
    refine lv_iconst (v := (2 : Int32)) hx hb dL_law_822 (by decide) ?_
    refine lv_iadd hx hb dL_law_823 ?_
    refine r_sld C hw hX hbl hbB h_in2 ha2 dL_law_824 ?_
    refine lv_aload_n hx hb dL_law_825 rfl (lv_at hl 1 rfl) ?_
    refine lv_iload hx hb dL_law_826 (lv_at hl 5 rfl) ?_
    refine lv_iconst (v := (3 : Int32)) hx hb dL_law_828 (by decide) ?_
    refine lv_iadd hx hb dL_law_829 ?_
    refine r_sld C hw hX hbl hbB h_in3 ha3 dL_law_830 ?_
    refine lv_if_eq (tgt := 838) hx hb dL_law_831 (by decide) (fun c_831 => ?_) (fun c_831 => ?_)
    · have hf := if_t hf c_831
      refine lv_iconst (v := (0 : Int32)) hx hb dL_law_838 (by decide) ?_
      exact J_839 _ _ _ _ _ _ _ _ hf (lv_sub hl [1, 2, 3, 4, 5, 0] rfl) hw
    · have hf := if_f hf c_831
      refine lv_iconst (v := (1 : Int32)) hx hb dL_law_834 (by decide) ?_
      refine lv_goto (tgt := 839) hx hb dL_law_835 (by decide) ?_
      exact J_839 _ _ _ _ _ _ _ _ hf (lv_sub hl [1, 2, 3, 4, 5, 0] rfl) hw
  refine lv_aload_n hx hb dL_law_779 rfl (lv_at hl 1 rfl) ?_
  refine lv_aload_n hx hb dL_law_780 rfl (lv_at hl 0 rfl) ?_
  refine lv_iload hx hb dL_law_781 (lv_at hl 4 rfl) ?_
  refine lv_iconst (v := (1 : Int32)) hx hb dL_law_783 (by decide) ?_
  refine lv_iadd hx hb dL_law_784 ?_
  refine r_sld C hw hX hbl hbB h_in1 ha1 dL_law_785 ?_
  refine lv_aload_n hx hb dL_law_786 rfl (lv_at hl 0 rfl) ?_
  refine lv_iload hx hb dL_law_787 (lv_at hl 4 rfl) ?_
  refine lv_iconst (v := (2 : Int32)) hx hb dL_law_789 (by decide) ?_
  refine lv_iadd hx hb dL_law_790 ?_
  refine r_sld C hw hX hbl hbB h_in2 ha2 dL_law_791 ?_
  refine lv_aload_n hx hb dL_law_792 rfl (lv_at hl 0 rfl) ?_
  refine lv_iload hx hb dL_law_793 (lv_at hl 4 rfl) ?_
  refine lv_iconst (v := (3 : Int32)) hx hb dL_law_795 (by decide) ?_
  refine lv_iadd hx hb dL_law_796 ?_
  refine r_sld C hw hX hbl hbB h_in3 ha3 dL_law_797 ?_
  refine lv_if_eq (tgt := 805) hx hb dL_law_798 (by decide) (fun c_798 => ?_) (fun c_798 => ?_)
  · have hf := if_t hf c_798
    refine lv_iconst (v := (0 : Int32)) hx hb dL_law_805 (by decide) ?_
    exact J_806 _ _ _ _ _ _ _ hf (lv_sub hl [0, 1, 2, 3, 4] rfl) hw
  · have hf := if_f hf c_798
    refine lv_iconst (v := (1 : Int32)) hx hb dL_law_801 (by decide) ?_
    refine lv_goto (tgt := 806) hx hb dL_law_802 (by decide) ?_
    exact J_806 _ _ _ _ _ _ _ hf (lv_sub hl [0, 1, 2, 3, 4] rfl) hw
noncomputable def fc_11_959 (fu : Nat) (a1 a2 a3 a4 a5 : Int32) (S : St) : Option (St × Int32) :=
  some (S, (1 : Int32))
noncomputable def fc_11 (fu : Nat) (a1 a2 a3 a4 a5 : Int32) (S : St) : Option (St × Int32) :=
  bd (fL_say fu a1 a2 a3 S) fun S_902 r_902 =>
  bd (fX12_say fu a1 a2 a3 S_902) fun S_926 r_926 =>
  bd (fX12_thrown fu S_926) fun S_932 r_932 =>
  if r_932 = r_902 then
    if r_902 = 0 then
      gd (ck (0 : Int32) 1) <|
      if (lg_cmp (S_932.2 106 ((0 : Int32)).toNatClampNeg) (r_926).toInt64) = 0 then
        fc_11_959 fu a1 a2 a3 a4 a5 S_932
      else
        some (S_932, (0 : Int32))
    else
      fc_11_959 fu a1 a2 a3 a4 a5 S_932
  else
    some (S_932, (0 : Int32))
set_option maxHeartbeats 4000000 in
set_option maxRecDepth 100000 in
theorem lc_11 {p : Program} {l : Launch} {e : Env} {s : State} {m : MethodId} {below : List Frame} {meth : Method} {c : Code} {Q : State → Prop} {D : va_G} {cA : FieldType → ClassId} {ad : Nat → Nat} {base b L0 : Nat} {xs : Nat → Int32} (hlt : l.stackTraces = false) (C : CX D cA base RL cL_law 7 p s m #[Value.ref b] c) (hX : va_X b L0 xs s s.heap) (hbl : b < s.heap.size) (hbB : ¬ aB base b) {x4 a1 a2 a3 a4 a5 : Int32} (h_in1 : vp_in (x4 + 1) L0) (h_in2 : vp_in (x4 + 2) L0) (h_in3 : vp_in (x4 + 3) L0) (h_in4 : vp_in (x4 + 4) L0) (h_in5 : vp_in (x4 + 5) L0) (ha1 : xs (x4 + 1).toNatClampNeg = a1) (ha2 : xs (x4 + 2).toNatClampNeg = a2) (ha3 : xs (x4 + 3).toNatClampNeg = a3) (ha4 : xs (x4 + 4).toNatClampNeg = a4) (ha5 : xs (x4 + 5).toNatClampNeg = a5) {c0 s0 : Nat} (hc0 : c0 + 1 ≤ room_1.cells) (hs0 : s0 + 6 ≤ room_1.slots) {fu : Nat} {S S' : St} (hf : fc_11 fu a1 a2 a3 a4 a5 S = some (S', (1 : Int32)))
    (kk : ∀ (H : Heap) (locs : List Loc) (ls : Array Slot), WS D cA ad base s S' H locs → lv_has ls 7 [(0, .ref b), (1, .ref (ad 0)), (2, .ref (ad 63)), (3, .ref (ad 106)), (4, .int x4)] → W p l e room_1 s m #[Value.ref b] below meth c H locs (c0 + 1) (s0 + 6) Q (F0 m 1554 ls []))
    {H : Heap} {locs : List Loc} {ls : Array Slot} (hw : WS D cA ad base s S H locs) (hl : lv_has ls 7 [(0, .ref b), (1, .ref (ad 0)), (2, .ref (ad 63)), (3, .ref (ad 106)), (4, .int x4)]) : W p l e room_1 s m #[Value.ref b] below meth c H locs c0 s0 Q (F0 m 882 ls []) := by
  have hx := C.1
  have hb := C.2.1
  have hc1 : c0 ≤ room_1.cells := by omega
  have hs1 : s0 ≤ room_1.slots := by omega
  have J_959 : ∀ (S : St) (H : Heap) (locs : List Loc) (ls : Array Slot), fc_11_959 fu a1 a2 a3 a4 a5 S = some (S', (1 : Int32)) → lv_has ls 7 [(0, .ref b), (1, .ref (ad 0)), (2, .ref (ad 63)), (3, .ref (ad 106)), (4, .int x4)] → WS D cA ad base s S H locs → W p l e room_1 s m #[Value.ref b] below meth c H locs (c0 + 1) (s0 + 6) Q (F0 m 959 ls []) := by
    intro  S H locs ls hf hl hw
    refine lv_goto (tgt := 1554) hx hb dL_law_959 (by decide) ?_
    exact kk _ _ _ (by cases hf; exact hw) (lv_sub hl [0, 1, 2, 3, 4] rfl)
  refine lv_aload_n hx hb dL_law_882 rfl (lv_at hl 1 rfl) ?_
  refine lv_aload_n hx hb dL_law_883 rfl (lv_at hl 0 rfl) ?_
  refine lv_iload hx hb dL_law_884 (lv_at hl 4 rfl) ?_
  refine lv_iconst (v := (1 : Int32)) hx hb dL_law_886 (by decide) ?_
  refine lv_iadd hx hb dL_law_887 ?_
  refine r_sld C hw hX hbl hbB h_in1 ha1 dL_law_888 ?_
  refine lv_aload_n hx hb dL_law_889 rfl (lv_at hl 0 rfl) ?_
  refine lv_iload hx hb dL_law_890 (lv_at hl 4 rfl) ?_
  refine lv_iconst (v := (2 : Int32)) hx hb dL_law_892 (by decide) ?_
  refine lv_iadd hx hb dL_law_893 ?_
  refine r_sld C hw hX hbl hbB h_in2 ha2 dL_law_894 ?_
  refine lv_aload_n hx hb dL_law_895 rfl (lv_at hl 0 rfl) ?_
  refine lv_iload hx hb dL_law_896 (lv_at hl 4 rfl) ?_
  refine lv_iconst (v := (3 : Int32)) hx hb dL_law_898 (by decide) ?_
  refine lv_iadd hx hb dL_law_899 ?_
  refine r_sld C hw hX hbl hbB h_in3 ha3 dL_law_900 ?_
  refine lv_aload_n hx hb dL_law_901 rfl (lv_at hl 3 rfl) ?_
  obtain ⟨S_902, r_902, h_902, hf⟩ := bd_some hf
  refine r_biW hw (r_runSW (rest := []) C hw (m_L_say l hlt D cA ad base fu h_902) msL_say gw4_170 ⟨rfl, rfl, Nat.le_of_ble_eq_true rfl, Nat.le_of_ble_eq_true rfl⟩ rfl hl.1 rfl (Nat.le_of_ble_eq_true rfl) dL_law_902 hc0 hs0) (fun H locs hw => ?_)
  refine lv_istore (lv' := [(5, .int r_902), (0, .ref b), (1, .ref (ad 0)), (2, .ref (ad 63)), (3, .ref (ad 106)), (4, .int x4)]) hx hb dL_law_905 hl (by decide) rfl (fun ls hl => ?_)
  refine lv_aload_n hx hb dL_law_907 rfl (lv_at hl 3 rfl) ?_
  refine lv_aload_n hx hb dL_law_908 rfl (lv_at hl 1 rfl) ?_
  refine lv_iload hx hb dL_law_909 (lv_at hl 5 rfl) ?_
  refine lv_iconst (v := (1 : Int32)) hx hb dL_law_911 (by decide) ?_
  refine lv_iadd hx hb dL_law_912 ?_
  refine r_sld C hw hX hbl hbB h_in1 ha1 dL_law_913 ?_
  refine lv_aload_n hx hb dL_law_914 rfl (lv_at hl 1 rfl) ?_
  refine lv_iload hx hb dL_law_915 (lv_at hl 5 rfl) ?_
  refine lv_iconst (v := (2 : Int32)) hx hb dL_law_917 (by decide) ?_
  refine lv_iadd hx hb dL_law_918 ?_
  refine r_sld C hw hX hbl hbB h_in2 ha2 dL_law_919 ?_
  refine lv_aload_n hx hb dL_law_920 rfl (lv_at hl 1 rfl) ?_
  refine lv_iload hx hb dL_law_921 (lv_at hl 5 rfl) ?_
  refine lv_iconst (v := (3 : Int32)) hx hb dL_law_923 (by decide) ?_
  refine lv_iadd hx hb dL_law_924 ?_
  refine r_sld C hw hX hbl hbB h_in3 ha3 dL_law_925 ?_
  obtain ⟨S_926, r_926, h_926, hf⟩ := bd_some hf
  refine r_bi hw (r_runV (rest := []) C hw (m_X12_say l D cA ad base fu h_926) mvX12_say gw8_40 ⟨rfl, rfl, Nat.le_of_ble_eq_true rfl, Nat.le_of_ble_eq_true rfl⟩ dq_63 ln_63 vc_12 rfl hl.1 rfl (Nat.le_of_ble_eq_true rfl) dL_law_926 hc0 hs0) (fun H locs hw => ?_)
  refine lv_istore (lv' := [(6, .int r_926), (5, .int r_902), (0, .ref b), (1, .ref (ad 0)), (2, .ref (ad 63)), (3, .ref (ad 106)), (4, .int x4)]) hx hb dL_law_929 hl (by decide) rfl (fun ls hl => ?_)
  refine lv_aload_n hx hb dL_law_931 rfl (lv_at hl 4 rfl) ?_
  obtain ⟨S_932, r_932, h_932, hf⟩ := bd_some hf
  refine r_bi hw (r_runV (rest := []) C hw (m_X12_thrown l D cA ad base fu h_932) mvX12_thrown gw7_162 ⟨rfl, rfl, Nat.le_of_ble_eq_true rfl, Nat.le_of_ble_eq_true rfl⟩ dq_63 ln_63 vc_12 rfl hl.1 rfl (Nat.le_of_ble_eq_true rfl) dL_law_932 hc0 hs0) (fun H locs hw => ?_)
  refine lv_iload hx hb dL_law_935 (lv_at hl 1 rfl) ?_
  refine lv_icmp_eq (tgt := 942) hx hb dL_law_937 (by decide) (fun c_937 => ?_) (fun c_937 => ?_)
  · have hf := if_t hf c_937
    refine lv_iload hx hb dL_law_942 (lv_at hl 1 rfl) ?_
    refine lv_if_ne (tgt := 959) hx hb dL_law_944 (by decide) (fun c_944 => ?_) (fun c_944 => ?_)
    · have hf := if_f hf c_944
      exact J_959 _ _ _ _ hf (lv_sub hl [2, 3, 4, 5, 6] rfl) hw
    · have hf := if_t hf c_944
      refine lv_aload_n hx hb dL_law_947 rfl (lv_at hl 5 rfl) ?_
      refine lv_iconst (v := (0 : Int32)) hx hb dL_law_948 (by decide) ?_
      obtain ⟨z_949, hf⟩ := gd_some hf
      refine r_lald C hw (x := 106) dq_106 ln_106 z_949 dL_law_949 ?_
      refine lv_iload hx hb dL_law_950 (lv_at hl 0 rfl) ?_
      refine lv_i2l hx hb dL_law_952 rfl ?_
      refine W.lcmp hx hb dL_law_953 ?_
      refine lv_if_eq (tgt := 959) hx hb dL_law_954 (by decide) (fun c_954 => ?_) (fun c_954 => ?_)
      · have hf := if_t hf c_954
        exact J_959 _ _ _ _ hf (lv_sub hl [2, 3, 4, 5, 6] rfl) hw
      · have hf := if_f hf c_954
        refine lv_iconst (v := (0 : Int32)) hx hb dL_law_957 (by decide) ?_
        exact absurd hf no01
  · have hf := if_f hf c_937
    refine lv_iconst (v := (0 : Int32)) hx hb dL_law_940 (by decide) ?_
    exact absurd hf no01
noncomputable def fc_12 (fu : Nat) (a1 a2 a3 a4 a5 : Int32) (S : St) : Option (St × Int32) :=
  bd (fX11_parse fu S) fun S_963 r_963 =>
  bd (fX12_parse fu S_963) fun S_967 r_967 =>
  if r_963 = r_967 then
    some (S_967, (1 : Int32))
  else
    some (S_967, (0 : Int32))
set_option maxHeartbeats 4000000 in
set_option maxRecDepth 100000 in
theorem lc_12 {p : Program} {l : Launch} {e : Env} {s : State} {m : MethodId} {below : List Frame} {meth : Method} {c : Code} {Q : State → Prop} {D : va_G} {cA : FieldType → ClassId} {ad : Nat → Nat} {base b L0 : Nat} {xs : Nat → Int32} (hlt : l.stackTraces = false) (C : CX D cA base RL cL_law 7 p s m #[Value.ref b] c) (hX : va_X b L0 xs s s.heap) (hbl : b < s.heap.size) (hbB : ¬ aB base b) {x4 a1 a2 a3 a4 a5 : Int32} (h_in1 : vp_in (x4 + 1) L0) (h_in2 : vp_in (x4 + 2) L0) (h_in3 : vp_in (x4 + 3) L0) (h_in4 : vp_in (x4 + 4) L0) (h_in5 : vp_in (x4 + 5) L0) (ha1 : xs (x4 + 1).toNatClampNeg = a1) (ha2 : xs (x4 + 2).toNatClampNeg = a2) (ha3 : xs (x4 + 3).toNatClampNeg = a3) (ha4 : xs (x4 + 4).toNatClampNeg = a4) (ha5 : xs (x4 + 5).toNatClampNeg = a5) {c0 s0 : Nat} (hc0 : c0 + 1 ≤ room_1.cells) (hs0 : s0 + 6 ≤ room_1.slots) {fu : Nat} {S S' : St} (hf : fc_12 fu a1 a2 a3 a4 a5 S = some (S', (1 : Int32)))
    (kk : ∀ (H : Heap) (locs : List Loc) (ls : Array Slot), WS D cA ad base s S' H locs → lv_has ls 7 [(0, .ref b), (1, .ref (ad 0)), (2, .ref (ad 63)), (3, .ref (ad 106)), (4, .int x4)] → W p l e room_1 s m #[Value.ref b] below meth c H locs (c0 + 1) (s0 + 6) Q (F0 m 1554 ls []))
    {H : Heap} {locs : List Loc} {ls : Array Slot} (hw : WS D cA ad base s S H locs) (hl : lv_has ls 7 [(0, .ref b), (1, .ref (ad 0)), (2, .ref (ad 63)), (3, .ref (ad 106)), (4, .int x4)]) : W p l e room_1 s m #[Value.ref b] below meth c H locs c0 s0 Q (F0 m 962 ls []) := by
  have hx := C.1
  have hb := C.2.1
  have hc1 : c0 ≤ room_1.cells := by omega
  have hs1 : s0 ≤ room_1.slots := by omega
  refine lv_aload_n hx hb dL_law_962 rfl (lv_at hl 1 rfl) ?_
  obtain ⟨S_963, r_963, h_963, hf⟩ := bd_some hf
  refine r_bi hw (r_runV (rest := []) C hw (m_X11_parse l D cA ad base fu h_963) mvX11_parse gw2_176 ⟨rfl, rfl, Nat.le_of_ble_eq_true rfl, Nat.le_of_ble_eq_true rfl⟩ dq_0 ln_0 vc_11 rfl hl.1 rfl (Nat.le_of_ble_eq_true rfl) dL_law_963 hc1 hs1) (fun H locs hw => ?_)
  refine lv_aload_n hx hb dL_law_966 rfl (lv_at hl 2 rfl) ?_
  obtain ⟨S_967, r_967, h_967, hf⟩ := bd_some hf
  refine r_bi hw (r_runV (rest := [.int r_963]) C hw (m_X12_parse l D cA ad base fu h_967) mvX12_parse gw8_110 ⟨rfl, rfl, Nat.le_of_ble_eq_true rfl, Nat.le_of_ble_eq_true rfl⟩ dq_63 ln_63 vc_12 rfl hl.1 rfl (Nat.le_of_ble_eq_true rfl) dL_law_967 hc1 hs1) (fun H locs hw => ?_)
  refine lv_icmp_eq (tgt := 1554) hx hb dL_law_970 (by decide) (fun c_970 => ?_) (fun c_970 => ?_)
  · have hf := if_t hf c_970
    refine W.widen (k := c0 + 1) (n := s0 + 6) (by omega) (by omega) ?_
    exact kk _ _ _ (by cases hf; exact hw) (lv_sub hl [0, 1, 2, 3, 4] rfl)
  · have hf := if_f hf c_970
    refine lv_iconst (v := (0 : Int32)) hx hb dL_law_973 (by decide) ?_
    exact absurd hf no01
noncomputable def fc_13_1040 (fu : Nat) (a1 a2 a3 a4 a5 : Int32) (S : St) : Option (St × Int32) :=
  some (S, (1 : Int32))
noncomputable def fc_13 (fu : Nat) (a1 a2 a3 a4 a5 : Int32) (S : St) : Option (St × Int32) :=
  bd (fL_parsed fu a1 a2 S) fun S_989 r_989 =>
  bd (fX12_parsed fu a1 a2 S_989) fun S_1007 r_1007 =>
  bd (fX12_thrown fu S_1007) fun S_1013 r_1013 =>
  if r_1013 = r_989 then
    if r_989 = 0 then
      gd (ck (0 : Int32) 1) <|
      if (lg_cmp (S_1013.2 106 ((0 : Int32)).toNatClampNeg) (r_1007).toInt64) = 0 then
        fc_13_1040 fu a1 a2 a3 a4 a5 S_1013
      else
        some (S_1013, (0 : Int32))
    else
      fc_13_1040 fu a1 a2 a3 a4 a5 S_1013
  else
    some (S_1013, (0 : Int32))
set_option maxHeartbeats 4000000 in
set_option maxRecDepth 100000 in
theorem lc_13 {p : Program} {l : Launch} {e : Env} {s : State} {m : MethodId} {below : List Frame} {meth : Method} {c : Code} {Q : State → Prop} {D : va_G} {cA : FieldType → ClassId} {ad : Nat → Nat} {base b L0 : Nat} {xs : Nat → Int32} (hlt : l.stackTraces = false) (C : CX D cA base RL cL_law 7 p s m #[Value.ref b] c) (hX : va_X b L0 xs s s.heap) (hbl : b < s.heap.size) (hbB : ¬ aB base b) {x4 a1 a2 a3 a4 a5 : Int32} (h_in1 : vp_in (x4 + 1) L0) (h_in2 : vp_in (x4 + 2) L0) (h_in3 : vp_in (x4 + 3) L0) (h_in4 : vp_in (x4 + 4) L0) (h_in5 : vp_in (x4 + 5) L0) (ha1 : xs (x4 + 1).toNatClampNeg = a1) (ha2 : xs (x4 + 2).toNatClampNeg = a2) (ha3 : xs (x4 + 3).toNatClampNeg = a3) (ha4 : xs (x4 + 4).toNatClampNeg = a4) (ha5 : xs (x4 + 5).toNatClampNeg = a5) {c0 s0 : Nat} (hc0 : c0 + 1 ≤ room_1.cells) (hs0 : s0 + 6 ≤ room_1.slots) {fu : Nat} {S S' : St} (hf : fc_13 fu a1 a2 a3 a4 a5 S = some (S', (1 : Int32)))
    (kk : ∀ (H : Heap) (locs : List Loc) (ls : Array Slot), WS D cA ad base s S' H locs → lv_has ls 7 [(0, .ref b), (1, .ref (ad 0)), (2, .ref (ad 63)), (3, .ref (ad 106)), (4, .int x4)] → W p l e room_1 s m #[Value.ref b] below meth c H locs (c0 + 1) (s0 + 6) Q (F0 m 1554 ls []))
    {H : Heap} {locs : List Loc} {ls : Array Slot} (hw : WS D cA ad base s S H locs) (hl : lv_has ls 7 [(0, .ref b), (1, .ref (ad 0)), (2, .ref (ad 63)), (3, .ref (ad 106)), (4, .int x4)]) : W p l e room_1 s m #[Value.ref b] below meth c H locs c0 s0 Q (F0 m 975 ls []) := by
  have hx := C.1
  have hb := C.2.1
  have hc1 : c0 ≤ room_1.cells := by omega
  have hs1 : s0 ≤ room_1.slots := by omega
  have J_1040 : ∀ (S : St) (H : Heap) (locs : List Loc) (ls : Array Slot), fc_13_1040 fu a1 a2 a3 a4 a5 S = some (S', (1 : Int32)) → lv_has ls 7 [(0, .ref b), (1, .ref (ad 0)), (2, .ref (ad 63)), (3, .ref (ad 106)), (4, .int x4)] → WS D cA ad base s S H locs → W p l e room_1 s m #[Value.ref b] below meth c H locs (c0 + 1) (s0 + 6) Q (F0 m 1040 ls []) := by
    intro  S H locs ls hf hl hw
    refine lv_goto (tgt := 1554) hx hb dL_law_1040 (by decide) ?_
    exact kk _ _ _ (by cases hf; exact hw) (lv_sub hl [0, 1, 2, 3, 4] rfl)
  refine lv_aload_n hx hb dL_law_975 rfl (lv_at hl 1 rfl) ?_
  refine lv_aload_n hx hb dL_law_976 rfl (lv_at hl 0 rfl) ?_
  refine lv_iload hx hb dL_law_977 (lv_at hl 4 rfl) ?_
  refine lv_iconst (v := (1 : Int32)) hx hb dL_law_979 (by decide) ?_
  refine lv_iadd hx hb dL_law_980 ?_
  refine r_sld C hw hX hbl hbB h_in1 ha1 dL_law_981 ?_
  refine lv_aload_n hx hb dL_law_982 rfl (lv_at hl 0 rfl) ?_
  refine lv_iload hx hb dL_law_983 (lv_at hl 4 rfl) ?_
  refine lv_iconst (v := (2 : Int32)) hx hb dL_law_985 (by decide) ?_
  refine lv_iadd hx hb dL_law_986 ?_
  refine r_sld C hw hX hbl hbB h_in2 ha2 dL_law_987 ?_
  refine lv_aload_n hx hb dL_law_988 rfl (lv_at hl 3 rfl) ?_
  obtain ⟨S_989, r_989, h_989, hf⟩ := bd_some hf
  refine r_biW hw (r_runSW (rest := []) C hw (m_L_parsed l hlt D cA ad base fu h_989) msL_parsed gw5_40 ⟨rfl, rfl, Nat.le_of_ble_eq_true rfl, Nat.le_of_ble_eq_true rfl⟩ rfl hl.1 rfl (Nat.le_of_ble_eq_true rfl) dL_law_989 hc0 hs0) (fun H locs hw => ?_)
  refine lv_istore (lv' := [(5, .int r_989), (0, .ref b), (1, .ref (ad 0)), (2, .ref (ad 63)), (3, .ref (ad 106)), (4, .int x4)]) hx hb dL_law_992 hl (by decide) rfl (fun ls hl => ?_)
  refine lv_aload_n hx hb dL_law_994 rfl (lv_at hl 3 rfl) ?_
  refine lv_aload_n hx hb dL_law_995 rfl (lv_at hl 1 rfl) ?_
  refine lv_iload hx hb dL_law_996 (lv_at hl 5 rfl) ?_
  refine lv_iconst (v := (1 : Int32)) hx hb dL_law_998 (by decide) ?_
  refine lv_iadd hx hb dL_law_999 ?_
  refine r_sld C hw hX hbl hbB h_in1 ha1 dL_law_1000 ?_
  refine lv_aload_n hx hb dL_law_1001 rfl (lv_at hl 1 rfl) ?_
  refine lv_iload hx hb dL_law_1002 (lv_at hl 5 rfl) ?_
  refine lv_iconst (v := (2 : Int32)) hx hb dL_law_1004 (by decide) ?_
  refine lv_iadd hx hb dL_law_1005 ?_
  refine r_sld C hw hX hbl hbB h_in2 ha2 dL_law_1006 ?_
  obtain ⟨S_1007, r_1007, h_1007, hf⟩ := bd_some hf
  refine r_bi hw (r_runV (rest := []) C hw (m_X12_parsed l D cA ad base fu h_1007) mvX12_parsed gw8_148 ⟨rfl, rfl, Nat.le_of_ble_eq_true rfl, Nat.le_of_ble_eq_true rfl⟩ dq_63 ln_63 vc_12 rfl hl.1 rfl (Nat.le_of_ble_eq_true rfl) dL_law_1007 hc0 hs0) (fun H locs hw => ?_)
  refine lv_istore (lv' := [(6, .int r_1007), (5, .int r_989), (0, .ref b), (1, .ref (ad 0)), (2, .ref (ad 63)), (3, .ref (ad 106)), (4, .int x4)]) hx hb dL_law_1010 hl (by decide) rfl (fun ls hl => ?_)
  refine lv_aload_n hx hb dL_law_1012 rfl (lv_at hl 4 rfl) ?_
  obtain ⟨S_1013, r_1013, h_1013, hf⟩ := bd_some hf
  refine r_bi hw (r_runV (rest := []) C hw (m_X12_thrown l D cA ad base fu h_1013) mvX12_thrown gw7_162 ⟨rfl, rfl, Nat.le_of_ble_eq_true rfl, Nat.le_of_ble_eq_true rfl⟩ dq_63 ln_63 vc_12 rfl hl.1 rfl (Nat.le_of_ble_eq_true rfl) dL_law_1013 hc0 hs0) (fun H locs hw => ?_)
  refine lv_iload hx hb dL_law_1016 (lv_at hl 1 rfl) ?_
  refine lv_icmp_eq (tgt := 1023) hx hb dL_law_1018 (by decide) (fun c_1018 => ?_) (fun c_1018 => ?_)
  · have hf := if_t hf c_1018
    refine lv_iload hx hb dL_law_1023 (lv_at hl 1 rfl) ?_
    refine lv_if_ne (tgt := 1040) hx hb dL_law_1025 (by decide) (fun c_1025 => ?_) (fun c_1025 => ?_)
    · have hf := if_f hf c_1025
      exact J_1040 _ _ _ _ hf (lv_sub hl [2, 3, 4, 5, 6] rfl) hw
    · have hf := if_t hf c_1025
      refine lv_aload_n hx hb dL_law_1028 rfl (lv_at hl 5 rfl) ?_
      refine lv_iconst (v := (0 : Int32)) hx hb dL_law_1029 (by decide) ?_
      obtain ⟨z_1030, hf⟩ := gd_some hf
      refine r_lald C hw (x := 106) dq_106 ln_106 z_1030 dL_law_1030 ?_
      refine lv_iload hx hb dL_law_1031 (lv_at hl 0 rfl) ?_
      refine lv_i2l hx hb dL_law_1033 rfl ?_
      refine W.lcmp hx hb dL_law_1034 ?_
      refine lv_if_eq (tgt := 1040) hx hb dL_law_1035 (by decide) (fun c_1035 => ?_) (fun c_1035 => ?_)
      · have hf := if_t hf c_1035
        exact J_1040 _ _ _ _ hf (lv_sub hl [2, 3, 4, 5, 6] rfl) hw
      · have hf := if_f hf c_1035
        refine lv_iconst (v := (0 : Int32)) hx hb dL_law_1038 (by decide) ?_
        exact absurd hf no01
  · have hf := if_f hf c_1018
    refine lv_iconst (v := (0 : Int32)) hx hb dL_law_1021 (by decide) ?_
    exact absurd hf no01
noncomputable def fc_14 (fu : Nat) (a1 a2 a3 a4 a5 : Int32) (S : St) : Option (St × Int32) :=
  bd (fX11_hint fu a1 S) fun S_1050 r_1050 =>
  bd (fX12_hint fu a1 S_1050) fun S_1060 r_1060 =>
  if r_1050 = r_1060 then
    some (S_1060, (1 : Int32))
  else
    some (S_1060, (0 : Int32))
set_option maxHeartbeats 4000000 in
set_option maxRecDepth 100000 in
theorem lc_14 {p : Program} {l : Launch} {e : Env} {s : State} {m : MethodId} {below : List Frame} {meth : Method} {c : Code} {Q : State → Prop} {D : va_G} {cA : FieldType → ClassId} {ad : Nat → Nat} {base b L0 : Nat} {xs : Nat → Int32} (hlt : l.stackTraces = false) (C : CX D cA base RL cL_law 7 p s m #[Value.ref b] c) (hX : va_X b L0 xs s s.heap) (hbl : b < s.heap.size) (hbB : ¬ aB base b) {x4 a1 a2 a3 a4 a5 : Int32} (h_in1 : vp_in (x4 + 1) L0) (h_in2 : vp_in (x4 + 2) L0) (h_in3 : vp_in (x4 + 3) L0) (h_in4 : vp_in (x4 + 4) L0) (h_in5 : vp_in (x4 + 5) L0) (ha1 : xs (x4 + 1).toNatClampNeg = a1) (ha2 : xs (x4 + 2).toNatClampNeg = a2) (ha3 : xs (x4 + 3).toNatClampNeg = a3) (ha4 : xs (x4 + 4).toNatClampNeg = a4) (ha5 : xs (x4 + 5).toNatClampNeg = a5) {c0 s0 : Nat} (hc0 : c0 + 1 ≤ room_1.cells) (hs0 : s0 + 6 ≤ room_1.slots) {fu : Nat} {S S' : St} (hf : fc_14 fu a1 a2 a3 a4 a5 S = some (S', (1 : Int32)))
    (kk : ∀ (H : Heap) (locs : List Loc) (ls : Array Slot), WS D cA ad base s S' H locs → lv_has ls 7 [(0, .ref b), (1, .ref (ad 0)), (2, .ref (ad 63)), (3, .ref (ad 106)), (4, .int x4)] → W p l e room_1 s m #[Value.ref b] below meth c H locs (c0 + 1) (s0 + 6) Q (F0 m 1554 ls []))
    {H : Heap} {locs : List Loc} {ls : Array Slot} (hw : WS D cA ad base s S H locs) (hl : lv_has ls 7 [(0, .ref b), (1, .ref (ad 0)), (2, .ref (ad 63)), (3, .ref (ad 106)), (4, .int x4)]) : W p l e room_1 s m #[Value.ref b] below meth c H locs c0 s0 Q (F0 m 1043 ls []) := by
  have hx := C.1
  have hb := C.2.1
  have hc1 : c0 ≤ room_1.cells := by omega
  have hs1 : s0 ≤ room_1.slots := by omega
  refine lv_aload_n hx hb dL_law_1043 rfl (lv_at hl 1 rfl) ?_
  refine lv_aload_n hx hb dL_law_1044 rfl (lv_at hl 0 rfl) ?_
  refine lv_iload hx hb dL_law_1045 (lv_at hl 4 rfl) ?_
  refine lv_iconst (v := (1 : Int32)) hx hb dL_law_1047 (by decide) ?_
  refine lv_iadd hx hb dL_law_1048 ?_
  refine r_sld C hw hX hbl hbB h_in1 ha1 dL_law_1049 ?_
  obtain ⟨S_1050, r_1050, h_1050, hf⟩ := bd_some hf
  refine r_bi hw (r_runV (rest := []) C hw (m_X11_hint l D cA ad base fu h_1050) mvX11_hint gw3_51 ⟨rfl, rfl, Nat.le_of_ble_eq_true rfl, Nat.le_of_ble_eq_true rfl⟩ dq_0 ln_0 vc_11 rfl hl.1 rfl (Nat.le_of_ble_eq_true rfl) dL_law_1050 hc1 hs1) (fun H locs hw => ?_)
  refine lv_aload_n hx hb dL_law_1053 rfl (lv_at hl 2 rfl) ?_
  refine lv_aload_n hx hb dL_law_1054 rfl (lv_at hl 0 rfl) ?_
  refine lv_iload hx hb dL_law_1055 (lv_at hl 4 rfl) ?_
  refine lv_iconst (v := (1 : Int32)) hx hb dL_law_1057 (by decide) ?_
  refine lv_iadd hx hb dL_law_1058 ?_
  refine r_sld C hw hX hbl hbB h_in1 ha1 dL_law_1059 ?_
  obtain ⟨S_1060, r_1060, h_1060, hf⟩ := bd_some hf
  refine r_bi hw (r_runV (rest := [.int r_1050]) C hw (m_X12_hint l D cA ad base fu h_1060) mvX12_hint gw8_36 ⟨rfl, rfl, Nat.le_of_ble_eq_true rfl, Nat.le_of_ble_eq_true rfl⟩ dq_63 ln_63 vc_12 rfl hl.1 rfl (Nat.le_of_ble_eq_true rfl) dL_law_1060 hc1 hs1) (fun H locs hw => ?_)
  refine lv_icmp_eq (tgt := 1554) hx hb dL_law_1063 (by decide) (fun c_1063 => ?_) (fun c_1063 => ?_)
  · have hf := if_t hf c_1063
    refine W.widen (k := c0 + 1) (n := s0 + 6) (by omega) (by omega) ?_
    exact kk _ _ _ (by cases hf; exact hw) (lv_sub hl [0, 1, 2, 3, 4] rfl)
  · have hf := if_f hf c_1063
    refine lv_iconst (v := (0 : Int32)) hx hb dL_law_1066 (by decide) ?_
    exact absurd hf no01
noncomputable def fc_15_1121 (fu : Nat) (a1 a2 a3 a4 a5 : Int32) (S : St) : Option (St × Int32) :=
  some (S, (1 : Int32))
noncomputable def fc_15 (fu : Nat) (a1 a2 a3 a4 a5 : Int32) (S : St) : Option (St × Int32) :=
  bd (fL_tick fu a1 S) fun S_1076 r_1076 =>
  bd (fX12_tick fu a1 S_1076) fun S_1088 r_1088 =>
  bd (fX12_thrown fu S_1088) fun S_1094 r_1094 =>
  if r_1094 = r_1076 then
    if r_1076 = 0 then
      gd (ck (0 : Int32) 1) <|
      if (lg_cmp (S_1094.2 106 ((0 : Int32)).toNatClampNeg) (r_1088).toInt64) = 0 then
        fc_15_1121 fu a1 a2 a3 a4 a5 S_1094
      else
        some (S_1094, (0 : Int32))
    else
      fc_15_1121 fu a1 a2 a3 a4 a5 S_1094
  else
    some (S_1094, (0 : Int32))
set_option maxHeartbeats 4000000 in
set_option maxRecDepth 100000 in
theorem lc_15 {p : Program} {l : Launch} {e : Env} {s : State} {m : MethodId} {below : List Frame} {meth : Method} {c : Code} {Q : State → Prop} {D : va_G} {cA : FieldType → ClassId} {ad : Nat → Nat} {base b L0 : Nat} {xs : Nat → Int32} (hlt : l.stackTraces = false) (C : CX D cA base RL cL_law 7 p s m #[Value.ref b] c) (hX : va_X b L0 xs s s.heap) (hbl : b < s.heap.size) (hbB : ¬ aB base b) {x4 a1 a2 a3 a4 a5 : Int32} (h_in1 : vp_in (x4 + 1) L0) (h_in2 : vp_in (x4 + 2) L0) (h_in3 : vp_in (x4 + 3) L0) (h_in4 : vp_in (x4 + 4) L0) (h_in5 : vp_in (x4 + 5) L0) (ha1 : xs (x4 + 1).toNatClampNeg = a1) (ha2 : xs (x4 + 2).toNatClampNeg = a2) (ha3 : xs (x4 + 3).toNatClampNeg = a3) (ha4 : xs (x4 + 4).toNatClampNeg = a4) (ha5 : xs (x4 + 5).toNatClampNeg = a5) {c0 s0 : Nat} (hc0 : c0 + 1 ≤ room_1.cells) (hs0 : s0 + 6 ≤ room_1.slots) {fu : Nat} {S S' : St} (hf : fc_15 fu a1 a2 a3 a4 a5 S = some (S', (1 : Int32)))
    (kk : ∀ (H : Heap) (locs : List Loc) (ls : Array Slot), WS D cA ad base s S' H locs → lv_has ls 7 [(0, .ref b), (1, .ref (ad 0)), (2, .ref (ad 63)), (3, .ref (ad 106)), (4, .int x4)] → W p l e room_1 s m #[Value.ref b] below meth c H locs (c0 + 1) (s0 + 6) Q (F0 m 1554 ls []))
    {H : Heap} {locs : List Loc} {ls : Array Slot} (hw : WS D cA ad base s S H locs) (hl : lv_has ls 7 [(0, .ref b), (1, .ref (ad 0)), (2, .ref (ad 63)), (3, .ref (ad 106)), (4, .int x4)]) : W p l e room_1 s m #[Value.ref b] below meth c H locs c0 s0 Q (F0 m 1068 ls []) := by
  have hx := C.1
  have hb := C.2.1
  have hc1 : c0 ≤ room_1.cells := by omega
  have hs1 : s0 ≤ room_1.slots := by omega
  have J_1121 : ∀ (S : St) (H : Heap) (locs : List Loc) (ls : Array Slot), fc_15_1121 fu a1 a2 a3 a4 a5 S = some (S', (1 : Int32)) → lv_has ls 7 [(0, .ref b), (1, .ref (ad 0)), (2, .ref (ad 63)), (3, .ref (ad 106)), (4, .int x4)] → WS D cA ad base s S H locs → W p l e room_1 s m #[Value.ref b] below meth c H locs (c0 + 1) (s0 + 6) Q (F0 m 1121 ls []) := by
    intro  S H locs ls hf hl hw
    refine lv_goto (tgt := 1554) hx hb dL_law_1121 (by decide) ?_
    exact kk _ _ _ (by cases hf; exact hw) (lv_sub hl [0, 1, 2, 3, 4] rfl)
  refine lv_aload_n hx hb dL_law_1068 rfl (lv_at hl 1 rfl) ?_
  refine lv_aload_n hx hb dL_law_1069 rfl (lv_at hl 0 rfl) ?_
  refine lv_iload hx hb dL_law_1070 (lv_at hl 4 rfl) ?_
  refine lv_iconst (v := (1 : Int32)) hx hb dL_law_1072 (by decide) ?_
  refine lv_iadd hx hb dL_law_1073 ?_
  refine r_sld C hw hX hbl hbB h_in1 ha1 dL_law_1074 ?_
  refine lv_aload_n hx hb dL_law_1075 rfl (lv_at hl 3 rfl) ?_
  obtain ⟨S_1076, r_1076, h_1076, hf⟩ := bd_some hf
  refine r_biW hw (r_runSW (rest := []) C hw (m_L_tick l hlt D cA ad base fu h_1076) msL_tick gw5_74 ⟨rfl, rfl, Nat.le_of_ble_eq_true rfl, Nat.le_of_ble_eq_true rfl⟩ rfl hl.1 rfl (Nat.le_of_ble_eq_true rfl) dL_law_1076 hc0 hs0) (fun H locs hw => ?_)
  refine lv_istore (lv' := [(5, .int r_1076), (0, .ref b), (1, .ref (ad 0)), (2, .ref (ad 63)), (3, .ref (ad 106)), (4, .int x4)]) hx hb dL_law_1079 hl (by decide) rfl (fun ls hl => ?_)
  refine lv_aload_n hx hb dL_law_1081 rfl (lv_at hl 3 rfl) ?_
  refine lv_aload_n hx hb dL_law_1082 rfl (lv_at hl 1 rfl) ?_
  refine lv_iload hx hb dL_law_1083 (lv_at hl 5 rfl) ?_
  refine lv_iconst (v := (1 : Int32)) hx hb dL_law_1085 (by decide) ?_
  refine lv_iadd hx hb dL_law_1086 ?_
  refine r_sld C hw hX hbl hbB h_in1 ha1 dL_law_1087 ?_
  obtain ⟨S_1088, r_1088, h_1088, hf⟩ := bd_some hf
  refine r_bi hw (r_runV (rest := []) C hw (m_X12_tick l D cA ad base fu h_1088) mvX12_tick gw8_160 ⟨rfl, rfl, Nat.le_of_ble_eq_true rfl, Nat.le_of_ble_eq_true rfl⟩ dq_63 ln_63 vc_12 rfl hl.1 rfl (Nat.le_of_ble_eq_true rfl) dL_law_1088 hc0 hs0) (fun H locs hw => ?_)
  refine lv_istore (lv' := [(6, .int r_1088), (5, .int r_1076), (0, .ref b), (1, .ref (ad 0)), (2, .ref (ad 63)), (3, .ref (ad 106)), (4, .int x4)]) hx hb dL_law_1091 hl (by decide) rfl (fun ls hl => ?_)
  refine lv_aload_n hx hb dL_law_1093 rfl (lv_at hl 4 rfl) ?_
  obtain ⟨S_1094, r_1094, h_1094, hf⟩ := bd_some hf
  refine r_bi hw (r_runV (rest := []) C hw (m_X12_thrown l D cA ad base fu h_1094) mvX12_thrown gw7_162 ⟨rfl, rfl, Nat.le_of_ble_eq_true rfl, Nat.le_of_ble_eq_true rfl⟩ dq_63 ln_63 vc_12 rfl hl.1 rfl (Nat.le_of_ble_eq_true rfl) dL_law_1094 hc0 hs0) (fun H locs hw => ?_)
  refine lv_iload hx hb dL_law_1097 (lv_at hl 1 rfl) ?_
  refine lv_icmp_eq (tgt := 1104) hx hb dL_law_1099 (by decide) (fun c_1099 => ?_) (fun c_1099 => ?_)
  · have hf := if_t hf c_1099
    refine lv_iload hx hb dL_law_1104 (lv_at hl 1 rfl) ?_
    refine lv_if_ne (tgt := 1121) hx hb dL_law_1106 (by decide) (fun c_1106 => ?_) (fun c_1106 => ?_)
    · have hf := if_f hf c_1106
      exact J_1121 _ _ _ _ hf (lv_sub hl [2, 3, 4, 5, 6] rfl) hw
    · have hf := if_t hf c_1106
      refine lv_aload_n hx hb dL_law_1109 rfl (lv_at hl 5 rfl) ?_
      refine lv_iconst (v := (0 : Int32)) hx hb dL_law_1110 (by decide) ?_
      obtain ⟨z_1111, hf⟩ := gd_some hf
      refine r_lald C hw (x := 106) dq_106 ln_106 z_1111 dL_law_1111 ?_
      refine lv_iload hx hb dL_law_1112 (lv_at hl 0 rfl) ?_
      refine lv_i2l hx hb dL_law_1114 rfl ?_
      refine W.lcmp hx hb dL_law_1115 ?_
      refine lv_if_eq (tgt := 1121) hx hb dL_law_1116 (by decide) (fun c_1116 => ?_) (fun c_1116 => ?_)
      · have hf := if_t hf c_1116
        exact J_1121 _ _ _ _ hf (lv_sub hl [2, 3, 4, 5, 6] rfl) hw
      · have hf := if_f hf c_1116
        refine lv_iconst (v := (0 : Int32)) hx hb dL_law_1119 (by decide) ?_
        exact absurd hf no01
  · have hf := if_f hf c_1099
    refine lv_iconst (v := (0 : Int32)) hx hb dL_law_1102 (by decide) ?_
    exact absurd hf no01
noncomputable def fc_16_1189 (fu : Nat) (a1 a2 a3 a4 a5 : Int32) (S : St) : Option (St × Int32) :=
  some (S, (1 : Int32))
noncomputable def fc_16 (fu : Nat) (a1 a2 a3 a4 a5 : Int32) (S : St) : Option (St × Int32) :=
  bd (fL_ask fu a1 a2 S) fun S_1138 r_1138 =>
  bd (fX12_ask fu a1 a2 S_1138) fun S_1156 r_1156 =>
  bd (fX12_thrown fu S_1156) fun S_1162 r_1162 =>
  if r_1162 = r_1138 then
    if r_1138 = 0 then
      gd (ck (0 : Int32) 1) <|
      if (lg_cmp (S_1162.2 106 ((0 : Int32)).toNatClampNeg) (r_1156).toInt64) = 0 then
        fc_16_1189 fu a1 a2 a3 a4 a5 S_1162
      else
        some (S_1162, (0 : Int32))
    else
      fc_16_1189 fu a1 a2 a3 a4 a5 S_1162
  else
    some (S_1162, (0 : Int32))
set_option maxHeartbeats 4000000 in
set_option maxRecDepth 100000 in
theorem lc_16 {p : Program} {l : Launch} {e : Env} {s : State} {m : MethodId} {below : List Frame} {meth : Method} {c : Code} {Q : State → Prop} {D : va_G} {cA : FieldType → ClassId} {ad : Nat → Nat} {base b L0 : Nat} {xs : Nat → Int32} (hlt : l.stackTraces = false) (C : CX D cA base RL cL_law 7 p s m #[Value.ref b] c) (hX : va_X b L0 xs s s.heap) (hbl : b < s.heap.size) (hbB : ¬ aB base b) {x4 a1 a2 a3 a4 a5 : Int32} (h_in1 : vp_in (x4 + 1) L0) (h_in2 : vp_in (x4 + 2) L0) (h_in3 : vp_in (x4 + 3) L0) (h_in4 : vp_in (x4 + 4) L0) (h_in5 : vp_in (x4 + 5) L0) (ha1 : xs (x4 + 1).toNatClampNeg = a1) (ha2 : xs (x4 + 2).toNatClampNeg = a2) (ha3 : xs (x4 + 3).toNatClampNeg = a3) (ha4 : xs (x4 + 4).toNatClampNeg = a4) (ha5 : xs (x4 + 5).toNatClampNeg = a5) {c0 s0 : Nat} (hc0 : c0 + 1 ≤ room_1.cells) (hs0 : s0 + 6 ≤ room_1.slots) {fu : Nat} {S S' : St} (hf : fc_16 fu a1 a2 a3 a4 a5 S = some (S', (1 : Int32)))
    (kk : ∀ (H : Heap) (locs : List Loc) (ls : Array Slot), WS D cA ad base s S' H locs → lv_has ls 7 [(0, .ref b), (1, .ref (ad 0)), (2, .ref (ad 63)), (3, .ref (ad 106)), (4, .int x4)] → W p l e room_1 s m #[Value.ref b] below meth c H locs (c0 + 1) (s0 + 6) Q (F0 m 1554 ls []))
    {H : Heap} {locs : List Loc} {ls : Array Slot} (hw : WS D cA ad base s S H locs) (hl : lv_has ls 7 [(0, .ref b), (1, .ref (ad 0)), (2, .ref (ad 63)), (3, .ref (ad 106)), (4, .int x4)]) : W p l e room_1 s m #[Value.ref b] below meth c H locs c0 s0 Q (F0 m 1124 ls []) := by
  have hx := C.1
  have hb := C.2.1
  have hc1 : c0 ≤ room_1.cells := by omega
  have hs1 : s0 ≤ room_1.slots := by omega
  have J_1189 : ∀ (S : St) (H : Heap) (locs : List Loc) (ls : Array Slot), fc_16_1189 fu a1 a2 a3 a4 a5 S = some (S', (1 : Int32)) → lv_has ls 7 [(0, .ref b), (1, .ref (ad 0)), (2, .ref (ad 63)), (3, .ref (ad 106)), (4, .int x4)] → WS D cA ad base s S H locs → W p l e room_1 s m #[Value.ref b] below meth c H locs (c0 + 1) (s0 + 6) Q (F0 m 1189 ls []) := by
    intro  S H locs ls hf hl hw
    refine lv_goto (tgt := 1554) hx hb dL_law_1189 (by decide) ?_
    exact kk _ _ _ (by cases hf; exact hw) (lv_sub hl [0, 1, 2, 3, 4] rfl)
  refine lv_aload_n hx hb dL_law_1124 rfl (lv_at hl 1 rfl) ?_
  refine lv_aload_n hx hb dL_law_1125 rfl (lv_at hl 0 rfl) ?_
  refine lv_iload hx hb dL_law_1126 (lv_at hl 4 rfl) ?_
  refine lv_iconst (v := (1 : Int32)) hx hb dL_law_1128 (by decide) ?_
  refine lv_iadd hx hb dL_law_1129 ?_
  refine r_sld C hw hX hbl hbB h_in1 ha1 dL_law_1130 ?_
  refine lv_aload_n hx hb dL_law_1131 rfl (lv_at hl 0 rfl) ?_
  refine lv_iload hx hb dL_law_1132 (lv_at hl 4 rfl) ?_
  refine lv_iconst (v := (2 : Int32)) hx hb dL_law_1134 (by decide) ?_
  refine lv_iadd hx hb dL_law_1135 ?_
  refine r_sld C hw hX hbl hbB h_in2 ha2 dL_law_1136 ?_
  refine lv_aload_n hx hb dL_law_1137 rfl (lv_at hl 3 rfl) ?_
  obtain ⟨S_1138, r_1138, h_1138, hf⟩ := bd_some hf
  refine r_biW hw (r_runSW (rest := []) C hw (m_L_ask l hlt D cA ad base fu h_1138) msL_ask gw5_86 ⟨rfl, rfl, Nat.le_of_ble_eq_true rfl, Nat.le_of_ble_eq_true rfl⟩ rfl hl.1 rfl (Nat.le_of_ble_eq_true rfl) dL_law_1138 hc0 hs0) (fun H locs hw => ?_)
  refine lv_istore (lv' := [(5, .int r_1138), (0, .ref b), (1, .ref (ad 0)), (2, .ref (ad 63)), (3, .ref (ad 106)), (4, .int x4)]) hx hb dL_law_1141 hl (by decide) rfl (fun ls hl => ?_)
  refine lv_aload_n hx hb dL_law_1143 rfl (lv_at hl 3 rfl) ?_
  refine lv_aload_n hx hb dL_law_1144 rfl (lv_at hl 1 rfl) ?_
  refine lv_iload hx hb dL_law_1145 (lv_at hl 5 rfl) ?_
  refine lv_iconst (v := (1 : Int32)) hx hb dL_law_1147 (by decide) ?_
  refine lv_iadd hx hb dL_law_1148 ?_
  refine r_sld C hw hX hbl hbB h_in1 ha1 dL_law_1149 ?_
  refine lv_aload_n hx hb dL_law_1150 rfl (lv_at hl 1 rfl) ?_
  refine lv_iload hx hb dL_law_1151 (lv_at hl 5 rfl) ?_
  refine lv_iconst (v := (2 : Int32)) hx hb dL_law_1153 (by decide) ?_
  refine lv_iadd hx hb dL_law_1154 ?_
  refine r_sld C hw hX hbl hbB h_in2 ha2 dL_law_1155 ?_
  obtain ⟨S_1156, r_1156, h_1156, hf⟩ := bd_some hf
  refine r_bi hw (r_runV (rest := []) C hw (m_X12_ask l D cA ad base fu h_1156) mvX12_ask gw8_164 ⟨rfl, rfl, Nat.le_of_ble_eq_true rfl, Nat.le_of_ble_eq_true rfl⟩ dq_63 ln_63 vc_12 rfl hl.1 rfl (Nat.le_of_ble_eq_true rfl) dL_law_1156 hc0 hs0) (fun H locs hw => ?_)
  refine lv_istore (lv' := [(6, .int r_1156), (5, .int r_1138), (0, .ref b), (1, .ref (ad 0)), (2, .ref (ad 63)), (3, .ref (ad 106)), (4, .int x4)]) hx hb dL_law_1159 hl (by decide) rfl (fun ls hl => ?_)
  refine lv_aload_n hx hb dL_law_1161 rfl (lv_at hl 4 rfl) ?_
  obtain ⟨S_1162, r_1162, h_1162, hf⟩ := bd_some hf
  refine r_bi hw (r_runV (rest := []) C hw (m_X12_thrown l D cA ad base fu h_1162) mvX12_thrown gw7_162 ⟨rfl, rfl, Nat.le_of_ble_eq_true rfl, Nat.le_of_ble_eq_true rfl⟩ dq_63 ln_63 vc_12 rfl hl.1 rfl (Nat.le_of_ble_eq_true rfl) dL_law_1162 hc0 hs0) (fun H locs hw => ?_)
  refine lv_iload hx hb dL_law_1165 (lv_at hl 1 rfl) ?_
  refine lv_icmp_eq (tgt := 1172) hx hb dL_law_1167 (by decide) (fun c_1167 => ?_) (fun c_1167 => ?_)
  · have hf := if_t hf c_1167
    refine lv_iload hx hb dL_law_1172 (lv_at hl 1 rfl) ?_
    refine lv_if_ne (tgt := 1189) hx hb dL_law_1174 (by decide) (fun c_1174 => ?_) (fun c_1174 => ?_)
    · have hf := if_f hf c_1174
      exact J_1189 _ _ _ _ hf (lv_sub hl [2, 3, 4, 5, 6] rfl) hw
    · have hf := if_t hf c_1174
      refine lv_aload_n hx hb dL_law_1177 rfl (lv_at hl 5 rfl) ?_
      refine lv_iconst (v := (0 : Int32)) hx hb dL_law_1178 (by decide) ?_
      obtain ⟨z_1179, hf⟩ := gd_some hf
      refine r_lald C hw (x := 106) dq_106 ln_106 z_1179 dL_law_1179 ?_
      refine lv_iload hx hb dL_law_1180 (lv_at hl 0 rfl) ?_
      refine lv_i2l hx hb dL_law_1182 rfl ?_
      refine W.lcmp hx hb dL_law_1183 ?_
      refine lv_if_eq (tgt := 1189) hx hb dL_law_1184 (by decide) (fun c_1184 => ?_) (fun c_1184 => ?_)
      · have hf := if_t hf c_1184
        exact J_1189 _ _ _ _ hf (lv_sub hl [2, 3, 4, 5, 6] rfl) hw
      · have hf := if_f hf c_1184
        refine lv_iconst (v := (0 : Int32)) hx hb dL_law_1187 (by decide) ?_
        exact absurd hf no01
  · have hf := if_f hf c_1167
    refine lv_iconst (v := (0 : Int32)) hx hb dL_law_1170 (by decide) ?_
    exact absurd hf no01
noncomputable def fc_17_1233 (fu : Nat) (a1 a2 a3 a4 a5 : Int32) (S : St) : Option (St × Int32) :=
  some (S, (1 : Int32))
noncomputable def fc_17 (fu : Nat) (a1 a2 a3 a4 a5 : Int32) (S : St) : Option (St × Int32) :=
  bd (fL_step fu S) fun S_1194 r_1194 =>
  bd (fX12_step fu S_1194) fun S_1200 r_1200 =>
  bd (fX12_thrown fu S_1200) fun S_1206 r_1206 =>
  if r_1206 = r_1194 then
    if r_1194 = 0 then
      gd (ck (0 : Int32) 1) <|
      if (lg_cmp (S_1206.2 106 ((0 : Int32)).toNatClampNeg) (r_1200).toInt64) = 0 then
        fc_17_1233 fu a1 a2 a3 a4 a5 S_1206
      else
        some (S_1206, (0 : Int32))
    else
      fc_17_1233 fu a1 a2 a3 a4 a5 S_1206
  else
    some (S_1206, (0 : Int32))
set_option maxHeartbeats 4000000 in
set_option maxRecDepth 100000 in
theorem lc_17 {p : Program} {l : Launch} {e : Env} {s : State} {m : MethodId} {below : List Frame} {meth : Method} {c : Code} {Q : State → Prop} {D : va_G} {cA : FieldType → ClassId} {ad : Nat → Nat} {base b L0 : Nat} {xs : Nat → Int32} (hlt : l.stackTraces = false) (C : CX D cA base RL cL_law 7 p s m #[Value.ref b] c) (hX : va_X b L0 xs s s.heap) (hbl : b < s.heap.size) (hbB : ¬ aB base b) {x4 a1 a2 a3 a4 a5 : Int32} (h_in1 : vp_in (x4 + 1) L0) (h_in2 : vp_in (x4 + 2) L0) (h_in3 : vp_in (x4 + 3) L0) (h_in4 : vp_in (x4 + 4) L0) (h_in5 : vp_in (x4 + 5) L0) (ha1 : xs (x4 + 1).toNatClampNeg = a1) (ha2 : xs (x4 + 2).toNatClampNeg = a2) (ha3 : xs (x4 + 3).toNatClampNeg = a3) (ha4 : xs (x4 + 4).toNatClampNeg = a4) (ha5 : xs (x4 + 5).toNatClampNeg = a5) {c0 s0 : Nat} (hc0 : c0 + 1 ≤ room_1.cells) (hs0 : s0 + 6 ≤ room_1.slots) {fu : Nat} {S S' : St} (hf : fc_17 fu a1 a2 a3 a4 a5 S = some (S', (1 : Int32)))
    (kk : ∀ (H : Heap) (locs : List Loc) (ls : Array Slot), WS D cA ad base s S' H locs → lv_has ls 7 [(0, .ref b), (1, .ref (ad 0)), (2, .ref (ad 63)), (3, .ref (ad 106)), (4, .int x4)] → W p l e room_1 s m #[Value.ref b] below meth c H locs (c0 + 1) (s0 + 6) Q (F0 m 1554 ls []))
    {H : Heap} {locs : List Loc} {ls : Array Slot} (hw : WS D cA ad base s S H locs) (hl : lv_has ls 7 [(0, .ref b), (1, .ref (ad 0)), (2, .ref (ad 63)), (3, .ref (ad 106)), (4, .int x4)]) : W p l e room_1 s m #[Value.ref b] below meth c H locs c0 s0 Q (F0 m 1192 ls []) := by
  have hx := C.1
  have hb := C.2.1
  have hc1 : c0 ≤ room_1.cells := by omega
  have hs1 : s0 ≤ room_1.slots := by omega
  have J_1233 : ∀ (S : St) (H : Heap) (locs : List Loc) (ls : Array Slot), fc_17_1233 fu a1 a2 a3 a4 a5 S = some (S', (1 : Int32)) → lv_has ls 7 [(0, .ref b), (1, .ref (ad 0)), (2, .ref (ad 63)), (3, .ref (ad 106)), (4, .int x4)] → WS D cA ad base s S H locs → W p l e room_1 s m #[Value.ref b] below meth c H locs (c0 + 1) (s0 + 6) Q (F0 m 1233 ls []) := by
    intro  S H locs ls hf hl hw
    refine lv_goto (tgt := 1554) hx hb dL_law_1233 (by decide) ?_
    exact kk _ _ _ (by cases hf; exact hw) (lv_sub hl [0, 1, 2, 3, 4] rfl)
  refine lv_aload_n hx hb dL_law_1192 rfl (lv_at hl 1 rfl) ?_
  refine lv_aload_n hx hb dL_law_1193 rfl (lv_at hl 3 rfl) ?_
  obtain ⟨S_1194, r_1194, h_1194, hf⟩ := bd_some hf
  refine r_biW hw (r_runSW (rest := []) C hw (m_L_step l hlt D cA ad base fu h_1194) msL_step gw5_238 ⟨rfl, rfl, Nat.le_of_ble_eq_true rfl, Nat.le_of_ble_eq_true rfl⟩ rfl hl.1 rfl (Nat.le_of_ble_eq_true rfl) dL_law_1194 hc0 hs0) (fun H locs hw => ?_)
  refine lv_istore (lv' := [(5, .int r_1194), (0, .ref b), (1, .ref (ad 0)), (2, .ref (ad 63)), (3, .ref (ad 106)), (4, .int x4)]) hx hb dL_law_1197 hl (by decide) rfl (fun ls hl => ?_)
  refine lv_aload_n hx hb dL_law_1199 rfl (lv_at hl 3 rfl) ?_
  obtain ⟨S_1200, r_1200, h_1200, hf⟩ := bd_some hf
  refine r_bi hw (r_runV (rest := []) C hw (m_X12_step l D cA ad base fu h_1200) mvX12_step gw8_213 ⟨rfl, rfl, Nat.le_of_ble_eq_true rfl, Nat.le_of_ble_eq_true rfl⟩ dq_63 ln_63 vc_12 rfl hl.1 rfl (Nat.le_of_ble_eq_true rfl) dL_law_1200 hc0 hs0) (fun H locs hw => ?_)
  refine lv_istore (lv' := [(6, .int r_1200), (5, .int r_1194), (0, .ref b), (1, .ref (ad 0)), (2, .ref (ad 63)), (3, .ref (ad 106)), (4, .int x4)]) hx hb dL_law_1203 hl (by decide) rfl (fun ls hl => ?_)
  refine lv_aload_n hx hb dL_law_1205 rfl (lv_at hl 4 rfl) ?_
  obtain ⟨S_1206, r_1206, h_1206, hf⟩ := bd_some hf
  refine r_bi hw (r_runV (rest := []) C hw (m_X12_thrown l D cA ad base fu h_1206) mvX12_thrown gw7_162 ⟨rfl, rfl, Nat.le_of_ble_eq_true rfl, Nat.le_of_ble_eq_true rfl⟩ dq_63 ln_63 vc_12 rfl hl.1 rfl (Nat.le_of_ble_eq_true rfl) dL_law_1206 hc0 hs0) (fun H locs hw => ?_)
  refine lv_iload hx hb dL_law_1209 (lv_at hl 1 rfl) ?_
  refine lv_icmp_eq (tgt := 1216) hx hb dL_law_1211 (by decide) (fun c_1211 => ?_) (fun c_1211 => ?_)
  · have hf := if_t hf c_1211
    refine lv_iload hx hb dL_law_1216 (lv_at hl 1 rfl) ?_
    refine lv_if_ne (tgt := 1233) hx hb dL_law_1218 (by decide) (fun c_1218 => ?_) (fun c_1218 => ?_)
    · have hf := if_f hf c_1218
      exact J_1233 _ _ _ _ hf (lv_sub hl [2, 3, 4, 5, 6] rfl) hw
    · have hf := if_t hf c_1218
      refine lv_aload_n hx hb dL_law_1221 rfl (lv_at hl 5 rfl) ?_
      refine lv_iconst (v := (0 : Int32)) hx hb dL_law_1222 (by decide) ?_
      obtain ⟨z_1223, hf⟩ := gd_some hf
      refine r_lald C hw (x := 106) dq_106 ln_106 z_1223 dL_law_1223 ?_
      refine lv_iload hx hb dL_law_1224 (lv_at hl 0 rfl) ?_
      refine lv_i2l hx hb dL_law_1226 rfl ?_
      refine W.lcmp hx hb dL_law_1227 ?_
      refine lv_if_eq (tgt := 1233) hx hb dL_law_1228 (by decide) (fun c_1228 => ?_) (fun c_1228 => ?_)
      · have hf := if_t hf c_1228
        exact J_1233 _ _ _ _ hf (lv_sub hl [2, 3, 4, 5, 6] rfl) hw
      · have hf := if_f hf c_1228
        refine lv_iconst (v := (0 : Int32)) hx hb dL_law_1231 (by decide) ?_
        exact absurd hf no01
  · have hf := if_f hf c_1211
    refine lv_iconst (v := (0 : Int32)) hx hb dL_law_1214 (by decide) ?_
    exact absurd hf no01
noncomputable def fc_18_1277 (fu : Nat) (a1 a2 a3 a4 a5 : Int32) (S : St) : Option (St × Int32) :=
  some (S, (1 : Int32))
noncomputable def fc_18 (fu : Nat) (a1 a2 a3 a4 a5 : Int32) (S : St) : Option (St × Int32) :=
  bd (fL_lose fu S) fun S_1238 r_1238 =>
  bd (fX12_lose fu S_1238) fun S_1244 r_1244 =>
  bd (fX12_thrown fu S_1244) fun S_1250 r_1250 =>
  if r_1250 = r_1238 then
    if r_1238 = 0 then
      gd (ck (0 : Int32) 1) <|
      if (lg_cmp (S_1250.2 106 ((0 : Int32)).toNatClampNeg) (r_1244).toInt64) = 0 then
        fc_18_1277 fu a1 a2 a3 a4 a5 S_1250
      else
        some (S_1250, (0 : Int32))
    else
      fc_18_1277 fu a1 a2 a3 a4 a5 S_1250
  else
    some (S_1250, (0 : Int32))
set_option maxHeartbeats 4000000 in
set_option maxRecDepth 100000 in
theorem lc_18 {p : Program} {l : Launch} {e : Env} {s : State} {m : MethodId} {below : List Frame} {meth : Method} {c : Code} {Q : State → Prop} {D : va_G} {cA : FieldType → ClassId} {ad : Nat → Nat} {base b L0 : Nat} {xs : Nat → Int32} (hlt : l.stackTraces = false) (C : CX D cA base RL cL_law 7 p s m #[Value.ref b] c) (hX : va_X b L0 xs s s.heap) (hbl : b < s.heap.size) (hbB : ¬ aB base b) {x4 a1 a2 a3 a4 a5 : Int32} (h_in1 : vp_in (x4 + 1) L0) (h_in2 : vp_in (x4 + 2) L0) (h_in3 : vp_in (x4 + 3) L0) (h_in4 : vp_in (x4 + 4) L0) (h_in5 : vp_in (x4 + 5) L0) (ha1 : xs (x4 + 1).toNatClampNeg = a1) (ha2 : xs (x4 + 2).toNatClampNeg = a2) (ha3 : xs (x4 + 3).toNatClampNeg = a3) (ha4 : xs (x4 + 4).toNatClampNeg = a4) (ha5 : xs (x4 + 5).toNatClampNeg = a5) {c0 s0 : Nat} (hc0 : c0 + 1 ≤ room_1.cells) (hs0 : s0 + 6 ≤ room_1.slots) {fu : Nat} {S S' : St} (hf : fc_18 fu a1 a2 a3 a4 a5 S = some (S', (1 : Int32)))
    (kk : ∀ (H : Heap) (locs : List Loc) (ls : Array Slot), WS D cA ad base s S' H locs → lv_has ls 7 [(0, .ref b), (1, .ref (ad 0)), (2, .ref (ad 63)), (3, .ref (ad 106)), (4, .int x4)] → W p l e room_1 s m #[Value.ref b] below meth c H locs (c0 + 1) (s0 + 6) Q (F0 m 1554 ls []))
    {H : Heap} {locs : List Loc} {ls : Array Slot} (hw : WS D cA ad base s S H locs) (hl : lv_has ls 7 [(0, .ref b), (1, .ref (ad 0)), (2, .ref (ad 63)), (3, .ref (ad 106)), (4, .int x4)]) : W p l e room_1 s m #[Value.ref b] below meth c H locs c0 s0 Q (F0 m 1236 ls []) := by
  have hx := C.1
  have hb := C.2.1
  have hc1 : c0 ≤ room_1.cells := by omega
  have hs1 : s0 ≤ room_1.slots := by omega
  have J_1277 : ∀ (S : St) (H : Heap) (locs : List Loc) (ls : Array Slot), fc_18_1277 fu a1 a2 a3 a4 a5 S = some (S', (1 : Int32)) → lv_has ls 7 [(0, .ref b), (1, .ref (ad 0)), (2, .ref (ad 63)), (3, .ref (ad 106)), (4, .int x4)] → WS D cA ad base s S H locs → W p l e room_1 s m #[Value.ref b] below meth c H locs (c0 + 1) (s0 + 6) Q (F0 m 1277 ls []) := by
    intro  S H locs ls hf hl hw
    refine lv_goto (tgt := 1554) hx hb dL_law_1277 (by decide) ?_
    exact kk _ _ _ (by cases hf; exact hw) (lv_sub hl [0, 1, 2, 3, 4] rfl)
  refine lv_aload_n hx hb dL_law_1236 rfl (lv_at hl 1 rfl) ?_
  refine lv_aload_n hx hb dL_law_1237 rfl (lv_at hl 3 rfl) ?_
  obtain ⟨S_1238, r_1238, h_1238, hf⟩ := bd_some hf
  refine r_biW hw (r_runSW (rest := []) C hw (m_L_lose l hlt D cA ad base fu h_1238) msL_lose gw6_105 ⟨rfl, rfl, Nat.le_of_ble_eq_true rfl, Nat.le_of_ble_eq_true rfl⟩ rfl hl.1 rfl (Nat.le_of_ble_eq_true rfl) dL_law_1238 hc0 hs0) (fun H locs hw => ?_)
  refine lv_istore (lv' := [(5, .int r_1238), (0, .ref b), (1, .ref (ad 0)), (2, .ref (ad 63)), (3, .ref (ad 106)), (4, .int x4)]) hx hb dL_law_1241 hl (by decide) rfl (fun ls hl => ?_)
  refine lv_aload_n hx hb dL_law_1243 rfl (lv_at hl 3 rfl) ?_
  obtain ⟨S_1244, r_1244, h_1244, hf⟩ := bd_some hf
  refine r_bi hw (r_runV (rest := []) C hw (m_X12_lose l D cA ad base fu h_1244) mvX12_lose gw9_11 ⟨rfl, rfl, Nat.le_of_ble_eq_true rfl, Nat.le_of_ble_eq_true rfl⟩ dq_63 ln_63 vc_12 rfl hl.1 rfl (Nat.le_of_ble_eq_true rfl) dL_law_1244 hc0 hs0) (fun H locs hw => ?_)
  refine lv_istore (lv' := [(6, .int r_1244), (5, .int r_1238), (0, .ref b), (1, .ref (ad 0)), (2, .ref (ad 63)), (3, .ref (ad 106)), (4, .int x4)]) hx hb dL_law_1247 hl (by decide) rfl (fun ls hl => ?_)
  refine lv_aload_n hx hb dL_law_1249 rfl (lv_at hl 4 rfl) ?_
  obtain ⟨S_1250, r_1250, h_1250, hf⟩ := bd_some hf
  refine r_bi hw (r_runV (rest := []) C hw (m_X12_thrown l D cA ad base fu h_1250) mvX12_thrown gw7_162 ⟨rfl, rfl, Nat.le_of_ble_eq_true rfl, Nat.le_of_ble_eq_true rfl⟩ dq_63 ln_63 vc_12 rfl hl.1 rfl (Nat.le_of_ble_eq_true rfl) dL_law_1250 hc0 hs0) (fun H locs hw => ?_)
  refine lv_iload hx hb dL_law_1253 (lv_at hl 1 rfl) ?_
  refine lv_icmp_eq (tgt := 1260) hx hb dL_law_1255 (by decide) (fun c_1255 => ?_) (fun c_1255 => ?_)
  · have hf := if_t hf c_1255
    refine lv_iload hx hb dL_law_1260 (lv_at hl 1 rfl) ?_
    refine lv_if_ne (tgt := 1277) hx hb dL_law_1262 (by decide) (fun c_1262 => ?_) (fun c_1262 => ?_)
    · have hf := if_f hf c_1262
      exact J_1277 _ _ _ _ hf (lv_sub hl [2, 3, 4, 5, 6] rfl) hw
    · have hf := if_t hf c_1262
      refine lv_aload_n hx hb dL_law_1265 rfl (lv_at hl 5 rfl) ?_
      refine lv_iconst (v := (0 : Int32)) hx hb dL_law_1266 (by decide) ?_
      obtain ⟨z_1267, hf⟩ := gd_some hf
      refine r_lald C hw (x := 106) dq_106 ln_106 z_1267 dL_law_1267 ?_
      refine lv_iload hx hb dL_law_1268 (lv_at hl 0 rfl) ?_
      refine lv_i2l hx hb dL_law_1270 rfl ?_
      refine W.lcmp hx hb dL_law_1271 ?_
      refine lv_if_eq (tgt := 1277) hx hb dL_law_1272 (by decide) (fun c_1272 => ?_) (fun c_1272 => ?_)
      · have hf := if_t hf c_1272
        exact J_1277 _ _ _ _ hf (lv_sub hl [2, 3, 4, 5, 6] rfl) hw
      · have hf := if_f hf c_1272
        refine lv_iconst (v := (0 : Int32)) hx hb dL_law_1275 (by decide) ?_
        exact absurd hf no01
  · have hf := if_f hf c_1255
    refine lv_iconst (v := (0 : Int32)) hx hb dL_law_1258 (by decide) ?_
    exact absurd hf no01
noncomputable def fc_19_1321 (fu : Nat) (a1 a2 a3 a4 a5 : Int32) (S : St) : Option (St × Int32) :=
  some (S, (1 : Int32))
noncomputable def fc_19 (fu : Nat) (a1 a2 a3 a4 a5 : Int32) (S : St) : Option (St × Int32) :=
  bd (fL_forge fu S) fun S_1282 r_1282 =>
  bd (fX12_forge fu S_1282) fun S_1288 r_1288 =>
  bd (fX12_thrown fu S_1288) fun S_1294 r_1294 =>
  if r_1294 = r_1282 then
    if r_1282 = 0 then
      gd (ck (0 : Int32) 1) <|
      if (lg_cmp (S_1294.2 106 ((0 : Int32)).toNatClampNeg) (r_1288).toInt64) = 0 then
        fc_19_1321 fu a1 a2 a3 a4 a5 S_1294
      else
        some (S_1294, (0 : Int32))
    else
      fc_19_1321 fu a1 a2 a3 a4 a5 S_1294
  else
    some (S_1294, (0 : Int32))
set_option maxHeartbeats 4000000 in
set_option maxRecDepth 100000 in
theorem lc_19 {p : Program} {l : Launch} {e : Env} {s : State} {m : MethodId} {below : List Frame} {meth : Method} {c : Code} {Q : State → Prop} {D : va_G} {cA : FieldType → ClassId} {ad : Nat → Nat} {base b L0 : Nat} {xs : Nat → Int32} (hlt : l.stackTraces = false) (C : CX D cA base RL cL_law 7 p s m #[Value.ref b] c) (hX : va_X b L0 xs s s.heap) (hbl : b < s.heap.size) (hbB : ¬ aB base b) {x4 a1 a2 a3 a4 a5 : Int32} (h_in1 : vp_in (x4 + 1) L0) (h_in2 : vp_in (x4 + 2) L0) (h_in3 : vp_in (x4 + 3) L0) (h_in4 : vp_in (x4 + 4) L0) (h_in5 : vp_in (x4 + 5) L0) (ha1 : xs (x4 + 1).toNatClampNeg = a1) (ha2 : xs (x4 + 2).toNatClampNeg = a2) (ha3 : xs (x4 + 3).toNatClampNeg = a3) (ha4 : xs (x4 + 4).toNatClampNeg = a4) (ha5 : xs (x4 + 5).toNatClampNeg = a5) {c0 s0 : Nat} (hc0 : c0 + 1 ≤ room_1.cells) (hs0 : s0 + 6 ≤ room_1.slots) {fu : Nat} {S S' : St} (hf : fc_19 fu a1 a2 a3 a4 a5 S = some (S', (1 : Int32)))
    (kk : ∀ (H : Heap) (locs : List Loc) (ls : Array Slot), WS D cA ad base s S' H locs → lv_has ls 7 [(0, .ref b), (1, .ref (ad 0)), (2, .ref (ad 63)), (3, .ref (ad 106)), (4, .int x4)] → W p l e room_1 s m #[Value.ref b] below meth c H locs (c0 + 1) (s0 + 6) Q (F0 m 1554 ls []))
    {H : Heap} {locs : List Loc} {ls : Array Slot} (hw : WS D cA ad base s S H locs) (hl : lv_has ls 7 [(0, .ref b), (1, .ref (ad 0)), (2, .ref (ad 63)), (3, .ref (ad 106)), (4, .int x4)]) : W p l e room_1 s m #[Value.ref b] below meth c H locs c0 s0 Q (F0 m 1280 ls []) := by
  have hx := C.1
  have hb := C.2.1
  have hc1 : c0 ≤ room_1.cells := by omega
  have hs1 : s0 ≤ room_1.slots := by omega
  have J_1321 : ∀ (S : St) (H : Heap) (locs : List Loc) (ls : Array Slot), fc_19_1321 fu a1 a2 a3 a4 a5 S = some (S', (1 : Int32)) → lv_has ls 7 [(0, .ref b), (1, .ref (ad 0)), (2, .ref (ad 63)), (3, .ref (ad 106)), (4, .int x4)] → WS D cA ad base s S H locs → W p l e room_1 s m #[Value.ref b] below meth c H locs (c0 + 1) (s0 + 6) Q (F0 m 1321 ls []) := by
    intro  S H locs ls hf hl hw
    refine lv_goto (tgt := 1554) hx hb dL_law_1321 (by decide) ?_
    exact kk _ _ _ (by cases hf; exact hw) (lv_sub hl [0, 1, 2, 3, 4] rfl)
  refine lv_aload_n hx hb dL_law_1280 rfl (lv_at hl 1 rfl) ?_
  refine lv_aload_n hx hb dL_law_1281 rfl (lv_at hl 3 rfl) ?_
  obtain ⟨S_1282, r_1282, h_1282, hf⟩ := bd_some hf
  refine r_biW hw (r_runSW (rest := []) C hw (m_L_forge l hlt D cA ad base fu h_1282) msL_forge gw6_112 ⟨rfl, rfl, Nat.le_of_ble_eq_true rfl, Nat.le_of_ble_eq_true rfl⟩ rfl hl.1 rfl (Nat.le_of_ble_eq_true rfl) dL_law_1282 hc0 hs0) (fun H locs hw => ?_)
  refine lv_istore (lv' := [(5, .int r_1282), (0, .ref b), (1, .ref (ad 0)), (2, .ref (ad 63)), (3, .ref (ad 106)), (4, .int x4)]) hx hb dL_law_1285 hl (by decide) rfl (fun ls hl => ?_)
  refine lv_aload_n hx hb dL_law_1287 rfl (lv_at hl 3 rfl) ?_
  obtain ⟨S_1288, r_1288, h_1288, hf⟩ := bd_some hf
  refine r_bi hw (r_runV (rest := []) C hw (m_X12_forge l D cA ad base fu h_1288) mvX12_forge gw9_15 ⟨rfl, rfl, Nat.le_of_ble_eq_true rfl, Nat.le_of_ble_eq_true rfl⟩ dq_63 ln_63 vc_12 rfl hl.1 rfl (Nat.le_of_ble_eq_true rfl) dL_law_1288 hc0 hs0) (fun H locs hw => ?_)
  refine lv_istore (lv' := [(6, .int r_1288), (5, .int r_1282), (0, .ref b), (1, .ref (ad 0)), (2, .ref (ad 63)), (3, .ref (ad 106)), (4, .int x4)]) hx hb dL_law_1291 hl (by decide) rfl (fun ls hl => ?_)
  refine lv_aload_n hx hb dL_law_1293 rfl (lv_at hl 4 rfl) ?_
  obtain ⟨S_1294, r_1294, h_1294, hf⟩ := bd_some hf
  refine r_bi hw (r_runV (rest := []) C hw (m_X12_thrown l D cA ad base fu h_1294) mvX12_thrown gw7_162 ⟨rfl, rfl, Nat.le_of_ble_eq_true rfl, Nat.le_of_ble_eq_true rfl⟩ dq_63 ln_63 vc_12 rfl hl.1 rfl (Nat.le_of_ble_eq_true rfl) dL_law_1294 hc0 hs0) (fun H locs hw => ?_)
  refine lv_iload hx hb dL_law_1297 (lv_at hl 1 rfl) ?_
  refine lv_icmp_eq (tgt := 1304) hx hb dL_law_1299 (by decide) (fun c_1299 => ?_) (fun c_1299 => ?_)
  · have hf := if_t hf c_1299
    refine lv_iload hx hb dL_law_1304 (lv_at hl 1 rfl) ?_
    refine lv_if_ne (tgt := 1321) hx hb dL_law_1306 (by decide) (fun c_1306 => ?_) (fun c_1306 => ?_)
    · have hf := if_f hf c_1306
      exact J_1321 _ _ _ _ hf (lv_sub hl [2, 3, 4, 5, 6] rfl) hw
    · have hf := if_t hf c_1306
      refine lv_aload_n hx hb dL_law_1309 rfl (lv_at hl 5 rfl) ?_
      refine lv_iconst (v := (0 : Int32)) hx hb dL_law_1310 (by decide) ?_
      obtain ⟨z_1311, hf⟩ := gd_some hf
      refine r_lald C hw (x := 106) dq_106 ln_106 z_1311 dL_law_1311 ?_
      refine lv_iload hx hb dL_law_1312 (lv_at hl 0 rfl) ?_
      refine lv_i2l hx hb dL_law_1314 rfl ?_
      refine W.lcmp hx hb dL_law_1315 ?_
      refine lv_if_eq (tgt := 1321) hx hb dL_law_1316 (by decide) (fun c_1316 => ?_) (fun c_1316 => ?_)
      · have hf := if_t hf c_1316
        exact J_1321 _ _ _ _ hf (lv_sub hl [2, 3, 4, 5, 6] rfl) hw
      · have hf := if_f hf c_1316
        refine lv_iconst (v := (0 : Int32)) hx hb dL_law_1319 (by decide) ?_
        exact absurd hf no01
  · have hf := if_f hf c_1299
    refine lv_iconst (v := (0 : Int32)) hx hb dL_law_1302 (by decide) ?_
    exact absurd hf no01
noncomputable def fc_20_1377 (fu : Nat) (a1 a2 a3 a4 a5 : Int32) (S : St) : Option (St × Int32) :=
  some (S, (1 : Int32))
noncomputable def fc_20 (fu : Nat) (a1 a2 a3 a4 a5 : Int32) (S : St) : Option (St × Int32) :=
  bd (fL_query fu a1 S) fun S_1332 r_1332 =>
  bd (fX12_query fu a1 S_1332) fun S_1344 r_1344 =>
  bd (fX12_thrown fu S_1344) fun S_1350 r_1350 =>
  if r_1350 = r_1332 then
    if r_1332 = 0 then
      gd (ck (0 : Int32) 1) <|
      if (lg_cmp (S_1350.2 106 ((0 : Int32)).toNatClampNeg) (r_1344).toInt64) = 0 then
        fc_20_1377 fu a1 a2 a3 a4 a5 S_1350
      else
        some (S_1350, (0 : Int32))
    else
      fc_20_1377 fu a1 a2 a3 a4 a5 S_1350
  else
    some (S_1350, (0 : Int32))
set_option maxHeartbeats 4000000 in
set_option maxRecDepth 100000 in
theorem lc_20 {p : Program} {l : Launch} {e : Env} {s : State} {m : MethodId} {below : List Frame} {meth : Method} {c : Code} {Q : State → Prop} {D : va_G} {cA : FieldType → ClassId} {ad : Nat → Nat} {base b L0 : Nat} {xs : Nat → Int32} (hlt : l.stackTraces = false) (C : CX D cA base RL cL_law 7 p s m #[Value.ref b] c) (hX : va_X b L0 xs s s.heap) (hbl : b < s.heap.size) (hbB : ¬ aB base b) {x4 a1 a2 a3 a4 a5 : Int32} (h_in1 : vp_in (x4 + 1) L0) (h_in2 : vp_in (x4 + 2) L0) (h_in3 : vp_in (x4 + 3) L0) (h_in4 : vp_in (x4 + 4) L0) (h_in5 : vp_in (x4 + 5) L0) (ha1 : xs (x4 + 1).toNatClampNeg = a1) (ha2 : xs (x4 + 2).toNatClampNeg = a2) (ha3 : xs (x4 + 3).toNatClampNeg = a3) (ha4 : xs (x4 + 4).toNatClampNeg = a4) (ha5 : xs (x4 + 5).toNatClampNeg = a5) {c0 s0 : Nat} (hc0 : c0 + 1 ≤ room_1.cells) (hs0 : s0 + 6 ≤ room_1.slots) {fu : Nat} {S S' : St} (hf : fc_20 fu a1 a2 a3 a4 a5 S = some (S', (1 : Int32)))
    (kk : ∀ (H : Heap) (locs : List Loc) (ls : Array Slot), WS D cA ad base s S' H locs → lv_has ls 7 [(0, .ref b), (1, .ref (ad 0)), (2, .ref (ad 63)), (3, .ref (ad 106)), (4, .int x4)] → W p l e room_1 s m #[Value.ref b] below meth c H locs (c0 + 1) (s0 + 6) Q (F0 m 1554 ls []))
    {H : Heap} {locs : List Loc} {ls : Array Slot} (hw : WS D cA ad base s S H locs) (hl : lv_has ls 7 [(0, .ref b), (1, .ref (ad 0)), (2, .ref (ad 63)), (3, .ref (ad 106)), (4, .int x4)]) : W p l e room_1 s m #[Value.ref b] below meth c H locs c0 s0 Q (F0 m 1324 ls []) := by
  have hx := C.1
  have hb := C.2.1
  have hc1 : c0 ≤ room_1.cells := by omega
  have hs1 : s0 ≤ room_1.slots := by omega
  have J_1377 : ∀ (S : St) (H : Heap) (locs : List Loc) (ls : Array Slot), fc_20_1377 fu a1 a2 a3 a4 a5 S = some (S', (1 : Int32)) → lv_has ls 7 [(0, .ref b), (1, .ref (ad 0)), (2, .ref (ad 63)), (3, .ref (ad 106)), (4, .int x4)] → WS D cA ad base s S H locs → W p l e room_1 s m #[Value.ref b] below meth c H locs (c0 + 1) (s0 + 6) Q (F0 m 1377 ls []) := by
    intro  S H locs ls hf hl hw
    refine lv_goto (tgt := 1554) hx hb dL_law_1377 (by decide) ?_
    exact kk _ _ _ (by cases hf; exact hw) (lv_sub hl [0, 1, 2, 3, 4] rfl)
  refine lv_aload_n hx hb dL_law_1324 rfl (lv_at hl 1 rfl) ?_
  refine lv_aload_n hx hb dL_law_1325 rfl (lv_at hl 0 rfl) ?_
  refine lv_iload hx hb dL_law_1326 (lv_at hl 4 rfl) ?_
  refine lv_iconst (v := (1 : Int32)) hx hb dL_law_1328 (by decide) ?_
  refine lv_iadd hx hb dL_law_1329 ?_
  refine r_sld C hw hX hbl hbB h_in1 ha1 dL_law_1330 ?_
  refine lv_aload_n hx hb dL_law_1331 rfl (lv_at hl 3 rfl) ?_
  obtain ⟨S_1332, r_1332, h_1332, hf⟩ := bd_some hf
  refine r_biW hw (r_runSW (rest := []) C hw (m_L_query l hlt D cA ad base fu h_1332) msL_query gw6_119 ⟨rfl, rfl, Nat.le_of_ble_eq_true rfl, Nat.le_of_ble_eq_true rfl⟩ rfl hl.1 rfl (Nat.le_of_ble_eq_true rfl) dL_law_1332 hc0 hs0) (fun H locs hw => ?_)
  refine lv_istore (lv' := [(5, .int r_1332), (0, .ref b), (1, .ref (ad 0)), (2, .ref (ad 63)), (3, .ref (ad 106)), (4, .int x4)]) hx hb dL_law_1335 hl (by decide) rfl (fun ls hl => ?_)
  refine lv_aload_n hx hb dL_law_1337 rfl (lv_at hl 3 rfl) ?_
  refine lv_aload_n hx hb dL_law_1338 rfl (lv_at hl 1 rfl) ?_
  refine lv_iload hx hb dL_law_1339 (lv_at hl 5 rfl) ?_
  refine lv_iconst (v := (1 : Int32)) hx hb dL_law_1341 (by decide) ?_
  refine lv_iadd hx hb dL_law_1342 ?_
  refine r_sld C hw hX hbl hbB h_in1 ha1 dL_law_1343 ?_
  obtain ⟨S_1344, r_1344, h_1344, hf⟩ := bd_some hf
  refine r_bi hw (r_runV (rest := []) C hw (m_X12_query l D cA ad base fu h_1344) mvX12_query gw9_19 ⟨rfl, rfl, Nat.le_of_ble_eq_true rfl, Nat.le_of_ble_eq_true rfl⟩ dq_63 ln_63 vc_12 rfl hl.1 rfl (Nat.le_of_ble_eq_true rfl) dL_law_1344 hc0 hs0) (fun H locs hw => ?_)
  refine lv_istore (lv' := [(6, .int r_1344), (5, .int r_1332), (0, .ref b), (1, .ref (ad 0)), (2, .ref (ad 63)), (3, .ref (ad 106)), (4, .int x4)]) hx hb dL_law_1347 hl (by decide) rfl (fun ls hl => ?_)
  refine lv_aload_n hx hb dL_law_1349 rfl (lv_at hl 4 rfl) ?_
  obtain ⟨S_1350, r_1350, h_1350, hf⟩ := bd_some hf
  refine r_bi hw (r_runV (rest := []) C hw (m_X12_thrown l D cA ad base fu h_1350) mvX12_thrown gw7_162 ⟨rfl, rfl, Nat.le_of_ble_eq_true rfl, Nat.le_of_ble_eq_true rfl⟩ dq_63 ln_63 vc_12 rfl hl.1 rfl (Nat.le_of_ble_eq_true rfl) dL_law_1350 hc0 hs0) (fun H locs hw => ?_)
  refine lv_iload hx hb dL_law_1353 (lv_at hl 1 rfl) ?_
  refine lv_icmp_eq (tgt := 1360) hx hb dL_law_1355 (by decide) (fun c_1355 => ?_) (fun c_1355 => ?_)
  · have hf := if_t hf c_1355
    refine lv_iload hx hb dL_law_1360 (lv_at hl 1 rfl) ?_
    refine lv_if_ne (tgt := 1377) hx hb dL_law_1362 (by decide) (fun c_1362 => ?_) (fun c_1362 => ?_)
    · have hf := if_f hf c_1362
      exact J_1377 _ _ _ _ hf (lv_sub hl [2, 3, 4, 5, 6] rfl) hw
    · have hf := if_t hf c_1362
      refine lv_aload_n hx hb dL_law_1365 rfl (lv_at hl 5 rfl) ?_
      refine lv_iconst (v := (0 : Int32)) hx hb dL_law_1366 (by decide) ?_
      obtain ⟨z_1367, hf⟩ := gd_some hf
      refine r_lald C hw (x := 106) dq_106 ln_106 z_1367 dL_law_1367 ?_
      refine lv_iload hx hb dL_law_1368 (lv_at hl 0 rfl) ?_
      refine lv_i2l hx hb dL_law_1370 rfl ?_
      refine W.lcmp hx hb dL_law_1371 ?_
      refine lv_if_eq (tgt := 1377) hx hb dL_law_1372 (by decide) (fun c_1372 => ?_) (fun c_1372 => ?_)
      · have hf := if_t hf c_1372
        exact J_1377 _ _ _ _ hf (lv_sub hl [2, 3, 4, 5, 6] rfl) hw
      · have hf := if_f hf c_1372
        refine lv_iconst (v := (0 : Int32)) hx hb dL_law_1375 (by decide) ?_
        exact absurd hf no01
  · have hf := if_f hf c_1355
    refine lv_iconst (v := (0 : Int32)) hx hb dL_law_1358 (by decide) ?_
    exact absurd hf no01
noncomputable def fc_21_1433 (fu : Nat) (a1 a2 a3 a4 a5 : Int32) (S : St) : Option (St × Int32) :=
  some (S, (1 : Int32))
noncomputable def fc_21 (fu : Nat) (a1 a2 a3 a4 a5 : Int32) (S : St) : Option (St × Int32) :=
  bd (fL_result fu a1 S) fun S_1388 r_1388 =>
  bd (fX12_result fu a1 S_1388) fun S_1400 r_1400 =>
  bd (fX12_thrown fu S_1400) fun S_1406 r_1406 =>
  if r_1406 = r_1388 then
    if r_1388 = 0 then
      gd (ck (0 : Int32) 1) <|
      if (lg_cmp (S_1406.2 106 ((0 : Int32)).toNatClampNeg) (r_1400).toInt64) = 0 then
        fc_21_1433 fu a1 a2 a3 a4 a5 S_1406
      else
        some (S_1406, (0 : Int32))
    else
      fc_21_1433 fu a1 a2 a3 a4 a5 S_1406
  else
    some (S_1406, (0 : Int32))
set_option maxHeartbeats 4000000 in
set_option maxRecDepth 100000 in
theorem lc_21 {p : Program} {l : Launch} {e : Env} {s : State} {m : MethodId} {below : List Frame} {meth : Method} {c : Code} {Q : State → Prop} {D : va_G} {cA : FieldType → ClassId} {ad : Nat → Nat} {base b L0 : Nat} {xs : Nat → Int32} (hlt : l.stackTraces = false) (C : CX D cA base RL cL_law 7 p s m #[Value.ref b] c) (hX : va_X b L0 xs s s.heap) (hbl : b < s.heap.size) (hbB : ¬ aB base b) {x4 a1 a2 a3 a4 a5 : Int32} (h_in1 : vp_in (x4 + 1) L0) (h_in2 : vp_in (x4 + 2) L0) (h_in3 : vp_in (x4 + 3) L0) (h_in4 : vp_in (x4 + 4) L0) (h_in5 : vp_in (x4 + 5) L0) (ha1 : xs (x4 + 1).toNatClampNeg = a1) (ha2 : xs (x4 + 2).toNatClampNeg = a2) (ha3 : xs (x4 + 3).toNatClampNeg = a3) (ha4 : xs (x4 + 4).toNatClampNeg = a4) (ha5 : xs (x4 + 5).toNatClampNeg = a5) {c0 s0 : Nat} (hc0 : c0 + 1 ≤ room_1.cells) (hs0 : s0 + 6 ≤ room_1.slots) {fu : Nat} {S S' : St} (hf : fc_21 fu a1 a2 a3 a4 a5 S = some (S', (1 : Int32)))
    (kk : ∀ (H : Heap) (locs : List Loc) (ls : Array Slot), WS D cA ad base s S' H locs → lv_has ls 7 [(0, .ref b), (1, .ref (ad 0)), (2, .ref (ad 63)), (3, .ref (ad 106)), (4, .int x4)] → W p l e room_1 s m #[Value.ref b] below meth c H locs (c0 + 1) (s0 + 6) Q (F0 m 1554 ls []))
    {H : Heap} {locs : List Loc} {ls : Array Slot} (hw : WS D cA ad base s S H locs) (hl : lv_has ls 7 [(0, .ref b), (1, .ref (ad 0)), (2, .ref (ad 63)), (3, .ref (ad 106)), (4, .int x4)]) : W p l e room_1 s m #[Value.ref b] below meth c H locs c0 s0 Q (F0 m 1380 ls []) := by
  have hx := C.1
  have hb := C.2.1
  have hc1 : c0 ≤ room_1.cells := by omega
  have hs1 : s0 ≤ room_1.slots := by omega
  have J_1433 : ∀ (S : St) (H : Heap) (locs : List Loc) (ls : Array Slot), fc_21_1433 fu a1 a2 a3 a4 a5 S = some (S', (1 : Int32)) → lv_has ls 7 [(0, .ref b), (1, .ref (ad 0)), (2, .ref (ad 63)), (3, .ref (ad 106)), (4, .int x4)] → WS D cA ad base s S H locs → W p l e room_1 s m #[Value.ref b] below meth c H locs (c0 + 1) (s0 + 6) Q (F0 m 1433 ls []) := by
    intro  S H locs ls hf hl hw
    refine lv_goto (tgt := 1554) hx hb dL_law_1433 (by decide) ?_
    exact kk _ _ _ (by cases hf; exact hw) (lv_sub hl [0, 1, 2, 3, 4] rfl)
  refine lv_aload_n hx hb dL_law_1380 rfl (lv_at hl 1 rfl) ?_
  refine lv_aload_n hx hb dL_law_1381 rfl (lv_at hl 0 rfl) ?_
  refine lv_iload hx hb dL_law_1382 (lv_at hl 4 rfl) ?_
  refine lv_iconst (v := (1 : Int32)) hx hb dL_law_1384 (by decide) ?_
  refine lv_iadd hx hb dL_law_1385 ?_
  refine r_sld C hw hX hbl hbB h_in1 ha1 dL_law_1386 ?_
  refine lv_aload_n hx hb dL_law_1387 rfl (lv_at hl 3 rfl) ?_
  obtain ⟨S_1388, r_1388, h_1388, hf⟩ := bd_some hf
  refine r_biW hw (r_runSW (rest := []) C hw (m_L_result l hlt D cA ad base fu h_1388) msL_result gw6_135 ⟨rfl, rfl, Nat.le_of_ble_eq_true rfl, Nat.le_of_ble_eq_true rfl⟩ rfl hl.1 rfl (Nat.le_of_ble_eq_true rfl) dL_law_1388 hc0 hs0) (fun H locs hw => ?_)
  refine lv_istore (lv' := [(5, .int r_1388), (0, .ref b), (1, .ref (ad 0)), (2, .ref (ad 63)), (3, .ref (ad 106)), (4, .int x4)]) hx hb dL_law_1391 hl (by decide) rfl (fun ls hl => ?_)
  refine lv_aload_n hx hb dL_law_1393 rfl (lv_at hl 3 rfl) ?_
  refine lv_aload_n hx hb dL_law_1394 rfl (lv_at hl 1 rfl) ?_
  refine lv_iload hx hb dL_law_1395 (lv_at hl 5 rfl) ?_
  refine lv_iconst (v := (1 : Int32)) hx hb dL_law_1397 (by decide) ?_
  refine lv_iadd hx hb dL_law_1398 ?_
  refine r_sld C hw hX hbl hbB h_in1 ha1 dL_law_1399 ?_
  obtain ⟨S_1400, r_1400, h_1400, hf⟩ := bd_some hf
  refine r_bi hw (r_runV (rest := []) C hw (m_X12_result l D cA ad base fu h_1400) mvX12_result gw9_23 ⟨rfl, rfl, Nat.le_of_ble_eq_true rfl, Nat.le_of_ble_eq_true rfl⟩ dq_63 ln_63 vc_12 rfl hl.1 rfl (Nat.le_of_ble_eq_true rfl) dL_law_1400 hc0 hs0) (fun H locs hw => ?_)
  refine lv_istore (lv' := [(6, .int r_1400), (5, .int r_1388), (0, .ref b), (1, .ref (ad 0)), (2, .ref (ad 63)), (3, .ref (ad 106)), (4, .int x4)]) hx hb dL_law_1403 hl (by decide) rfl (fun ls hl => ?_)
  refine lv_aload_n hx hb dL_law_1405 rfl (lv_at hl 4 rfl) ?_
  obtain ⟨S_1406, r_1406, h_1406, hf⟩ := bd_some hf
  refine r_bi hw (r_runV (rest := []) C hw (m_X12_thrown l D cA ad base fu h_1406) mvX12_thrown gw7_162 ⟨rfl, rfl, Nat.le_of_ble_eq_true rfl, Nat.le_of_ble_eq_true rfl⟩ dq_63 ln_63 vc_12 rfl hl.1 rfl (Nat.le_of_ble_eq_true rfl) dL_law_1406 hc0 hs0) (fun H locs hw => ?_)
  refine lv_iload hx hb dL_law_1409 (lv_at hl 1 rfl) ?_
  refine lv_icmp_eq (tgt := 1416) hx hb dL_law_1411 (by decide) (fun c_1411 => ?_) (fun c_1411 => ?_)
  · have hf := if_t hf c_1411
    refine lv_iload hx hb dL_law_1416 (lv_at hl 1 rfl) ?_
    refine lv_if_ne (tgt := 1433) hx hb dL_law_1418 (by decide) (fun c_1418 => ?_) (fun c_1418 => ?_)
    · have hf := if_f hf c_1418
      exact J_1433 _ _ _ _ hf (lv_sub hl [2, 3, 4, 5, 6] rfl) hw
    · have hf := if_t hf c_1418
      refine lv_aload_n hx hb dL_law_1421 rfl (lv_at hl 5 rfl) ?_
      refine lv_iconst (v := (0 : Int32)) hx hb dL_law_1422 (by decide) ?_
      obtain ⟨z_1423, hf⟩ := gd_some hf
      refine r_lald C hw (x := 106) dq_106 ln_106 z_1423 dL_law_1423 ?_
      refine lv_iload hx hb dL_law_1424 (lv_at hl 0 rfl) ?_
      refine lv_i2l hx hb dL_law_1426 rfl ?_
      refine W.lcmp hx hb dL_law_1427 ?_
      refine lv_if_eq (tgt := 1433) hx hb dL_law_1428 (by decide) (fun c_1428 => ?_) (fun c_1428 => ?_)
      · have hf := if_t hf c_1428
        exact J_1433 _ _ _ _ hf (lv_sub hl [2, 3, 4, 5, 6] rfl) hw
      · have hf := if_f hf c_1428
        refine lv_iconst (v := (0 : Int32)) hx hb dL_law_1431 (by decide) ?_
        exact absurd hf no01
  · have hf := if_f hf c_1411
    refine lv_iconst (v := (0 : Int32)) hx hb dL_law_1414 (by decide) ?_
    exact absurd hf no01
noncomputable def fc_22 (fu : Nat) (a1 a2 a3 a4 a5 : Int32) (S : St) : Option (St × Int32) :=
  bd (fX11_data fu a1 S) fun S_1443 r_1443 =>
  bd (fX12_data fu a1 S_1443) fun S_1453 r_1453 =>
  if r_1443 = r_1453 then
    some (S_1453, (1 : Int32))
  else
    some (S_1453, (0 : Int32))
set_option maxHeartbeats 4000000 in
set_option maxRecDepth 100000 in
theorem lc_22 {p : Program} {l : Launch} {e : Env} {s : State} {m : MethodId} {below : List Frame} {meth : Method} {c : Code} {Q : State → Prop} {D : va_G} {cA : FieldType → ClassId} {ad : Nat → Nat} {base b L0 : Nat} {xs : Nat → Int32} (hlt : l.stackTraces = false) (C : CX D cA base RL cL_law 7 p s m #[Value.ref b] c) (hX : va_X b L0 xs s s.heap) (hbl : b < s.heap.size) (hbB : ¬ aB base b) {x4 a1 a2 a3 a4 a5 : Int32} (h_in1 : vp_in (x4 + 1) L0) (h_in2 : vp_in (x4 + 2) L0) (h_in3 : vp_in (x4 + 3) L0) (h_in4 : vp_in (x4 + 4) L0) (h_in5 : vp_in (x4 + 5) L0) (ha1 : xs (x4 + 1).toNatClampNeg = a1) (ha2 : xs (x4 + 2).toNatClampNeg = a2) (ha3 : xs (x4 + 3).toNatClampNeg = a3) (ha4 : xs (x4 + 4).toNatClampNeg = a4) (ha5 : xs (x4 + 5).toNatClampNeg = a5) {c0 s0 : Nat} (hc0 : c0 + 1 ≤ room_1.cells) (hs0 : s0 + 6 ≤ room_1.slots) {fu : Nat} {S S' : St} (hf : fc_22 fu a1 a2 a3 a4 a5 S = some (S', (1 : Int32)))
    (kk : ∀ (H : Heap) (locs : List Loc) (ls : Array Slot), WS D cA ad base s S' H locs → lv_has ls 7 [(0, .ref b), (1, .ref (ad 0)), (2, .ref (ad 63)), (3, .ref (ad 106)), (4, .int x4)] → W p l e room_1 s m #[Value.ref b] below meth c H locs (c0 + 1) (s0 + 6) Q (F0 m 1554 ls []))
    {H : Heap} {locs : List Loc} {ls : Array Slot} (hw : WS D cA ad base s S H locs) (hl : lv_has ls 7 [(0, .ref b), (1, .ref (ad 0)), (2, .ref (ad 63)), (3, .ref (ad 106)), (4, .int x4)]) : W p l e room_1 s m #[Value.ref b] below meth c H locs c0 s0 Q (F0 m 1436 ls []) := by
  have hx := C.1
  have hb := C.2.1
  have hc1 : c0 ≤ room_1.cells := by omega
  have hs1 : s0 ≤ room_1.slots := by omega
  refine lv_aload_n hx hb dL_law_1436 rfl (lv_at hl 1 rfl) ?_
  refine lv_aload_n hx hb dL_law_1437 rfl (lv_at hl 0 rfl) ?_
  refine lv_iload hx hb dL_law_1438 (lv_at hl 4 rfl) ?_
  refine lv_iconst (v := (1 : Int32)) hx hb dL_law_1440 (by decide) ?_
  refine lv_iadd hx hb dL_law_1441 ?_
  refine r_sld C hw hX hbl hbB h_in1 ha1 dL_law_1442 ?_
  obtain ⟨S_1443, r_1443, h_1443, hf⟩ := bd_some hf
  refine r_bi hw (r_runV (rest := []) C hw (m_X11_data l D cA ad base fu h_1443) mvX11_data gw3_59 ⟨rfl, rfl, Nat.le_of_ble_eq_true rfl, Nat.le_of_ble_eq_true rfl⟩ dq_0 ln_0 vc_11 rfl hl.1 rfl (Nat.le_of_ble_eq_true rfl) dL_law_1443 hc1 hs1) (fun H locs hw => ?_)
  refine lv_aload_n hx hb dL_law_1446 rfl (lv_at hl 2 rfl) ?_
  refine lv_aload_n hx hb dL_law_1447 rfl (lv_at hl 0 rfl) ?_
  refine lv_iload hx hb dL_law_1448 (lv_at hl 4 rfl) ?_
  refine lv_iconst (v := (1 : Int32)) hx hb dL_law_1450 (by decide) ?_
  refine lv_iadd hx hb dL_law_1451 ?_
  refine r_sld C hw hX hbl hbB h_in1 ha1 dL_law_1452 ?_
  obtain ⟨S_1453, r_1453, h_1453, hf⟩ := bd_some hf
  refine r_bi hw (r_runV (rest := [.int r_1443]) C hw (m_X12_data l D cA ad base fu h_1453) mvX12_data gw9_27 ⟨rfl, rfl, Nat.le_of_ble_eq_true rfl, Nat.le_of_ble_eq_true rfl⟩ dq_63 ln_63 vc_12 rfl hl.1 rfl (Nat.le_of_ble_eq_true rfl) dL_law_1453 hc1 hs1) (fun H locs hw => ?_)
  refine lv_icmp_eq (tgt := 1554) hx hb dL_law_1456 (by decide) (fun c_1456 => ?_) (fun c_1456 => ?_)
  · have hf := if_t hf c_1456
    refine W.widen (k := c0 + 1) (n := s0 + 6) (by omega) (by omega) ?_
    exact kk _ _ _ (by cases hf; exact hw) (lv_sub hl [0, 1, 2, 3, 4] rfl)
  · have hf := if_f hf c_1456
    refine lv_iconst (v := (0 : Int32)) hx hb dL_law_1459 (by decide) ?_
    exact absurd hf no01
noncomputable def fc_23_1526 (fu : Nat) (a1 a2 a3 a4 a5 : Int32) (S : St) : Option (St × Int32) :=
  some (S, (1 : Int32))
noncomputable def fc_23 (fu : Nat) (a1 a2 a3 a4 a5 : Int32) (S : St) : Option (St × Int32) :=
  bd (fL_cached fu a1 a2 S) fun S_1475 r_1475 =>
  bd (fX12_cached fu a1 a2 S_1475) fun S_1493 r_1493 =>
  bd (fX12_thrown fu S_1493) fun S_1499 r_1499 =>
  if r_1499 = r_1475 then
    if r_1475 = 0 then
      gd (ck (0 : Int32) 1) <|
      if (lg_cmp (S_1499.2 106 ((0 : Int32)).toNatClampNeg) (r_1493).toInt64) = 0 then
        fc_23_1526 fu a1 a2 a3 a4 a5 S_1499
      else
        some (S_1499, (0 : Int32))
    else
      fc_23_1526 fu a1 a2 a3 a4 a5 S_1499
  else
    some (S_1499, (0 : Int32))
set_option maxHeartbeats 4000000 in
set_option maxRecDepth 100000 in
theorem lc_23 {p : Program} {l : Launch} {e : Env} {s : State} {m : MethodId} {below : List Frame} {meth : Method} {c : Code} {Q : State → Prop} {D : va_G} {cA : FieldType → ClassId} {ad : Nat → Nat} {base b L0 : Nat} {xs : Nat → Int32} (hlt : l.stackTraces = false) (C : CX D cA base RL cL_law 7 p s m #[Value.ref b] c) (hX : va_X b L0 xs s s.heap) (hbl : b < s.heap.size) (hbB : ¬ aB base b) {x4 a1 a2 a3 a4 a5 : Int32} (h_in1 : vp_in (x4 + 1) L0) (h_in2 : vp_in (x4 + 2) L0) (h_in3 : vp_in (x4 + 3) L0) (h_in4 : vp_in (x4 + 4) L0) (h_in5 : vp_in (x4 + 5) L0) (ha1 : xs (x4 + 1).toNatClampNeg = a1) (ha2 : xs (x4 + 2).toNatClampNeg = a2) (ha3 : xs (x4 + 3).toNatClampNeg = a3) (ha4 : xs (x4 + 4).toNatClampNeg = a4) (ha5 : xs (x4 + 5).toNatClampNeg = a5) {c0 s0 : Nat} (hc0 : c0 + 1 ≤ room_1.cells) (hs0 : s0 + 6 ≤ room_1.slots) {fu : Nat} {S S' : St} (hf : fc_23 fu a1 a2 a3 a4 a5 S = some (S', (1 : Int32)))
    (kk : ∀ (H : Heap) (locs : List Loc) (ls : Array Slot), WS D cA ad base s S' H locs → lv_has ls 7 [(0, .ref b), (1, .ref (ad 0)), (2, .ref (ad 63)), (3, .ref (ad 106)), (4, .int x4)] → W p l e room_1 s m #[Value.ref b] below meth c H locs (c0 + 1) (s0 + 6) Q (F0 m 1554 ls []))
    {H : Heap} {locs : List Loc} {ls : Array Slot} (hw : WS D cA ad base s S H locs) (hl : lv_has ls 7 [(0, .ref b), (1, .ref (ad 0)), (2, .ref (ad 63)), (3, .ref (ad 106)), (4, .int x4)]) : W p l e room_1 s m #[Value.ref b] below meth c H locs c0 s0 Q (F0 m 1461 ls []) := by
  have hx := C.1
  have hb := C.2.1
  have hc1 : c0 ≤ room_1.cells := by omega
  have hs1 : s0 ≤ room_1.slots := by omega
  have J_1526 : ∀ (S : St) (H : Heap) (locs : List Loc) (ls : Array Slot), fc_23_1526 fu a1 a2 a3 a4 a5 S = some (S', (1 : Int32)) → lv_has ls 7 [(0, .ref b), (1, .ref (ad 0)), (2, .ref (ad 63)), (3, .ref (ad 106)), (4, .int x4)] → WS D cA ad base s S H locs → W p l e room_1 s m #[Value.ref b] below meth c H locs (c0 + 1) (s0 + 6) Q (F0 m 1526 ls []) := by
    intro  S H locs ls hf hl hw
    refine lv_goto (tgt := 1554) hx hb dL_law_1526 (by decide) ?_
    exact kk _ _ _ (by cases hf; exact hw) (lv_sub hl [0, 1, 2, 3, 4] rfl)
  refine lv_aload_n hx hb dL_law_1461 rfl (lv_at hl 1 rfl) ?_
  refine lv_aload_n hx hb dL_law_1462 rfl (lv_at hl 0 rfl) ?_
  refine lv_iload hx hb dL_law_1463 (lv_at hl 4 rfl) ?_
  refine lv_iconst (v := (1 : Int32)) hx hb dL_law_1465 (by decide) ?_
  refine lv_iadd hx hb dL_law_1466 ?_
  refine r_sld C hw hX hbl hbB h_in1 ha1 dL_law_1467 ?_
  refine lv_aload_n hx hb dL_law_1468 rfl (lv_at hl 0 rfl) ?_
  refine lv_iload hx hb dL_law_1469 (lv_at hl 4 rfl) ?_
  refine lv_iconst (v := (2 : Int32)) hx hb dL_law_1471 (by decide) ?_
  refine lv_iadd hx hb dL_law_1472 ?_
  refine r_sld C hw hX hbl hbB h_in2 ha2 dL_law_1473 ?_
  refine lv_aload_n hx hb dL_law_1474 rfl (lv_at hl 3 rfl) ?_
  obtain ⟨S_1475, r_1475, h_1475, hf⟩ := bd_some hf
  refine r_biW hw (r_runSW (rest := []) C hw (m_L_cached l hlt D cA ad base fu h_1475) msL_cached gw6_167 ⟨rfl, rfl, Nat.le_of_ble_eq_true rfl, Nat.le_of_ble_eq_true rfl⟩ rfl hl.1 rfl (Nat.le_of_ble_eq_true rfl) dL_law_1475 hc0 hs0) (fun H locs hw => ?_)
  refine lv_istore (lv' := [(5, .int r_1475), (0, .ref b), (1, .ref (ad 0)), (2, .ref (ad 63)), (3, .ref (ad 106)), (4, .int x4)]) hx hb dL_law_1478 hl (by decide) rfl (fun ls hl => ?_)
  refine lv_aload_n hx hb dL_law_1480 rfl (lv_at hl 3 rfl) ?_
  refine lv_aload_n hx hb dL_law_1481 rfl (lv_at hl 1 rfl) ?_
  refine lv_iload hx hb dL_law_1482 (lv_at hl 5 rfl) ?_
  refine lv_iconst (v := (1 : Int32)) hx hb dL_law_1484 (by decide) ?_
  refine lv_iadd hx hb dL_law_1485 ?_
  refine r_sld C hw hX hbl hbB h_in1 ha1 dL_law_1486 ?_
  refine lv_aload_n hx hb dL_law_1487 rfl (lv_at hl 1 rfl) ?_
  refine lv_iload hx hb dL_law_1488 (lv_at hl 5 rfl) ?_
  refine lv_iconst (v := (2 : Int32)) hx hb dL_law_1490 (by decide) ?_
  refine lv_iadd hx hb dL_law_1491 ?_
  refine r_sld C hw hX hbl hbB h_in2 ha2 dL_law_1492 ?_
  obtain ⟨S_1493, r_1493, h_1493, hf⟩ := bd_some hf
  refine r_bi hw (r_runV (rest := []) C hw (m_X12_cached l D cA ad base fu h_1493) mvX12_cached gw8_152 ⟨rfl, rfl, Nat.le_of_ble_eq_true rfl, Nat.le_of_ble_eq_true rfl⟩ dq_63 ln_63 vc_12 rfl hl.1 rfl (Nat.le_of_ble_eq_true rfl) dL_law_1493 hc0 hs0) (fun H locs hw => ?_)
  refine lv_istore (lv' := [(6, .int r_1493), (5, .int r_1475), (0, .ref b), (1, .ref (ad 0)), (2, .ref (ad 63)), (3, .ref (ad 106)), (4, .int x4)]) hx hb dL_law_1496 hl (by decide) rfl (fun ls hl => ?_)
  refine lv_aload_n hx hb dL_law_1498 rfl (lv_at hl 4 rfl) ?_
  obtain ⟨S_1499, r_1499, h_1499, hf⟩ := bd_some hf
  refine r_bi hw (r_runV (rest := []) C hw (m_X12_thrown l D cA ad base fu h_1499) mvX12_thrown gw7_162 ⟨rfl, rfl, Nat.le_of_ble_eq_true rfl, Nat.le_of_ble_eq_true rfl⟩ dq_63 ln_63 vc_12 rfl hl.1 rfl (Nat.le_of_ble_eq_true rfl) dL_law_1499 hc0 hs0) (fun H locs hw => ?_)
  refine lv_iload hx hb dL_law_1502 (lv_at hl 1 rfl) ?_
  refine lv_icmp_eq (tgt := 1509) hx hb dL_law_1504 (by decide) (fun c_1504 => ?_) (fun c_1504 => ?_)
  · have hf := if_t hf c_1504
    refine lv_iload hx hb dL_law_1509 (lv_at hl 1 rfl) ?_
    refine lv_if_ne (tgt := 1526) hx hb dL_law_1511 (by decide) (fun c_1511 => ?_) (fun c_1511 => ?_)
    · have hf := if_f hf c_1511
      exact J_1526 _ _ _ _ hf (lv_sub hl [2, 3, 4, 5, 6] rfl) hw
    · have hf := if_t hf c_1511
      refine lv_aload_n hx hb dL_law_1514 rfl (lv_at hl 5 rfl) ?_
      refine lv_iconst (v := (0 : Int32)) hx hb dL_law_1515 (by decide) ?_
      obtain ⟨z_1516, hf⟩ := gd_some hf
      refine r_lald C hw (x := 106) dq_106 ln_106 z_1516 dL_law_1516 ?_
      refine lv_iload hx hb dL_law_1517 (lv_at hl 0 rfl) ?_
      refine lv_i2l hx hb dL_law_1519 rfl ?_
      refine W.lcmp hx hb dL_law_1520 ?_
      refine lv_if_eq (tgt := 1526) hx hb dL_law_1521 (by decide) (fun c_1521 => ?_) (fun c_1521 => ?_)
      · have hf := if_t hf c_1521
        exact J_1526 _ _ _ _ hf (lv_sub hl [2, 3, 4, 5, 6] rfl) hw
      · have hf := if_f hf c_1521
        refine lv_iconst (v := (0 : Int32)) hx hb dL_law_1524 (by decide) ?_
        exact absurd hf no01
  · have hf := if_f hf c_1504
    refine lv_iconst (v := (0 : Int32)) hx hb dL_law_1507 (by decide) ?_
    exact absurd hf no01
noncomputable def fc_24 (fu : Nat) (a1 a2 a3 a4 a5 : Int32) (S : St) : Option (St × Int32) :=
  bd (fX11_count fu a1 S) fun S_1536 r_1536 =>
  bd (fX12_count fu a1 S_1536) fun S_1546 r_1546 =>
  if r_1536 = r_1546 then
    some (S_1546, (1 : Int32))
  else
    some (S_1546, (0 : Int32))
set_option maxHeartbeats 4000000 in
set_option maxRecDepth 100000 in
theorem lc_24 {p : Program} {l : Launch} {e : Env} {s : State} {m : MethodId} {below : List Frame} {meth : Method} {c : Code} {Q : State → Prop} {D : va_G} {cA : FieldType → ClassId} {ad : Nat → Nat} {base b L0 : Nat} {xs : Nat → Int32} (hlt : l.stackTraces = false) (C : CX D cA base RL cL_law 7 p s m #[Value.ref b] c) (hX : va_X b L0 xs s s.heap) (hbl : b < s.heap.size) (hbB : ¬ aB base b) {x4 a1 a2 a3 a4 a5 : Int32} (h_in1 : vp_in (x4 + 1) L0) (h_in2 : vp_in (x4 + 2) L0) (h_in3 : vp_in (x4 + 3) L0) (h_in4 : vp_in (x4 + 4) L0) (h_in5 : vp_in (x4 + 5) L0) (ha1 : xs (x4 + 1).toNatClampNeg = a1) (ha2 : xs (x4 + 2).toNatClampNeg = a2) (ha3 : xs (x4 + 3).toNatClampNeg = a3) (ha4 : xs (x4 + 4).toNatClampNeg = a4) (ha5 : xs (x4 + 5).toNatClampNeg = a5) {c0 s0 : Nat} (hc0 : c0 + 1 ≤ room_1.cells) (hs0 : s0 + 6 ≤ room_1.slots) {fu : Nat} {S S' : St} (hf : fc_24 fu a1 a2 a3 a4 a5 S = some (S', (1 : Int32)))
    (kk : ∀ (H : Heap) (locs : List Loc) (ls : Array Slot), WS D cA ad base s S' H locs → lv_has ls 7 [(0, .ref b), (1, .ref (ad 0)), (2, .ref (ad 63)), (3, .ref (ad 106)), (4, .int x4)] → W p l e room_1 s m #[Value.ref b] below meth c H locs (c0 + 1) (s0 + 6) Q (F0 m 1554 ls []))
    {H : Heap} {locs : List Loc} {ls : Array Slot} (hw : WS D cA ad base s S H locs) (hl : lv_has ls 7 [(0, .ref b), (1, .ref (ad 0)), (2, .ref (ad 63)), (3, .ref (ad 106)), (4, .int x4)]) : W p l e room_1 s m #[Value.ref b] below meth c H locs c0 s0 Q (F0 m 1529 ls []) := by
  have hx := C.1
  have hb := C.2.1
  have hc1 : c0 ≤ room_1.cells := by omega
  have hs1 : s0 ≤ room_1.slots := by omega
  refine lv_aload_n hx hb dL_law_1529 rfl (lv_at hl 1 rfl) ?_
  refine lv_aload_n hx hb dL_law_1530 rfl (lv_at hl 0 rfl) ?_
  refine lv_iload hx hb dL_law_1531 (lv_at hl 4 rfl) ?_
  refine lv_iconst (v := (1 : Int32)) hx hb dL_law_1533 (by decide) ?_
  refine lv_iadd hx hb dL_law_1534 ?_
  refine r_sld C hw hX hbl hbB h_in1 ha1 dL_law_1535 ?_
  obtain ⟨S_1536, r_1536, h_1536, hf⟩ := bd_some hf
  refine r_bi hw (r_runV (rest := []) C hw (m_X11_count l D cA ad base fu h_1536) mvX11_count gw3_67 ⟨rfl, rfl, Nat.le_of_ble_eq_true rfl, Nat.le_of_ble_eq_true rfl⟩ dq_0 ln_0 vc_11 rfl hl.1 rfl (Nat.le_of_ble_eq_true rfl) dL_law_1536 hc1 hs1) (fun H locs hw => ?_)
  refine lv_aload_n hx hb dL_law_1539 rfl (lv_at hl 2 rfl) ?_
  refine lv_aload_n hx hb dL_law_1540 rfl (lv_at hl 0 rfl) ?_
  refine lv_iload hx hb dL_law_1541 (lv_at hl 4 rfl) ?_
  refine lv_iconst (v := (1 : Int32)) hx hb dL_law_1543 (by decide) ?_
  refine lv_iadd hx hb dL_law_1544 ?_
  refine r_sld C hw hX hbl hbB h_in1 ha1 dL_law_1545 ?_
  obtain ⟨S_1546, r_1546, h_1546, hf⟩ := bd_some hf
  refine r_bi hw (r_runV (rest := [.int r_1536]) C hw (m_X12_count l D cA ad base fu h_1546) mvX12_count gw9_31 ⟨rfl, rfl, Nat.le_of_ble_eq_true rfl, Nat.le_of_ble_eq_true rfl⟩ dq_63 ln_63 vc_12 rfl hl.1 rfl (Nat.le_of_ble_eq_true rfl) dL_law_1546 hc1 hs1) (fun H locs hw => ?_)
  refine lv_icmp_eq (tgt := 1554) hx hb dL_law_1549 (by decide) (fun c_1549 => ?_) (fun c_1549 => ?_)
  · have hf := if_t hf c_1549
    refine W.widen (k := c0 + 1) (n := s0 + 6) (by omega) (by omega) ?_
    exact kk _ _ _ (by cases hf; exact hw) (lv_sub hl [0, 1, 2, 3, 4] rfl)
  · have hf := if_f hf c_1549
    refine lv_iconst (v := (0 : Int32)) hx hb dL_law_1552 (by decide) ?_
    exact absurd hf no01
