theorem no01 {S S' : St} : ¬ (some (S, (0 : Int32)) = some (S', (1 : Int32))) := by
  intro h
  have h2 : (0 : Int32) = 1 := congrArg (fun z : St × Int32 => z.2) (Option.some.inj h)
  exact absurd h2 (by decide)
section RLW
variable {p : Program} {l : Launch} {e : Env} {R : Room} {s : State} {m : MethodId} {args : Array Value} {below : List Frame} {meth : Method} {c : Code} {H : Heap} {locs : List Loc} {cells slots : Nat} {Q : State → Prop}
variable {cc : ByteArray} {pc nL : Nat} {ls : Array Slot} {rest : List Value} {D : va_G} {cA : FieldType → ClassId} {ad : Nat → Nat} {base : Nat} {S : St} {own : String}
theorem r_sld (C : CX D cA base own cc nL p s m args c) (hw : WS D cA ad base s S H locs) {b L0 : Nat} {xs : Nat → Int32} (hX : va_X b L0 xs s s.heap) (hbl : b < s.heap.size) (hbB : ¬ aB base b) {i a : Int32} (hin : vp_in i L0) (ha : xs i.toNatClampNeg = a) (hdg : decode cc pc = .ok (.iaload, 1))
    (kk : W p l e R s m args below meth c H locs cells slots Q (F0 m (pc + 1) ls (.int a :: rest))) : W p l e R s m args below meth c H locs cells slots Q (F0 m pc ls (.int i :: .ref b :: rest)) := by
  subst ha
  exact va_sld C.1 C.2.1 hX hbl hbB hw.2.2 hin hdg kk
end RLW
noncomputable def fc_0 (fu : Nat) (a1 a2 a3 a4 a5 : Int32) (S : St) : Option (St × Int32) :=
  bd (fX11_feed fu a1 a2 a3 a4 a5 S) fun S_187 r_187 =>
  bd (fX12_feed fu a1 a2 a3 a4 a5 S_187) fun S_222 r_222 =>
  some (S_222, (1 : Int32))
set_option maxHeartbeats 4000000 in
set_option maxRecDepth 100000 in
theorem lc_0 {p : Program} {l : Launch} {e : Env} {s : State} {m : MethodId} {below : List Frame} {meth : Method} {c : Code} {Q : State → Prop} {D : va_G} {cA : FieldType → ClassId} {ad : Nat → Nat} {base b L0 : Nat} {xs : Nat → Int32} (hlt : l.stackTraces = false) (C : CX D cA base RL cL_law 7 p s m #[Value.ref b] c) (hX : va_X b L0 xs s s.heap) (hbl : b < s.heap.size) (hbB : ¬ aB base b) {x4 a1 a2 a3 a4 a5 : Int32} (h_in1 : vp_in (x4 + 1) L0) (h_in2 : vp_in (x4 + 2) L0) (h_in3 : vp_in (x4 + 3) L0) (h_in4 : vp_in (x4 + 4) L0) (h_in5 : vp_in (x4 + 5) L0) (ha1 : xs (x4 + 1).toNatClampNeg = a1) (ha2 : xs (x4 + 2).toNatClampNeg = a2) (ha3 : xs (x4 + 3).toNatClampNeg = a3) (ha4 : xs (x4 + 4).toNatClampNeg = a4) (ha5 : xs (x4 + 5).toNatClampNeg = a5) {c0 s0 : Nat} (hc0 : c0 + 1 ≤ room_1.cells) (hs0 : s0 + 6 ≤ room_1.slots) {fu : Nat} {S S' : St} (hf : fc_0 fu a1 a2 a3 a4 a5 S = some (S', (1 : Int32)))
    (kk : ∀ (H : Heap) (locs : List Loc) (ls : Array Slot), WS D cA ad base s S' H locs → lv_has ls 7 [(0, .ref b), (1, .ref (ad 0)), (2, .ref (ad 63)), (3, .ref (ad 106)), (4, .int x4)] → W p l e room_1 s m #[Value.ref b] below meth c H locs (c0 + 1) (s0 + 6) Q (F0 m 1071 ls []))
    {H : Heap} {locs : List Loc} {ls : Array Slot} (hw : WS D cA ad base s S H locs) (hl : lv_has ls 7 [(0, .ref b), (1, .ref (ad 0)), (2, .ref (ad 63)), (3, .ref (ad 106)), (4, .int x4)]) : W p l e room_1 s m #[Value.ref b] below meth c H locs c0 s0 Q (F0 m 156 ls []) := by
  have hx := C.1
  have hb := C.2.1
  have hc1 : c0 ≤ room_1.cells := by omega
  have hs1 : s0 ≤ room_1.slots := by omega
  refine lv_aload_n hx hb dL_law_156 rfl (lv_at hl 1 rfl) ?_
  refine lv_aload_n hx hb dL_law_157 rfl (lv_at hl 0 rfl) ?_
  refine lv_iload hx hb dL_law_158 (lv_at hl 4 rfl) ?_
  refine lv_iconst (v := (1 : Int32)) hx hb dL_law_160 (by decide) ?_
  refine lv_iadd hx hb dL_law_161 ?_
  refine r_sld C hw hX hbl hbB h_in1 ha1 dL_law_162 ?_
  refine lv_aload_n hx hb dL_law_163 rfl (lv_at hl 0 rfl) ?_
  refine lv_iload hx hb dL_law_164 (lv_at hl 4 rfl) ?_
  refine lv_iconst (v := (2 : Int32)) hx hb dL_law_166 (by decide) ?_
  refine lv_iadd hx hb dL_law_167 ?_
  refine r_sld C hw hX hbl hbB h_in2 ha2 dL_law_168 ?_
  refine lv_aload_n hx hb dL_law_169 rfl (lv_at hl 0 rfl) ?_
  refine lv_iload hx hb dL_law_170 (lv_at hl 4 rfl) ?_
  refine lv_iconst (v := (3 : Int32)) hx hb dL_law_172 (by decide) ?_
  refine lv_iadd hx hb dL_law_173 ?_
  refine r_sld C hw hX hbl hbB h_in3 ha3 dL_law_174 ?_
  refine lv_aload_n hx hb dL_law_175 rfl (lv_at hl 0 rfl) ?_
  refine lv_iload hx hb dL_law_176 (lv_at hl 4 rfl) ?_
  refine lv_iconst (v := (4 : Int32)) hx hb dL_law_178 (by decide) ?_
  refine lv_iadd hx hb dL_law_179 ?_
  refine r_sld C hw hX hbl hbB h_in4 ha4 dL_law_180 ?_
  refine lv_aload_n hx hb dL_law_181 rfl (lv_at hl 0 rfl) ?_
  refine lv_iload hx hb dL_law_182 (lv_at hl 4 rfl) ?_
  refine lv_iconst (v := (5 : Int32)) hx hb dL_law_184 (by decide) ?_
  refine lv_iadd hx hb dL_law_185 ?_
  refine r_sld C hw hX hbl hbB h_in5 ha5 dL_law_186 ?_
  obtain ⟨S_187, r_187, h_187, hf⟩ := bd_some hf
  refine r_bi hw (r_runV (rest := []) C hw (m_X11_feed l D cA ad base fu h_187) mvX11_feed gw2_144 ⟨rfl, rfl, Nat.le_of_ble_eq_true rfl, Nat.le_of_ble_eq_true rfl⟩ dq_0 ln_0 vc_11 rfl hl.1 rfl (Nat.le_of_ble_eq_true rfl) dL_law_187 hc1 hs1) (fun H locs hw => ?_)
  refine lv_pop hx hb dL_law_190 rfl ?_
  refine lv_aload_n hx hb dL_law_191 rfl (lv_at hl 2 rfl) ?_
  refine lv_aload_n hx hb dL_law_192 rfl (lv_at hl 0 rfl) ?_
  refine lv_iload hx hb dL_law_193 (lv_at hl 4 rfl) ?_
  refine lv_iconst (v := (1 : Int32)) hx hb dL_law_195 (by decide) ?_
  refine lv_iadd hx hb dL_law_196 ?_
  refine r_sld C hw hX hbl hbB h_in1 ha1 dL_law_197 ?_
  refine lv_aload_n hx hb dL_law_198 rfl (lv_at hl 0 rfl) ?_
  refine lv_iload hx hb dL_law_199 (lv_at hl 4 rfl) ?_
  refine lv_iconst (v := (2 : Int32)) hx hb dL_law_201 (by decide) ?_
  refine lv_iadd hx hb dL_law_202 ?_
  refine r_sld C hw hX hbl hbB h_in2 ha2 dL_law_203 ?_
  refine lv_aload_n hx hb dL_law_204 rfl (lv_at hl 0 rfl) ?_
  refine lv_iload hx hb dL_law_205 (lv_at hl 4 rfl) ?_
  refine lv_iconst (v := (3 : Int32)) hx hb dL_law_207 (by decide) ?_
  refine lv_iadd hx hb dL_law_208 ?_
  refine r_sld C hw hX hbl hbB h_in3 ha3 dL_law_209 ?_
  refine lv_aload_n hx hb dL_law_210 rfl (lv_at hl 0 rfl) ?_
  refine lv_iload hx hb dL_law_211 (lv_at hl 4 rfl) ?_
  refine lv_iconst (v := (4 : Int32)) hx hb dL_law_213 (by decide) ?_
  refine lv_iadd hx hb dL_law_214 ?_
  refine r_sld C hw hX hbl hbB h_in4 ha4 dL_law_215 ?_
  refine lv_aload_n hx hb dL_law_216 rfl (lv_at hl 0 rfl) ?_
  refine lv_iload hx hb dL_law_217 (lv_at hl 4 rfl) ?_
  refine lv_iconst (v := (5 : Int32)) hx hb dL_law_219 (by decide) ?_
  refine lv_iadd hx hb dL_law_220 ?_
  refine r_sld C hw hX hbl hbB h_in5 ha5 dL_law_221 ?_
  obtain ⟨S_222, r_222, h_222, hf⟩ := bd_some hf
  refine r_bi hw (r_runV (rest := []) C hw (m_X12_feed l D cA ad base fu h_222) mvX12_feed gw7_166 ⟨rfl, rfl, Nat.le_of_ble_eq_true rfl, Nat.le_of_ble_eq_true rfl⟩ dq_63 ln_63 vc_12 rfl hl.1 rfl (Nat.le_of_ble_eq_true rfl) dL_law_222 hc1 hs1) (fun H locs hw => ?_)
  refine lv_pop hx hb dL_law_225 rfl ?_
  refine lv_goto (tgt := 1071) hx hb dL_law_226 (by decide) ?_
  refine W.widen (k := c0 + 1) (n := s0 + 6) (by omega) (by omega) ?_
  exact kk _ _ _ (by cases hf; exact hw) (lv_sub hl [0, 1, 2, 3, 4] rfl)
noncomputable def fc_1 (fu : Nat) (a1 a2 a3 a4 a5 : Int32) (S : St) : Option (St × Int32) :=
  bd (fX11_end fu a1 S) fun S_236 r_236 =>
  bd (fX12_end fu a1 S_236) fun S_247 r_247 =>
  some (S_247, (1 : Int32))
set_option maxHeartbeats 4000000 in
set_option maxRecDepth 100000 in
theorem lc_1 {p : Program} {l : Launch} {e : Env} {s : State} {m : MethodId} {below : List Frame} {meth : Method} {c : Code} {Q : State → Prop} {D : va_G} {cA : FieldType → ClassId} {ad : Nat → Nat} {base b L0 : Nat} {xs : Nat → Int32} (hlt : l.stackTraces = false) (C : CX D cA base RL cL_law 7 p s m #[Value.ref b] c) (hX : va_X b L0 xs s s.heap) (hbl : b < s.heap.size) (hbB : ¬ aB base b) {x4 a1 a2 a3 a4 a5 : Int32} (h_in1 : vp_in (x4 + 1) L0) (h_in2 : vp_in (x4 + 2) L0) (h_in3 : vp_in (x4 + 3) L0) (h_in4 : vp_in (x4 + 4) L0) (h_in5 : vp_in (x4 + 5) L0) (ha1 : xs (x4 + 1).toNatClampNeg = a1) (ha2 : xs (x4 + 2).toNatClampNeg = a2) (ha3 : xs (x4 + 3).toNatClampNeg = a3) (ha4 : xs (x4 + 4).toNatClampNeg = a4) (ha5 : xs (x4 + 5).toNatClampNeg = a5) {c0 s0 : Nat} (hc0 : c0 + 1 ≤ room_1.cells) (hs0 : s0 + 6 ≤ room_1.slots) {fu : Nat} {S S' : St} (hf : fc_1 fu a1 a2 a3 a4 a5 S = some (S', (1 : Int32)))
    (kk : ∀ (H : Heap) (locs : List Loc) (ls : Array Slot), WS D cA ad base s S' H locs → lv_has ls 7 [(0, .ref b), (1, .ref (ad 0)), (2, .ref (ad 63)), (3, .ref (ad 106)), (4, .int x4)] → W p l e room_1 s m #[Value.ref b] below meth c H locs (c0 + 1) (s0 + 6) Q (F0 m 1071 ls []))
    {H : Heap} {locs : List Loc} {ls : Array Slot} (hw : WS D cA ad base s S H locs) (hl : lv_has ls 7 [(0, .ref b), (1, .ref (ad 0)), (2, .ref (ad 63)), (3, .ref (ad 106)), (4, .int x4)]) : W p l e room_1 s m #[Value.ref b] below meth c H locs c0 s0 Q (F0 m 229 ls []) := by
  have hx := C.1
  have hb := C.2.1
  have hc1 : c0 ≤ room_1.cells := by omega
  have hs1 : s0 ≤ room_1.slots := by omega
  refine lv_aload_n hx hb dL_law_229 rfl (lv_at hl 1 rfl) ?_
  refine lv_aload_n hx hb dL_law_230 rfl (lv_at hl 0 rfl) ?_
  refine lv_iload hx hb dL_law_231 (lv_at hl 4 rfl) ?_
  refine lv_iconst (v := (1 : Int32)) hx hb dL_law_233 (by decide) ?_
  refine lv_iadd hx hb dL_law_234 ?_
  refine r_sld C hw hX hbl hbB h_in1 ha1 dL_law_235 ?_
  obtain ⟨S_236, r_236, h_236, hf⟩ := bd_some hf
  refine r_bi hw (r_runV (rest := []) C hw (m_X11_end l D cA ad base fu h_236) mvX11_end gw2_160 ⟨rfl, rfl, Nat.le_of_ble_eq_true rfl, Nat.le_of_ble_eq_true rfl⟩ dq_0 ln_0 vc_11 rfl hl.1 rfl (Nat.le_of_ble_eq_true rfl) dL_law_236 hc1 hs1) (fun H locs hw => ?_)
  refine lv_pop hx hb dL_law_239 rfl ?_
  refine lv_aload_n hx hb dL_law_240 rfl (lv_at hl 2 rfl) ?_
  refine lv_aload_n hx hb dL_law_241 rfl (lv_at hl 0 rfl) ?_
  refine lv_iload hx hb dL_law_242 (lv_at hl 4 rfl) ?_
  refine lv_iconst (v := (1 : Int32)) hx hb dL_law_244 (by decide) ?_
  refine lv_iadd hx hb dL_law_245 ?_
  refine r_sld C hw hX hbl hbB h_in1 ha1 dL_law_246 ?_
  obtain ⟨S_247, r_247, h_247, hf⟩ := bd_some hf
  refine r_bi hw (r_runV (rest := []) C hw (m_X12_end l D cA ad base fu h_247) mvX12_end gw7_170 ⟨rfl, rfl, Nat.le_of_ble_eq_true rfl, Nat.le_of_ble_eq_true rfl⟩ dq_63 ln_63 vc_12 rfl hl.1 rfl (Nat.le_of_ble_eq_true rfl) dL_law_247 hc1 hs1) (fun H locs hw => ?_)
  refine lv_pop hx hb dL_law_250 rfl ?_
  refine lv_goto (tgt := 1071) hx hb dL_law_251 (by decide) ?_
  refine W.widen (k := c0 + 1) (n := s0 + 6) (by omega) (by omega) ?_
  exact kk _ _ _ (by cases hf; exact hw) (lv_sub hl [0, 1, 2, 3, 4] rfl)
noncomputable def fc_2 (fu : Nat) (a1 a2 a3 a4 a5 : Int32) (S : St) : Option (St × Int32) :=
  bd (fX11_turn fu a1 a2 S) fun S_267 r_267 =>
  bd (fX12_turn fu a1 a2 S_267) fun S_284 r_284 =>
  some (S_284, (1 : Int32))
set_option maxHeartbeats 4000000 in
set_option maxRecDepth 100000 in
theorem lc_2 {p : Program} {l : Launch} {e : Env} {s : State} {m : MethodId} {below : List Frame} {meth : Method} {c : Code} {Q : State → Prop} {D : va_G} {cA : FieldType → ClassId} {ad : Nat → Nat} {base b L0 : Nat} {xs : Nat → Int32} (hlt : l.stackTraces = false) (C : CX D cA base RL cL_law 7 p s m #[Value.ref b] c) (hX : va_X b L0 xs s s.heap) (hbl : b < s.heap.size) (hbB : ¬ aB base b) {x4 a1 a2 a3 a4 a5 : Int32} (h_in1 : vp_in (x4 + 1) L0) (h_in2 : vp_in (x4 + 2) L0) (h_in3 : vp_in (x4 + 3) L0) (h_in4 : vp_in (x4 + 4) L0) (h_in5 : vp_in (x4 + 5) L0) (ha1 : xs (x4 + 1).toNatClampNeg = a1) (ha2 : xs (x4 + 2).toNatClampNeg = a2) (ha3 : xs (x4 + 3).toNatClampNeg = a3) (ha4 : xs (x4 + 4).toNatClampNeg = a4) (ha5 : xs (x4 + 5).toNatClampNeg = a5) {c0 s0 : Nat} (hc0 : c0 + 1 ≤ room_1.cells) (hs0 : s0 + 6 ≤ room_1.slots) {fu : Nat} {S S' : St} (hf : fc_2 fu a1 a2 a3 a4 a5 S = some (S', (1 : Int32)))
    (kk : ∀ (H : Heap) (locs : List Loc) (ls : Array Slot), WS D cA ad base s S' H locs → lv_has ls 7 [(0, .ref b), (1, .ref (ad 0)), (2, .ref (ad 63)), (3, .ref (ad 106)), (4, .int x4)] → W p l e room_1 s m #[Value.ref b] below meth c H locs (c0 + 1) (s0 + 6) Q (F0 m 1071 ls []))
    {H : Heap} {locs : List Loc} {ls : Array Slot} (hw : WS D cA ad base s S H locs) (hl : lv_has ls 7 [(0, .ref b), (1, .ref (ad 0)), (2, .ref (ad 63)), (3, .ref (ad 106)), (4, .int x4)]) : W p l e room_1 s m #[Value.ref b] below meth c H locs c0 s0 Q (F0 m 254 ls []) := by
  have hx := C.1
  have hb := C.2.1
  have hc1 : c0 ≤ room_1.cells := by omega
  have hs1 : s0 ≤ room_1.slots := by omega
  refine lv_aload_n hx hb dL_law_254 rfl (lv_at hl 1 rfl) ?_
  refine lv_aload_n hx hb dL_law_255 rfl (lv_at hl 0 rfl) ?_
  refine lv_iload hx hb dL_law_256 (lv_at hl 4 rfl) ?_
  refine lv_iconst (v := (1 : Int32)) hx hb dL_law_258 (by decide) ?_
  refine lv_iadd hx hb dL_law_259 ?_
  refine r_sld C hw hX hbl hbB h_in1 ha1 dL_law_260 ?_
  refine lv_aload_n hx hb dL_law_261 rfl (lv_at hl 0 rfl) ?_
  refine lv_iload hx hb dL_law_262 (lv_at hl 4 rfl) ?_
  refine lv_iconst (v := (2 : Int32)) hx hb dL_law_264 (by decide) ?_
  refine lv_iadd hx hb dL_law_265 ?_
  refine r_sld C hw hX hbl hbB h_in2 ha2 dL_law_266 ?_
  obtain ⟨S_267, r_267, h_267, hf⟩ := bd_some hf
  refine r_bi hw (r_runV (rest := []) C hw (m_X11_turn l D cA ad base fu h_267) mvX11_turn gw2_168 ⟨rfl, rfl, Nat.le_of_ble_eq_true rfl, Nat.le_of_ble_eq_true rfl⟩ dq_0 ln_0 vc_11 rfl hl.1 rfl (Nat.le_of_ble_eq_true rfl) dL_law_267 hc1 hs1) (fun H locs hw => ?_)
  refine lv_pop hx hb dL_law_270 rfl ?_
  refine lv_aload_n hx hb dL_law_271 rfl (lv_at hl 2 rfl) ?_
  refine lv_aload_n hx hb dL_law_272 rfl (lv_at hl 0 rfl) ?_
  refine lv_iload hx hb dL_law_273 (lv_at hl 4 rfl) ?_
  refine lv_iconst (v := (1 : Int32)) hx hb dL_law_275 (by decide) ?_
  refine lv_iadd hx hb dL_law_276 ?_
  refine r_sld C hw hX hbl hbB h_in1 ha1 dL_law_277 ?_
  refine lv_aload_n hx hb dL_law_278 rfl (lv_at hl 0 rfl) ?_
  refine lv_iload hx hb dL_law_279 (lv_at hl 4 rfl) ?_
  refine lv_iconst (v := (2 : Int32)) hx hb dL_law_281 (by decide) ?_
  refine lv_iadd hx hb dL_law_282 ?_
  refine r_sld C hw hX hbl hbB h_in2 ha2 dL_law_283 ?_
  obtain ⟨S_284, r_284, h_284, hf⟩ := bd_some hf
  refine r_bi hw (r_runV (rest := []) C hw (m_X12_turn l D cA ad base fu h_284) mvX12_turn gw7_174 ⟨rfl, rfl, Nat.le_of_ble_eq_true rfl, Nat.le_of_ble_eq_true rfl⟩ dq_63 ln_63 vc_12 rfl hl.1 rfl (Nat.le_of_ble_eq_true rfl) dL_law_284 hc1 hs1) (fun H locs hw => ?_)
  refine lv_pop hx hb dL_law_287 rfl ?_
  refine lv_goto (tgt := 1071) hx hb dL_law_288 (by decide) ?_
  refine W.widen (k := c0 + 1) (n := s0 + 6) (by omega) (by omega) ?_
  exact kk _ _ _ (by cases hf; exact hw) (lv_sub hl [0, 1, 2, 3, 4] rfl)
noncomputable def fc_3 (fu : Nat) (a1 a2 a3 a4 a5 : Int32) (S : St) : Option (St × Int32) :=
  bd (fL_name fu S) fun S_293 r_293 =>
  bd (fX12_name fu S_293) fun S_299 r_299 =>
  some (S_299, (1 : Int32))
set_option maxHeartbeats 4000000 in
set_option maxRecDepth 100000 in
theorem lc_3 {p : Program} {l : Launch} {e : Env} {s : State} {m : MethodId} {below : List Frame} {meth : Method} {c : Code} {Q : State → Prop} {D : va_G} {cA : FieldType → ClassId} {ad : Nat → Nat} {base b L0 : Nat} {xs : Nat → Int32} (hlt : l.stackTraces = false) (C : CX D cA base RL cL_law 7 p s m #[Value.ref b] c) (hX : va_X b L0 xs s s.heap) (hbl : b < s.heap.size) (hbB : ¬ aB base b) {x4 a1 a2 a3 a4 a5 : Int32} (h_in1 : vp_in (x4 + 1) L0) (h_in2 : vp_in (x4 + 2) L0) (h_in3 : vp_in (x4 + 3) L0) (h_in4 : vp_in (x4 + 4) L0) (h_in5 : vp_in (x4 + 5) L0) (ha1 : xs (x4 + 1).toNatClampNeg = a1) (ha2 : xs (x4 + 2).toNatClampNeg = a2) (ha3 : xs (x4 + 3).toNatClampNeg = a3) (ha4 : xs (x4 + 4).toNatClampNeg = a4) (ha5 : xs (x4 + 5).toNatClampNeg = a5) {c0 s0 : Nat} (hc0 : c0 + 1 ≤ room_1.cells) (hs0 : s0 + 6 ≤ room_1.slots) {fu : Nat} {S S' : St} (hf : fc_3 fu a1 a2 a3 a4 a5 S = some (S', (1 : Int32)))
    (kk : ∀ (H : Heap) (locs : List Loc) (ls : Array Slot), WS D cA ad base s S' H locs → lv_has ls 7 [(0, .ref b), (1, .ref (ad 0)), (2, .ref (ad 63)), (3, .ref (ad 106)), (4, .int x4)] → W p l e room_1 s m #[Value.ref b] below meth c H locs (c0 + 1) (s0 + 6) Q (F0 m 1071 ls []))
    {H : Heap} {locs : List Loc} {ls : Array Slot} (hw : WS D cA ad base s S H locs) (hl : lv_has ls 7 [(0, .ref b), (1, .ref (ad 0)), (2, .ref (ad 63)), (3, .ref (ad 106)), (4, .int x4)]) : W p l e room_1 s m #[Value.ref b] below meth c H locs c0 s0 Q (F0 m 291 ls []) := by
  have hx := C.1
  have hb := C.2.1
  have hc1 : c0 ≤ room_1.cells := by omega
  have hs1 : s0 ≤ room_1.slots := by omega
  refine lv_aload_n hx hb dL_law_291 rfl (lv_at hl 1 rfl) ?_
  refine lv_aload_n hx hb dL_law_292 rfl (lv_at hl 3 rfl) ?_
  obtain ⟨S_293, r_293, h_293, hf⟩ := bd_some hf
  refine r_biW hw (r_runSW (rest := []) C hw (m_L_name l hlt D cA ad base fu h_293) msL_name gw3_103 ⟨rfl, rfl, Nat.le_of_ble_eq_true rfl, Nat.le_of_ble_eq_true rfl⟩ rfl hl.1 rfl (Nat.le_of_ble_eq_true rfl) dL_law_293 hc0 hs0) (fun H locs hw => ?_)
  refine lv_istore (lv' := [(5, .int r_293), (0, .ref b), (1, .ref (ad 0)), (2, .ref (ad 63)), (3, .ref (ad 106)), (4, .int x4)]) hx hb dL_law_296 hl (by decide) rfl (fun ls hl => ?_)
  refine lv_aload_n hx hb dL_law_298 rfl (lv_at hl 3 rfl) ?_
  obtain ⟨S_299, r_299, h_299, hf⟩ := bd_some hf
  refine r_bi hw (r_runV (rest := []) C hw (m_X12_name l D cA ad base fu h_299) mvX12_name gw7_178 ⟨rfl, rfl, Nat.le_of_ble_eq_true rfl, Nat.le_of_ble_eq_true rfl⟩ dq_63 ln_63 vc_12 rfl hl.1 rfl (Nat.le_of_ble_eq_true rfl) dL_law_299 hc0 hs0) (fun H locs hw => ?_)
  refine lv_istore (lv' := [(6, .int r_299), (5, .int r_293), (0, .ref b), (1, .ref (ad 0)), (2, .ref (ad 63)), (3, .ref (ad 106)), (4, .int x4)]) hx hb dL_law_302 hl (by decide) rfl (fun ls hl => ?_)
  refine lv_goto (tgt := 1071) hx hb dL_law_304 (by decide) ?_
  exact kk _ _ _ (by cases hf; exact hw) (lv_sub hl [2, 3, 4, 5, 6] rfl)
noncomputable def fc_4 (fu : Nat) (a1 a2 a3 a4 a5 : Int32) (S : St) : Option (St × Int32) :=
  bd (fL_look fu a1 a2 S) fun S_321 r_321 =>
  bd (fX12_look fu a1 a2 S_321) fun S_339 r_339 =>
  some (S_339, (1 : Int32))
set_option maxHeartbeats 4000000 in
set_option maxRecDepth 100000 in
theorem lc_4 {p : Program} {l : Launch} {e : Env} {s : State} {m : MethodId} {below : List Frame} {meth : Method} {c : Code} {Q : State → Prop} {D : va_G} {cA : FieldType → ClassId} {ad : Nat → Nat} {base b L0 : Nat} {xs : Nat → Int32} (hlt : l.stackTraces = false) (C : CX D cA base RL cL_law 7 p s m #[Value.ref b] c) (hX : va_X b L0 xs s s.heap) (hbl : b < s.heap.size) (hbB : ¬ aB base b) {x4 a1 a2 a3 a4 a5 : Int32} (h_in1 : vp_in (x4 + 1) L0) (h_in2 : vp_in (x4 + 2) L0) (h_in3 : vp_in (x4 + 3) L0) (h_in4 : vp_in (x4 + 4) L0) (h_in5 : vp_in (x4 + 5) L0) (ha1 : xs (x4 + 1).toNatClampNeg = a1) (ha2 : xs (x4 + 2).toNatClampNeg = a2) (ha3 : xs (x4 + 3).toNatClampNeg = a3) (ha4 : xs (x4 + 4).toNatClampNeg = a4) (ha5 : xs (x4 + 5).toNatClampNeg = a5) {c0 s0 : Nat} (hc0 : c0 + 1 ≤ room_1.cells) (hs0 : s0 + 6 ≤ room_1.slots) {fu : Nat} {S S' : St} (hf : fc_4 fu a1 a2 a3 a4 a5 S = some (S', (1 : Int32)))
    (kk : ∀ (H : Heap) (locs : List Loc) (ls : Array Slot), WS D cA ad base s S' H locs → lv_has ls 7 [(0, .ref b), (1, .ref (ad 0)), (2, .ref (ad 63)), (3, .ref (ad 106)), (4, .int x4)] → W p l e room_1 s m #[Value.ref b] below meth c H locs (c0 + 1) (s0 + 6) Q (F0 m 1071 ls []))
    {H : Heap} {locs : List Loc} {ls : Array Slot} (hw : WS D cA ad base s S H locs) (hl : lv_has ls 7 [(0, .ref b), (1, .ref (ad 0)), (2, .ref (ad 63)), (3, .ref (ad 106)), (4, .int x4)]) : W p l e room_1 s m #[Value.ref b] below meth c H locs c0 s0 Q (F0 m 307 ls []) := by
  have hx := C.1
  have hb := C.2.1
  have hc1 : c0 ≤ room_1.cells := by omega
  have hs1 : s0 ≤ room_1.slots := by omega
  refine lv_aload_n hx hb dL_law_307 rfl (lv_at hl 1 rfl) ?_
  refine lv_aload_n hx hb dL_law_308 rfl (lv_at hl 0 rfl) ?_
  refine lv_iload hx hb dL_law_309 (lv_at hl 4 rfl) ?_
  refine lv_iconst (v := (1 : Int32)) hx hb dL_law_311 (by decide) ?_
  refine lv_iadd hx hb dL_law_312 ?_
  refine r_sld C hw hX hbl hbB h_in1 ha1 dL_law_313 ?_
  refine lv_aload_n hx hb dL_law_314 rfl (lv_at hl 0 rfl) ?_
  refine lv_iload hx hb dL_law_315 (lv_at hl 4 rfl) ?_
  refine lv_iconst (v := (2 : Int32)) hx hb dL_law_317 (by decide) ?_
  refine lv_iadd hx hb dL_law_318 ?_
  refine r_sld C hw hX hbl hbB h_in2 ha2 dL_law_319 ?_
  refine lv_aload_n hx hb dL_law_320 rfl (lv_at hl 3 rfl) ?_
  obtain ⟨S_321, r_321, h_321, hf⟩ := bd_some hf
  refine r_biW hw (r_runSW (rest := []) C hw (m_L_look l hlt D cA ad base fu h_321) msL_look gw3_212 ⟨rfl, rfl, Nat.le_of_ble_eq_true rfl, Nat.le_of_ble_eq_true rfl⟩ rfl hl.1 rfl (Nat.le_of_ble_eq_true rfl) dL_law_321 hc0 hs0) (fun H locs hw => ?_)
  refine lv_istore (lv' := [(5, .int r_321), (0, .ref b), (1, .ref (ad 0)), (2, .ref (ad 63)), (3, .ref (ad 106)), (4, .int x4)]) hx hb dL_law_324 hl (by decide) rfl (fun ls hl => ?_)
  refine lv_aload_n hx hb dL_law_326 rfl (lv_at hl 3 rfl) ?_
  refine lv_aload_n hx hb dL_law_327 rfl (lv_at hl 1 rfl) ?_
  refine lv_iload hx hb dL_law_328 (lv_at hl 5 rfl) ?_
  refine lv_iconst (v := (1 : Int32)) hx hb dL_law_330 (by decide) ?_
  refine lv_iadd hx hb dL_law_331 ?_
  refine r_sld C hw hX hbl hbB h_in1 ha1 dL_law_332 ?_
  refine lv_aload_n hx hb dL_law_333 rfl (lv_at hl 1 rfl) ?_
  refine lv_iload hx hb dL_law_334 (lv_at hl 5 rfl) ?_
  refine lv_iconst (v := (2 : Int32)) hx hb dL_law_336 (by decide) ?_
  refine lv_iadd hx hb dL_law_337 ?_
  refine r_sld C hw hX hbl hbB h_in2 ha2 dL_law_338 ?_
  obtain ⟨S_339, r_339, h_339, hf⟩ := bd_some hf
  refine r_bi hw (r_runV (rest := []) C hw (m_X12_look l D cA ad base fu h_339) mvX12_look gw7_213 ⟨rfl, rfl, Nat.le_of_ble_eq_true rfl, Nat.le_of_ble_eq_true rfl⟩ dq_63 ln_63 vc_12 rfl hl.1 rfl (Nat.le_of_ble_eq_true rfl) dL_law_339 hc0 hs0) (fun H locs hw => ?_)
  refine lv_istore (lv' := [(6, .int r_339), (5, .int r_321), (0, .ref b), (1, .ref (ad 0)), (2, .ref (ad 63)), (3, .ref (ad 106)), (4, .int x4)]) hx hb dL_law_342 hl (by decide) rfl (fun ls hl => ?_)
  refine lv_goto (tgt := 1071) hx hb dL_law_344 (by decide) ?_
  exact kk _ _ _ (by cases hf; exact hw) (lv_sub hl [2, 3, 4, 5, 6] rfl)
noncomputable def fc_5 (fu : Nat) (a1 a2 a3 a4 a5 : Int32) (S : St) : Option (St × Int32) :=
  bd (fL_text fu a1 a2 S) fun S_361 r_361 =>
  bd (fX12_text fu a1 a2 S_361) fun S_379 r_379 =>
  some (S_379, (1 : Int32))
set_option maxHeartbeats 4000000 in
set_option maxRecDepth 100000 in
theorem lc_5 {p : Program} {l : Launch} {e : Env} {s : State} {m : MethodId} {below : List Frame} {meth : Method} {c : Code} {Q : State → Prop} {D : va_G} {cA : FieldType → ClassId} {ad : Nat → Nat} {base b L0 : Nat} {xs : Nat → Int32} (hlt : l.stackTraces = false) (C : CX D cA base RL cL_law 7 p s m #[Value.ref b] c) (hX : va_X b L0 xs s s.heap) (hbl : b < s.heap.size) (hbB : ¬ aB base b) {x4 a1 a2 a3 a4 a5 : Int32} (h_in1 : vp_in (x4 + 1) L0) (h_in2 : vp_in (x4 + 2) L0) (h_in3 : vp_in (x4 + 3) L0) (h_in4 : vp_in (x4 + 4) L0) (h_in5 : vp_in (x4 + 5) L0) (ha1 : xs (x4 + 1).toNatClampNeg = a1) (ha2 : xs (x4 + 2).toNatClampNeg = a2) (ha3 : xs (x4 + 3).toNatClampNeg = a3) (ha4 : xs (x4 + 4).toNatClampNeg = a4) (ha5 : xs (x4 + 5).toNatClampNeg = a5) {c0 s0 : Nat} (hc0 : c0 + 1 ≤ room_1.cells) (hs0 : s0 + 6 ≤ room_1.slots) {fu : Nat} {S S' : St} (hf : fc_5 fu a1 a2 a3 a4 a5 S = some (S', (1 : Int32)))
    (kk : ∀ (H : Heap) (locs : List Loc) (ls : Array Slot), WS D cA ad base s S' H locs → lv_has ls 7 [(0, .ref b), (1, .ref (ad 0)), (2, .ref (ad 63)), (3, .ref (ad 106)), (4, .int x4)] → W p l e room_1 s m #[Value.ref b] below meth c H locs (c0 + 1) (s0 + 6) Q (F0 m 1071 ls []))
    {H : Heap} {locs : List Loc} {ls : Array Slot} (hw : WS D cA ad base s S H locs) (hl : lv_has ls 7 [(0, .ref b), (1, .ref (ad 0)), (2, .ref (ad 63)), (3, .ref (ad 106)), (4, .int x4)]) : W p l e room_1 s m #[Value.ref b] below meth c H locs c0 s0 Q (F0 m 347 ls []) := by
  have hx := C.1
  have hb := C.2.1
  have hc1 : c0 ≤ room_1.cells := by omega
  have hs1 : s0 ≤ room_1.slots := by omega
  refine lv_aload_n hx hb dL_law_347 rfl (lv_at hl 1 rfl) ?_
  refine lv_aload_n hx hb dL_law_348 rfl (lv_at hl 0 rfl) ?_
  refine lv_iload hx hb dL_law_349 (lv_at hl 4 rfl) ?_
  refine lv_iconst (v := (1 : Int32)) hx hb dL_law_351 (by decide) ?_
  refine lv_iadd hx hb dL_law_352 ?_
  refine r_sld C hw hX hbl hbB h_in1 ha1 dL_law_353 ?_
  refine lv_aload_n hx hb dL_law_354 rfl (lv_at hl 0 rfl) ?_
  refine lv_iload hx hb dL_law_355 (lv_at hl 4 rfl) ?_
  refine lv_iconst (v := (2 : Int32)) hx hb dL_law_357 (by decide) ?_
  refine lv_iadd hx hb dL_law_358 ?_
  refine r_sld C hw hX hbl hbB h_in2 ha2 dL_law_359 ?_
  refine lv_aload_n hx hb dL_law_360 rfl (lv_at hl 3 rfl) ?_
  obtain ⟨S_361, r_361, h_361, hf⟩ := bd_some hf
  refine r_biW hw (r_runSW (rest := []) C hw (m_L_text l hlt D cA ad base fu h_361) msL_text gw4_38 ⟨rfl, rfl, Nat.le_of_ble_eq_true rfl, Nat.le_of_ble_eq_true rfl⟩ rfl hl.1 rfl (Nat.le_of_ble_eq_true rfl) dL_law_361 hc0 hs0) (fun H locs hw => ?_)
  refine lv_istore (lv' := [(5, .int r_361), (0, .ref b), (1, .ref (ad 0)), (2, .ref (ad 63)), (3, .ref (ad 106)), (4, .int x4)]) hx hb dL_law_364 hl (by decide) rfl (fun ls hl => ?_)
  refine lv_aload_n hx hb dL_law_366 rfl (lv_at hl 3 rfl) ?_
  refine lv_aload_n hx hb dL_law_367 rfl (lv_at hl 1 rfl) ?_
  refine lv_iload hx hb dL_law_368 (lv_at hl 5 rfl) ?_
  refine lv_iconst (v := (1 : Int32)) hx hb dL_law_370 (by decide) ?_
  refine lv_iadd hx hb dL_law_371 ?_
  refine r_sld C hw hX hbl hbB h_in1 ha1 dL_law_372 ?_
  refine lv_aload_n hx hb dL_law_373 rfl (lv_at hl 1 rfl) ?_
  refine lv_iload hx hb dL_law_374 (lv_at hl 5 rfl) ?_
  refine lv_iconst (v := (2 : Int32)) hx hb dL_law_376 (by decide) ?_
  refine lv_iadd hx hb dL_law_377 ?_
  refine r_sld C hw hX hbl hbB h_in2 ha2 dL_law_378 ?_
  obtain ⟨S_379, r_379, h_379, hf⟩ := bd_some hf
  refine r_bi hw (r_runV (rest := []) C hw (m_X12_text l D cA ad base fu h_379) mvX12_text gw7_225 ⟨rfl, rfl, Nat.le_of_ble_eq_true rfl, Nat.le_of_ble_eq_true rfl⟩ dq_63 ln_63 vc_12 rfl hl.1 rfl (Nat.le_of_ble_eq_true rfl) dL_law_379 hc0 hs0) (fun H locs hw => ?_)
  refine lv_istore (lv' := [(6, .int r_379), (5, .int r_361), (0, .ref b), (1, .ref (ad 0)), (2, .ref (ad 63)), (3, .ref (ad 106)), (4, .int x4)]) hx hb dL_law_382 hl (by decide) rfl (fun ls hl => ?_)
  refine lv_goto (tgt := 1071) hx hb dL_law_384 (by decide) ?_
  exact kk _ _ _ (by cases hf; exact hw) (lv_sub hl [2, 3, 4, 5, 6] rfl)
noncomputable def fc_6 (fu : Nat) (a1 a2 a3 a4 a5 : Int32) (S : St) : Option (St × Int32) :=
  bd (fL_zone fu a1 a2 S) fun S_401 r_401 =>
  bd (fX12_zone fu a1 a2 S_401) fun S_419 r_419 =>
  some (S_419, (1 : Int32))
set_option maxHeartbeats 4000000 in
set_option maxRecDepth 100000 in
theorem lc_6 {p : Program} {l : Launch} {e : Env} {s : State} {m : MethodId} {below : List Frame} {meth : Method} {c : Code} {Q : State → Prop} {D : va_G} {cA : FieldType → ClassId} {ad : Nat → Nat} {base b L0 : Nat} {xs : Nat → Int32} (hlt : l.stackTraces = false) (C : CX D cA base RL cL_law 7 p s m #[Value.ref b] c) (hX : va_X b L0 xs s s.heap) (hbl : b < s.heap.size) (hbB : ¬ aB base b) {x4 a1 a2 a3 a4 a5 : Int32} (h_in1 : vp_in (x4 + 1) L0) (h_in2 : vp_in (x4 + 2) L0) (h_in3 : vp_in (x4 + 3) L0) (h_in4 : vp_in (x4 + 4) L0) (h_in5 : vp_in (x4 + 5) L0) (ha1 : xs (x4 + 1).toNatClampNeg = a1) (ha2 : xs (x4 + 2).toNatClampNeg = a2) (ha3 : xs (x4 + 3).toNatClampNeg = a3) (ha4 : xs (x4 + 4).toNatClampNeg = a4) (ha5 : xs (x4 + 5).toNatClampNeg = a5) {c0 s0 : Nat} (hc0 : c0 + 1 ≤ room_1.cells) (hs0 : s0 + 6 ≤ room_1.slots) {fu : Nat} {S S' : St} (hf : fc_6 fu a1 a2 a3 a4 a5 S = some (S', (1 : Int32)))
    (kk : ∀ (H : Heap) (locs : List Loc) (ls : Array Slot), WS D cA ad base s S' H locs → lv_has ls 7 [(0, .ref b), (1, .ref (ad 0)), (2, .ref (ad 63)), (3, .ref (ad 106)), (4, .int x4)] → W p l e room_1 s m #[Value.ref b] below meth c H locs (c0 + 1) (s0 + 6) Q (F0 m 1071 ls []))
    {H : Heap} {locs : List Loc} {ls : Array Slot} (hw : WS D cA ad base s S H locs) (hl : lv_has ls 7 [(0, .ref b), (1, .ref (ad 0)), (2, .ref (ad 63)), (3, .ref (ad 106)), (4, .int x4)]) : W p l e room_1 s m #[Value.ref b] below meth c H locs c0 s0 Q (F0 m 387 ls []) := by
  have hx := C.1
  have hb := C.2.1
  have hc1 : c0 ≤ room_1.cells := by omega
  have hs1 : s0 ≤ room_1.slots := by omega
  refine lv_aload_n hx hb dL_law_387 rfl (lv_at hl 1 rfl) ?_
  refine lv_aload_n hx hb dL_law_388 rfl (lv_at hl 0 rfl) ?_
  refine lv_iload hx hb dL_law_389 (lv_at hl 4 rfl) ?_
  refine lv_iconst (v := (1 : Int32)) hx hb dL_law_391 (by decide) ?_
  refine lv_iadd hx hb dL_law_392 ?_
  refine r_sld C hw hX hbl hbB h_in1 ha1 dL_law_393 ?_
  refine lv_aload_n hx hb dL_law_394 rfl (lv_at hl 0 rfl) ?_
  refine lv_iload hx hb dL_law_395 (lv_at hl 4 rfl) ?_
  refine lv_iconst (v := (2 : Int32)) hx hb dL_law_397 (by decide) ?_
  refine lv_iadd hx hb dL_law_398 ?_
  refine r_sld C hw hX hbl hbB h_in2 ha2 dL_law_399 ?_
  refine lv_aload_n hx hb dL_law_400 rfl (lv_at hl 3 rfl) ?_
  obtain ⟨S_401, r_401, h_401, hf⟩ := bd_some hf
  refine r_biW hw (r_runSW (rest := []) C hw (m_L_zone l hlt D cA ad base fu h_401) msL_zone gw4_54 ⟨rfl, rfl, Nat.le_of_ble_eq_true rfl, Nat.le_of_ble_eq_true rfl⟩ rfl hl.1 rfl (Nat.le_of_ble_eq_true rfl) dL_law_401 hc0 hs0) (fun H locs hw => ?_)
  refine lv_istore (lv' := [(5, .int r_401), (0, .ref b), (1, .ref (ad 0)), (2, .ref (ad 63)), (3, .ref (ad 106)), (4, .int x4)]) hx hb dL_law_404 hl (by decide) rfl (fun ls hl => ?_)
  refine lv_aload_n hx hb dL_law_406 rfl (lv_at hl 3 rfl) ?_
  refine lv_aload_n hx hb dL_law_407 rfl (lv_at hl 1 rfl) ?_
  refine lv_iload hx hb dL_law_408 (lv_at hl 5 rfl) ?_
  refine lv_iconst (v := (1 : Int32)) hx hb dL_law_410 (by decide) ?_
  refine lv_iadd hx hb dL_law_411 ?_
  refine r_sld C hw hX hbl hbB h_in1 ha1 dL_law_412 ?_
  refine lv_aload_n hx hb dL_law_413 rfl (lv_at hl 1 rfl) ?_
  refine lv_iload hx hb dL_law_414 (lv_at hl 5 rfl) ?_
  refine lv_iconst (v := (2 : Int32)) hx hb dL_law_416 (by decide) ?_
  refine lv_iadd hx hb dL_law_417 ?_
  refine r_sld C hw hX hbl hbB h_in2 ha2 dL_law_418 ?_
  obtain ⟨S_419, r_419, h_419, hf⟩ := bd_some hf
  refine r_bi hw (r_runV (rest := []) C hw (m_X12_zone l D cA ad base fu h_419) mvX12_zone gw7_229 ⟨rfl, rfl, Nat.le_of_ble_eq_true rfl, Nat.le_of_ble_eq_true rfl⟩ dq_63 ln_63 vc_12 rfl hl.1 rfl (Nat.le_of_ble_eq_true rfl) dL_law_419 hc0 hs0) (fun H locs hw => ?_)
  refine lv_istore (lv' := [(6, .int r_419), (5, .int r_401), (0, .ref b), (1, .ref (ad 0)), (2, .ref (ad 63)), (3, .ref (ad 106)), (4, .int x4)]) hx hb dL_law_422 hl (by decide) rfl (fun ls hl => ?_)
  refine lv_goto (tgt := 1071) hx hb dL_law_424 (by decide) ?_
  exact kk _ _ _ (by cases hf; exact hw) (lv_sub hl [2, 3, 4, 5, 6] rfl)
noncomputable def fc_7 (fu : Nat) (a1 a2 a3 a4 a5 : Int32) (S : St) : Option (St × Int32) :=
  bd (fL_record fu a1 a2 a3 a4 a5 S) fun S_459 r_459 =>
  bd (fX12_record fu a1 a2 a3 a4 a5 S_459) fun S_495 r_495 =>
  some (S_495, (1 : Int32))
set_option maxHeartbeats 4000000 in
set_option maxRecDepth 100000 in
theorem lc_7 {p : Program} {l : Launch} {e : Env} {s : State} {m : MethodId} {below : List Frame} {meth : Method} {c : Code} {Q : State → Prop} {D : va_G} {cA : FieldType → ClassId} {ad : Nat → Nat} {base b L0 : Nat} {xs : Nat → Int32} (hlt : l.stackTraces = false) (C : CX D cA base RL cL_law 7 p s m #[Value.ref b] c) (hX : va_X b L0 xs s s.heap) (hbl : b < s.heap.size) (hbB : ¬ aB base b) {x4 a1 a2 a3 a4 a5 : Int32} (h_in1 : vp_in (x4 + 1) L0) (h_in2 : vp_in (x4 + 2) L0) (h_in3 : vp_in (x4 + 3) L0) (h_in4 : vp_in (x4 + 4) L0) (h_in5 : vp_in (x4 + 5) L0) (ha1 : xs (x4 + 1).toNatClampNeg = a1) (ha2 : xs (x4 + 2).toNatClampNeg = a2) (ha3 : xs (x4 + 3).toNatClampNeg = a3) (ha4 : xs (x4 + 4).toNatClampNeg = a4) (ha5 : xs (x4 + 5).toNatClampNeg = a5) {c0 s0 : Nat} (hc0 : c0 + 1 ≤ room_1.cells) (hs0 : s0 + 6 ≤ room_1.slots) {fu : Nat} {S S' : St} (hf : fc_7 fu a1 a2 a3 a4 a5 S = some (S', (1 : Int32)))
    (kk : ∀ (H : Heap) (locs : List Loc) (ls : Array Slot), WS D cA ad base s S' H locs → lv_has ls 7 [(0, .ref b), (1, .ref (ad 0)), (2, .ref (ad 63)), (3, .ref (ad 106)), (4, .int x4)] → W p l e room_1 s m #[Value.ref b] below meth c H locs (c0 + 1) (s0 + 6) Q (F0 m 1071 ls []))
    {H : Heap} {locs : List Loc} {ls : Array Slot} (hw : WS D cA ad base s S H locs) (hl : lv_has ls 7 [(0, .ref b), (1, .ref (ad 0)), (2, .ref (ad 63)), (3, .ref (ad 106)), (4, .int x4)]) : W p l e room_1 s m #[Value.ref b] below meth c H locs c0 s0 Q (F0 m 427 ls []) := by
  have hx := C.1
  have hb := C.2.1
  have hc1 : c0 ≤ room_1.cells := by omega
  have hs1 : s0 ≤ room_1.slots := by omega
  refine lv_aload_n hx hb dL_law_427 rfl (lv_at hl 1 rfl) ?_
  refine lv_aload_n hx hb dL_law_428 rfl (lv_at hl 0 rfl) ?_
  refine lv_iload hx hb dL_law_429 (lv_at hl 4 rfl) ?_
  refine lv_iconst (v := (1 : Int32)) hx hb dL_law_431 (by decide) ?_
  refine lv_iadd hx hb dL_law_432 ?_
  refine r_sld C hw hX hbl hbB h_in1 ha1 dL_law_433 ?_
  refine lv_aload_n hx hb dL_law_434 rfl (lv_at hl 0 rfl) ?_
  refine lv_iload hx hb dL_law_435 (lv_at hl 4 rfl) ?_
  refine lv_iconst (v := (2 : Int32)) hx hb dL_law_437 (by decide) ?_
  refine lv_iadd hx hb dL_law_438 ?_
  refine r_sld C hw hX hbl hbB h_in2 ha2 dL_law_439 ?_
  refine lv_aload_n hx hb dL_law_440 rfl (lv_at hl 0 rfl) ?_
  refine lv_iload hx hb dL_law_441 (lv_at hl 4 rfl) ?_
  refine lv_iconst (v := (3 : Int32)) hx hb dL_law_443 (by decide) ?_
  refine lv_iadd hx hb dL_law_444 ?_
  refine r_sld C hw hX hbl hbB h_in3 ha3 dL_law_445 ?_
  refine lv_aload_n hx hb dL_law_446 rfl (lv_at hl 0 rfl) ?_
  refine lv_iload hx hb dL_law_447 (lv_at hl 4 rfl) ?_
  refine lv_iconst (v := (4 : Int32)) hx hb dL_law_449 (by decide) ?_
  refine lv_iadd hx hb dL_law_450 ?_
  refine r_sld C hw hX hbl hbB h_in4 ha4 dL_law_451 ?_
  refine lv_aload_n hx hb dL_law_452 rfl (lv_at hl 0 rfl) ?_
  refine lv_iload hx hb dL_law_453 (lv_at hl 4 rfl) ?_
  refine lv_iconst (v := (5 : Int32)) hx hb dL_law_455 (by decide) ?_
  refine lv_iadd hx hb dL_law_456 ?_
  refine r_sld C hw hX hbl hbB h_in5 ha5 dL_law_457 ?_
  refine lv_aload_n hx hb dL_law_458 rfl (lv_at hl 3 rfl) ?_
  obtain ⟨S_459, r_459, h_459, hf⟩ := bd_some hf
  refine r_biW hw (r_runSW (rest := []) C hw (m_L_record l hlt D cA ad base fu h_459) msL_record gw4_75 ⟨rfl, rfl, Nat.le_of_ble_eq_true rfl, Nat.le_of_ble_eq_true rfl⟩ rfl hl.1 rfl (Nat.le_of_ble_eq_true rfl) dL_law_459 hc0 hs0) (fun H locs hw => ?_)
  refine lv_istore (lv' := [(5, .int r_459), (0, .ref b), (1, .ref (ad 0)), (2, .ref (ad 63)), (3, .ref (ad 106)), (4, .int x4)]) hx hb dL_law_462 hl (by decide) rfl (fun ls hl => ?_)
  refine lv_aload_n hx hb dL_law_464 rfl (lv_at hl 3 rfl) ?_
  refine lv_aload_n hx hb dL_law_465 rfl (lv_at hl 1 rfl) ?_
  refine lv_iload hx hb dL_law_466 (lv_at hl 5 rfl) ?_
  refine lv_iconst (v := (1 : Int32)) hx hb dL_law_468 (by decide) ?_
  refine lv_iadd hx hb dL_law_469 ?_
  refine r_sld C hw hX hbl hbB h_in1 ha1 dL_law_470 ?_
  refine lv_aload_n hx hb dL_law_471 rfl (lv_at hl 1 rfl) ?_
  refine lv_iload hx hb dL_law_472 (lv_at hl 5 rfl) ?_
  refine lv_iconst (v := (2 : Int32)) hx hb dL_law_474 (by decide) ?_
  refine lv_iadd hx hb dL_law_475 ?_
  refine r_sld C hw hX hbl hbB h_in2 ha2 dL_law_476 ?_
  refine lv_aload_n hx hb dL_law_477 rfl (lv_at hl 1 rfl) ?_
  refine lv_iload hx hb dL_law_478 (lv_at hl 5 rfl) ?_
  refine lv_iconst (v := (3 : Int32)) hx hb dL_law_480 (by decide) ?_
  refine lv_iadd hx hb dL_law_481 ?_
  refine r_sld C hw hX hbl hbB h_in3 ha3 dL_law_482 ?_
  refine lv_aload_n hx hb dL_law_483 rfl (lv_at hl 1 rfl) ?_
  refine lv_iload hx hb dL_law_484 (lv_at hl 5 rfl) ?_
  refine lv_iconst (v := (4 : Int32)) hx hb dL_law_486 (by decide) ?_
  refine lv_iadd hx hb dL_law_487 ?_
  refine r_sld C hw hX hbl hbB h_in4 ha4 dL_law_488 ?_
  refine lv_aload_n hx hb dL_law_489 rfl (lv_at hl 1 rfl) ?_
  refine lv_iload hx hb dL_law_490 (lv_at hl 5 rfl) ?_
  refine lv_iconst (v := (5 : Int32)) hx hb dL_law_492 (by decide) ?_
  refine lv_iadd hx hb dL_law_493 ?_
  refine r_sld C hw hX hbl hbB h_in5 ha5 dL_law_494 ?_
  obtain ⟨S_495, r_495, h_495, hf⟩ := bd_some hf
  refine r_bi hw (r_runV (rest := []) C hw (m_X12_record l D cA ad base fu h_495) mvX12_record gw7_237 ⟨rfl, rfl, Nat.le_of_ble_eq_true rfl, Nat.le_of_ble_eq_true rfl⟩ dq_63 ln_63 vc_12 rfl hl.1 rfl (Nat.le_of_ble_eq_true rfl) dL_law_495 hc0 hs0) (fun H locs hw => ?_)
  refine lv_istore (lv' := [(6, .int r_495), (5, .int r_459), (0, .ref b), (1, .ref (ad 0)), (2, .ref (ad 63)), (3, .ref (ad 106)), (4, .int x4)]) hx hb dL_law_498 hl (by decide) rfl (fun ls hl => ?_)
  refine lv_goto (tgt := 1071) hx hb dL_law_500 (by decide) ?_
  exact kk _ _ _ (by cases hf; exact hw) (lv_sub hl [2, 3, 4, 5, 6] rfl)
noncomputable def fc_8 (fu : Nat) (a1 a2 a3 a4 a5 : Int32) (S : St) : Option (St × Int32) :=
  bd (fL_drop fu a1 a2 a3 S) fun S_523 r_523 =>
  bd (fX12_drop fu a1 a2 a3 S_523) fun S_547 r_547 =>
  some (S_547, (1 : Int32))
set_option maxHeartbeats 4000000 in
set_option maxRecDepth 100000 in
theorem lc_8 {p : Program} {l : Launch} {e : Env} {s : State} {m : MethodId} {below : List Frame} {meth : Method} {c : Code} {Q : State → Prop} {D : va_G} {cA : FieldType → ClassId} {ad : Nat → Nat} {base b L0 : Nat} {xs : Nat → Int32} (hlt : l.stackTraces = false) (C : CX D cA base RL cL_law 7 p s m #[Value.ref b] c) (hX : va_X b L0 xs s s.heap) (hbl : b < s.heap.size) (hbB : ¬ aB base b) {x4 a1 a2 a3 a4 a5 : Int32} (h_in1 : vp_in (x4 + 1) L0) (h_in2 : vp_in (x4 + 2) L0) (h_in3 : vp_in (x4 + 3) L0) (h_in4 : vp_in (x4 + 4) L0) (h_in5 : vp_in (x4 + 5) L0) (ha1 : xs (x4 + 1).toNatClampNeg = a1) (ha2 : xs (x4 + 2).toNatClampNeg = a2) (ha3 : xs (x4 + 3).toNatClampNeg = a3) (ha4 : xs (x4 + 4).toNatClampNeg = a4) (ha5 : xs (x4 + 5).toNatClampNeg = a5) {c0 s0 : Nat} (hc0 : c0 + 1 ≤ room_1.cells) (hs0 : s0 + 6 ≤ room_1.slots) {fu : Nat} {S S' : St} (hf : fc_8 fu a1 a2 a3 a4 a5 S = some (S', (1 : Int32)))
    (kk : ∀ (H : Heap) (locs : List Loc) (ls : Array Slot), WS D cA ad base s S' H locs → lv_has ls 7 [(0, .ref b), (1, .ref (ad 0)), (2, .ref (ad 63)), (3, .ref (ad 106)), (4, .int x4)] → W p l e room_1 s m #[Value.ref b] below meth c H locs (c0 + 1) (s0 + 6) Q (F0 m 1071 ls []))
    {H : Heap} {locs : List Loc} {ls : Array Slot} (hw : WS D cA ad base s S H locs) (hl : lv_has ls 7 [(0, .ref b), (1, .ref (ad 0)), (2, .ref (ad 63)), (3, .ref (ad 106)), (4, .int x4)]) : W p l e room_1 s m #[Value.ref b] below meth c H locs c0 s0 Q (F0 m 503 ls []) := by
  have hx := C.1
  have hb := C.2.1
  have hc1 : c0 ≤ room_1.cells := by omega
  have hs1 : s0 ≤ room_1.slots := by omega
  refine lv_aload_n hx hb dL_law_503 rfl (lv_at hl 1 rfl) ?_
  refine lv_aload_n hx hb dL_law_504 rfl (lv_at hl 0 rfl) ?_
  refine lv_iload hx hb dL_law_505 (lv_at hl 4 rfl) ?_
  refine lv_iconst (v := (1 : Int32)) hx hb dL_law_507 (by decide) ?_
  refine lv_iadd hx hb dL_law_508 ?_
  refine r_sld C hw hX hbl hbB h_in1 ha1 dL_law_509 ?_
  refine lv_aload_n hx hb dL_law_510 rfl (lv_at hl 0 rfl) ?_
  refine lv_iload hx hb dL_law_511 (lv_at hl 4 rfl) ?_
  refine lv_iconst (v := (2 : Int32)) hx hb dL_law_513 (by decide) ?_
  refine lv_iadd hx hb dL_law_514 ?_
  refine r_sld C hw hX hbl hbB h_in2 ha2 dL_law_515 ?_
  refine lv_aload_n hx hb dL_law_516 rfl (lv_at hl 0 rfl) ?_
  refine lv_iload hx hb dL_law_517 (lv_at hl 4 rfl) ?_
  refine lv_iconst (v := (3 : Int32)) hx hb dL_law_519 (by decide) ?_
  refine lv_iadd hx hb dL_law_520 ?_
  refine r_sld C hw hX hbl hbB h_in3 ha3 dL_law_521 ?_
  refine lv_aload_n hx hb dL_law_522 rfl (lv_at hl 3 rfl) ?_
  obtain ⟨S_523, r_523, h_523, hf⟩ := bd_some hf
  refine r_biW hw (r_runSW (rest := []) C hw (m_L_drop l hlt D cA ad base fu h_523) msL_drop gw4_113 ⟨rfl, rfl, Nat.le_of_ble_eq_true rfl, Nat.le_of_ble_eq_true rfl⟩ rfl hl.1 rfl (Nat.le_of_ble_eq_true rfl) dL_law_523 hc0 hs0) (fun H locs hw => ?_)
  refine lv_istore (lv' := [(5, .int r_523), (0, .ref b), (1, .ref (ad 0)), (2, .ref (ad 63)), (3, .ref (ad 106)), (4, .int x4)]) hx hb dL_law_526 hl (by decide) rfl (fun ls hl => ?_)
  refine lv_aload_n hx hb dL_law_528 rfl (lv_at hl 3 rfl) ?_
  refine lv_aload_n hx hb dL_law_529 rfl (lv_at hl 1 rfl) ?_
  refine lv_iload hx hb dL_law_530 (lv_at hl 5 rfl) ?_
  refine lv_iconst (v := (1 : Int32)) hx hb dL_law_532 (by decide) ?_
  refine lv_iadd hx hb dL_law_533 ?_
  refine r_sld C hw hX hbl hbB h_in1 ha1 dL_law_534 ?_
  refine lv_aload_n hx hb dL_law_535 rfl (lv_at hl 1 rfl) ?_
  refine lv_iload hx hb dL_law_536 (lv_at hl 5 rfl) ?_
  refine lv_iconst (v := (2 : Int32)) hx hb dL_law_538 (by decide) ?_
  refine lv_iadd hx hb dL_law_539 ?_
  refine r_sld C hw hX hbl hbB h_in2 ha2 dL_law_540 ?_
  refine lv_aload_n hx hb dL_law_541 rfl (lv_at hl 1 rfl) ?_
  refine lv_iload hx hb dL_law_542 (lv_at hl 5 rfl) ?_
  refine lv_iconst (v := (3 : Int32)) hx hb dL_law_544 (by decide) ?_
  refine lv_iadd hx hb dL_law_545 ?_
  refine r_sld C hw hX hbl hbB h_in3 ha3 dL_law_546 ?_
  obtain ⟨S_547, r_547, h_547, hf⟩ := bd_some hf
  refine r_bi hw (r_runV (rest := []) C hw (m_X12_drop l D cA ad base fu h_547) mvX12_drop gw8_16 ⟨rfl, rfl, Nat.le_of_ble_eq_true rfl, Nat.le_of_ble_eq_true rfl⟩ dq_63 ln_63 vc_12 rfl hl.1 rfl (Nat.le_of_ble_eq_true rfl) dL_law_547 hc0 hs0) (fun H locs hw => ?_)
  refine lv_istore (lv' := [(6, .int r_547), (5, .int r_523), (0, .ref b), (1, .ref (ad 0)), (2, .ref (ad 63)), (3, .ref (ad 106)), (4, .int x4)]) hx hb dL_law_550 hl (by decide) rfl (fun ls hl => ?_)
  refine lv_goto (tgt := 1071) hx hb dL_law_552 (by decide) ?_
  exact kk _ _ _ (by cases hf; exact hw) (lv_sub hl [2, 3, 4, 5, 6] rfl)
noncomputable def fc_9_608 (fu : Nat) (a1 a2 a3 a4 a5 : Int32) (S : St) : Option (St × Int32) :=
  some (S, (1 : Int32))
noncomputable def fc_9 (fu : Nat) (a1 a2 a3 a4 a5 : Int32) (S : St) : Option (St × Int32) :=
  bd (fL_server fu a1 S) fun S_563 r_563 =>
  bd (fX12_server fu a1 S_563) fun S_575 r_575 =>
  bd (fX12_thrown fu S_575) fun S_581 r_581 =>
  if r_581 = r_563 then
    if r_563 = 0 then
      gd (ck (0 : Int32) 1) <|
      if (lg_cmp (S_581.2 106 ((0 : Int32)).toNatClampNeg) (r_575).toInt64) = 0 then
        fc_9_608 fu a1 a2 a3 a4 a5 S_581
      else
        some (S_581, (0 : Int32))
    else
      fc_9_608 fu a1 a2 a3 a4 a5 S_581
  else
    some (S_581, (0 : Int32))
set_option maxHeartbeats 4000000 in
set_option maxRecDepth 100000 in
theorem lc_9 {p : Program} {l : Launch} {e : Env} {s : State} {m : MethodId} {below : List Frame} {meth : Method} {c : Code} {Q : State → Prop} {D : va_G} {cA : FieldType → ClassId} {ad : Nat → Nat} {base b L0 : Nat} {xs : Nat → Int32} (hlt : l.stackTraces = false) (C : CX D cA base RL cL_law 7 p s m #[Value.ref b] c) (hX : va_X b L0 xs s s.heap) (hbl : b < s.heap.size) (hbB : ¬ aB base b) {x4 a1 a2 a3 a4 a5 : Int32} (h_in1 : vp_in (x4 + 1) L0) (h_in2 : vp_in (x4 + 2) L0) (h_in3 : vp_in (x4 + 3) L0) (h_in4 : vp_in (x4 + 4) L0) (h_in5 : vp_in (x4 + 5) L0) (ha1 : xs (x4 + 1).toNatClampNeg = a1) (ha2 : xs (x4 + 2).toNatClampNeg = a2) (ha3 : xs (x4 + 3).toNatClampNeg = a3) (ha4 : xs (x4 + 4).toNatClampNeg = a4) (ha5 : xs (x4 + 5).toNatClampNeg = a5) {c0 s0 : Nat} (hc0 : c0 + 1 ≤ room_1.cells) (hs0 : s0 + 6 ≤ room_1.slots) {fu : Nat} {S S' : St} (hf : fc_9 fu a1 a2 a3 a4 a5 S = some (S', (1 : Int32)))
    (kk : ∀ (H : Heap) (locs : List Loc) (ls : Array Slot), WS D cA ad base s S' H locs → lv_has ls 7 [(0, .ref b), (1, .ref (ad 0)), (2, .ref (ad 63)), (3, .ref (ad 106)), (4, .int x4)] → W p l e room_1 s m #[Value.ref b] below meth c H locs (c0 + 1) (s0 + 6) Q (F0 m 1071 ls []))
    {H : Heap} {locs : List Loc} {ls : Array Slot} (hw : WS D cA ad base s S H locs) (hl : lv_has ls 7 [(0, .ref b), (1, .ref (ad 0)), (2, .ref (ad 63)), (3, .ref (ad 106)), (4, .int x4)]) : W p l e room_1 s m #[Value.ref b] below meth c H locs c0 s0 Q (F0 m 555 ls []) := by
  have hx := C.1
  have hb := C.2.1
  have hc1 : c0 ≤ room_1.cells := by omega
  have hs1 : s0 ≤ room_1.slots := by omega
  have J_608 : ∀ (S : St) (H : Heap) (locs : List Loc) (ls : Array Slot), fc_9_608 fu a1 a2 a3 a4 a5 S = some (S', (1 : Int32)) → lv_has ls 7 [(0, .ref b), (1, .ref (ad 0)), (2, .ref (ad 63)), (3, .ref (ad 106)), (4, .int x4)] → WS D cA ad base s S H locs → W p l e room_1 s m #[Value.ref b] below meth c H locs (c0 + 1) (s0 + 6) Q (F0 m 608 ls []) := by
    intro  S H locs ls hf hl hw
    refine lv_goto (tgt := 1071) hx hb dL_law_608 (by decide) ?_
    exact kk _ _ _ (by cases hf; exact hw) (lv_sub hl [0, 1, 2, 3, 4] rfl)
  refine lv_aload_n hx hb dL_law_555 rfl (lv_at hl 1 rfl) ?_
  refine lv_aload_n hx hb dL_law_556 rfl (lv_at hl 0 rfl) ?_
  refine lv_iload hx hb dL_law_557 (lv_at hl 4 rfl) ?_
  refine lv_iconst (v := (1 : Int32)) hx hb dL_law_559 (by decide) ?_
  refine lv_iadd hx hb dL_law_560 ?_
  refine r_sld C hw hX hbl hbB h_in1 ha1 dL_law_561 ?_
  refine lv_aload_n hx hb dL_law_562 rfl (lv_at hl 3 rfl) ?_
  obtain ⟨S_563, r_563, h_563, hf⟩ := bd_some hf
  refine r_biW hw (r_runSW (rest := []) C hw (m_L_server l hlt D cA ad base fu h_563) msL_server gw4_128 ⟨rfl, rfl, Nat.le_of_ble_eq_true rfl, Nat.le_of_ble_eq_true rfl⟩ rfl hl.1 rfl (Nat.le_of_ble_eq_true rfl) dL_law_563 hc0 hs0) (fun H locs hw => ?_)
  refine lv_istore (lv' := [(5, .int r_563), (0, .ref b), (1, .ref (ad 0)), (2, .ref (ad 63)), (3, .ref (ad 106)), (4, .int x4)]) hx hb dL_law_566 hl (by decide) rfl (fun ls hl => ?_)
  refine lv_aload_n hx hb dL_law_568 rfl (lv_at hl 3 rfl) ?_
  refine lv_aload_n hx hb dL_law_569 rfl (lv_at hl 1 rfl) ?_
  refine lv_iload hx hb dL_law_570 (lv_at hl 5 rfl) ?_
  refine lv_iconst (v := (1 : Int32)) hx hb dL_law_572 (by decide) ?_
  refine lv_iadd hx hb dL_law_573 ?_
  refine r_sld C hw hX hbl hbB h_in1 ha1 dL_law_574 ?_
  obtain ⟨S_575, r_575, h_575, hf⟩ := bd_some hf
  refine r_bi hw (r_runV (rest := []) C hw (m_X12_server l D cA ad base fu h_575) mvX12_server gw8_20 ⟨rfl, rfl, Nat.le_of_ble_eq_true rfl, Nat.le_of_ble_eq_true rfl⟩ dq_63 ln_63 vc_12 rfl hl.1 rfl (Nat.le_of_ble_eq_true rfl) dL_law_575 hc0 hs0) (fun H locs hw => ?_)
  refine lv_istore (lv' := [(6, .int r_575), (5, .int r_563), (0, .ref b), (1, .ref (ad 0)), (2, .ref (ad 63)), (3, .ref (ad 106)), (4, .int x4)]) hx hb dL_law_578 hl (by decide) rfl (fun ls hl => ?_)
  refine lv_aload_n hx hb dL_law_580 rfl (lv_at hl 4 rfl) ?_
  obtain ⟨S_581, r_581, h_581, hf⟩ := bd_some hf
  refine r_bi hw (r_runV (rest := []) C hw (m_X12_thrown l D cA ad base fu h_581) mvX12_thrown gw7_162 ⟨rfl, rfl, Nat.le_of_ble_eq_true rfl, Nat.le_of_ble_eq_true rfl⟩ dq_63 ln_63 vc_12 rfl hl.1 rfl (Nat.le_of_ble_eq_true rfl) dL_law_581 hc0 hs0) (fun H locs hw => ?_)
  refine lv_iload hx hb dL_law_584 (lv_at hl 1 rfl) ?_
  refine lv_icmp_eq (tgt := 591) hx hb dL_law_586 (by decide) (fun c_586 => ?_) (fun c_586 => ?_)
  · have hf := if_t hf c_586
    refine lv_iload hx hb dL_law_591 (lv_at hl 1 rfl) ?_
    refine lv_if_ne (tgt := 608) hx hb dL_law_593 (by decide) (fun c_593 => ?_) (fun c_593 => ?_)
    · have hf := if_f hf c_593
      exact J_608 _ _ _ _ hf (lv_sub hl [2, 3, 4, 5, 6] rfl) hw
    · have hf := if_t hf c_593
      refine lv_aload_n hx hb dL_law_596 rfl (lv_at hl 5 rfl) ?_
      refine lv_iconst (v := (0 : Int32)) hx hb dL_law_597 (by decide) ?_
      obtain ⟨z_598, hf⟩ := gd_some hf
      refine r_lald C hw (x := 106) dq_106 ln_106 z_598 dL_law_598 ?_
      refine lv_iload hx hb dL_law_599 (lv_at hl 0 rfl) ?_
      refine lv_i2l hx hb dL_law_601 rfl ?_
      refine W.lcmp hx hb dL_law_602 ?_
      refine lv_if_eq (tgt := 608) hx hb dL_law_603 (by decide) (fun c_603 => ?_) (fun c_603 => ?_)
      · have hf := if_t hf c_603
        exact J_608 _ _ _ _ hf (lv_sub hl [2, 3, 4, 5, 6] rfl) hw
      · have hf := if_f hf c_603
        refine lv_iconst (v := (0 : Int32)) hx hb dL_law_606 (by decide) ?_
        exact absurd hf no01
  · have hf := if_f hf c_586
    refine lv_iconst (v := (0 : Int32)) hx hb dL_law_589 (by decide) ?_
    exact absurd hf no01
noncomputable def fc_10_671 (fu : Nat) (a1 a2 a3 a4 a5 : Int32) (t0 : Int32) (t1 : Int32) (t2 : Int32) (S : St) : Option (St × Int32) :=
  bd (fX12_serve fu t2 t1 t0 S) fun S_671 r_671 =>
  some (S_671, (1 : Int32))
noncomputable def fc_10_638 (fu : Nat) (a1 a2 a3 a4 a5 : Int32) (t0 : Int32) (t1 : Int32) (t2 : Int32) (S : St) : Option (St × Int32) :=
  bd (fL_serve fu t2 t1 t0 S) fun S_639 r_639 =>
  if a3 = 0 then
    fc_10_671 fu a1 a2 a3 a4 a5 (0 : Int32) a2 a1 S_639
  else
    fc_10_671 fu a1 a2 a3 a4 a5 (1 : Int32) a2 a1 S_639
noncomputable def fc_10 (fu : Nat) (a1 a2 a3 a4 a5 : Int32) (S : St) : Option (St × Int32) :=
  if a3 = 0 then
    fc_10_638 fu a1 a2 a3 a4 a5 (0 : Int32) a2 a1 S
  else
    fc_10_638 fu a1 a2 a3 a4 a5 (1 : Int32) a2 a1 S
set_option maxHeartbeats 4000000 in
set_option maxRecDepth 100000 in
theorem lc_10 {p : Program} {l : Launch} {e : Env} {s : State} {m : MethodId} {below : List Frame} {meth : Method} {c : Code} {Q : State → Prop} {D : va_G} {cA : FieldType → ClassId} {ad : Nat → Nat} {base b L0 : Nat} {xs : Nat → Int32} (hlt : l.stackTraces = false) (C : CX D cA base RL cL_law 7 p s m #[Value.ref b] c) (hX : va_X b L0 xs s s.heap) (hbl : b < s.heap.size) (hbB : ¬ aB base b) {x4 a1 a2 a3 a4 a5 : Int32} (h_in1 : vp_in (x4 + 1) L0) (h_in2 : vp_in (x4 + 2) L0) (h_in3 : vp_in (x4 + 3) L0) (h_in4 : vp_in (x4 + 4) L0) (h_in5 : vp_in (x4 + 5) L0) (ha1 : xs (x4 + 1).toNatClampNeg = a1) (ha2 : xs (x4 + 2).toNatClampNeg = a2) (ha3 : xs (x4 + 3).toNatClampNeg = a3) (ha4 : xs (x4 + 4).toNatClampNeg = a4) (ha5 : xs (x4 + 5).toNatClampNeg = a5) {c0 s0 : Nat} (hc0 : c0 + 1 ≤ room_1.cells) (hs0 : s0 + 6 ≤ room_1.slots) {fu : Nat} {S S' : St} (hf : fc_10 fu a1 a2 a3 a4 a5 S = some (S', (1 : Int32)))
    (kk : ∀ (H : Heap) (locs : List Loc) (ls : Array Slot), WS D cA ad base s S' H locs → lv_has ls 7 [(0, .ref b), (1, .ref (ad 0)), (2, .ref (ad 63)), (3, .ref (ad 106)), (4, .int x4)] → W p l e room_1 s m #[Value.ref b] below meth c H locs (c0 + 1) (s0 + 6) Q (F0 m 1071 ls []))
    {H : Heap} {locs : List Loc} {ls : Array Slot} (hw : WS D cA ad base s S H locs) (hl : lv_has ls 7 [(0, .ref b), (1, .ref (ad 0)), (2, .ref (ad 63)), (3, .ref (ad 106)), (4, .int x4)]) : W p l e room_1 s m #[Value.ref b] below meth c H locs c0 s0 Q (F0 m 611 ls []) := by
  have hx := C.1
  have hb := C.2.1
  have hc1 : c0 ≤ room_1.cells := by omega
  have hs1 : s0 ≤ room_1.slots := by omega
  have J_671 : ∀ (t0 : Int32) (t1 : Int32) (t2 : Int32) (S : St) (H : Heap) (locs : List Loc) (ls : Array Slot), fc_10_671 fu a1 a2 a3 a4 a5 t0 t1 t2 S = some (S', (1 : Int32)) → lv_has ls 7 [(0, .ref b), (1, .ref (ad 0)), (2, .ref (ad 63)), (3, .ref (ad 106)), (4, .int x4)] → WS D cA ad base s S H locs → W p l e room_1 s m #[Value.ref b] below meth c H locs (c0 + 1) (s0 + 6) Q (F0 m 671 ls [.int t0, .int t1, .int t2, .ref (ad 63)]) := by
    intro t0 t1 t2 S H locs ls hf hl hw
    obtain ⟨S_671, r_671, h_671, hf⟩ := bd_some hf
    refine r_bi hw (r_runV (rest := []) C hw (m_X12_serve l D cA ad base fu h_671) mvX12_serve gw8_28 ⟨rfl, rfl, Nat.le_of_ble_eq_true rfl, Nat.le_of_ble_eq_true rfl⟩ dq_63 ln_63 vc_12 rfl hl.1 rfl (Nat.le_of_ble_eq_true rfl) dL_law_671 hc0 hs0) (fun H locs hw => ?_)
    refine lv_istore (lv' := [(6, .int r_671), (0, .ref b), (1, .ref (ad 0)), (2, .ref (ad 63)), (3, .ref (ad 106)), (4, .int x4)]) hx hb dL_law_674 hl (by decide) rfl (fun ls hl => ?_)
    refine lv_goto (tgt := 1071) hx hb dL_law_676 (by decide) ?_
    exact kk _ _ _ (by cases hf; exact hw) (lv_sub hl [1, 2, 3, 4, 5] rfl)
  have J_638 : ∀ (t0 : Int32) (t1 : Int32) (t2 : Int32) (S : St) (H : Heap) (locs : List Loc) (ls : Array Slot), fc_10_638 fu a1 a2 a3 a4 a5 t0 t1 t2 S = some (S', (1 : Int32)) → lv_has ls 7 [(0, .ref b), (1, .ref (ad 0)), (2, .ref (ad 63)), (3, .ref (ad 106)), (4, .int x4)] → WS D cA ad base s S H locs → W p l e room_1 s m #[Value.ref b] below meth c H locs c0 s0 Q (F0 m 638 ls [.int t0, .int t1, .int t2, .ref (ad 0)]) := by
    intro t0 t1 t2 S H locs ls hf hl hw
    refine lv_aload_n hx hb dL_law_638 rfl (lv_at hl 3 rfl) ?_
    obtain ⟨S_639, r_639, h_639, hf⟩ := bd_some hf
    refine r_biW hw (r_runSW (rest := []) C hw (m_L_serve l hlt D cA ad base fu h_639) msL_serve gw4_145 ⟨rfl, rfl, Nat.le_of_ble_eq_true rfl, Nat.le_of_ble_eq_true rfl⟩ rfl hl.1 rfl (Nat.le_of_ble_eq_true rfl) dL_law_639 hc0 hs0) (fun H locs hw => ?_)
    refine lv_istore (lv' := [(5, .int r_639), (0, .ref b), (1, .ref (ad 0)), (2, .ref (ad 63)), (3, .ref (ad 106)), (4, .int x4)]) hx hb dL_law_642 hl (by decide) rfl (fun ls hl => ?_)
    refine lv_aload_n hx hb dL_law_644 rfl (lv_at hl 3 rfl) ?_
    refine lv_aload_n hx hb dL_law_645 rfl (lv_at hl 1 rfl) ?_
    refine lv_iload hx hb dL_law_646 (lv_at hl 5 rfl) ?_
    refine lv_iconst (v := (1 : Int32)) hx hb dL_law_648 (by decide) ?_
    refine lv_iadd hx hb dL_law_649 ?_
    refine r_sld C hw hX hbl hbB h_in1 ha1 dL_law_650 ?_
    refine lv_aload_n hx hb dL_law_651 rfl (lv_at hl 1 rfl) ?_
    refine lv_iload hx hb dL_law_652 (lv_at hl 5 rfl) ?_
    refine lv_iconst (v := (2 : Int32)) hx hb dL_law_654 (by decide) ?_
    refine lv_iadd hx hb dL_law_655 ?_
    refine r_sld C hw hX hbl hbB h_in2 ha2 dL_law_656 ?_
    refine lv_aload_n hx hb dL_law_657 rfl (lv_at hl 1 rfl) ?_
    refine lv_iload hx hb dL_law_658 (lv_at hl 5 rfl) ?_
    refine lv_iconst (v := (3 : Int32)) hx hb dL_law_660 (by decide) ?_
    refine lv_iadd hx hb dL_law_661 ?_
    refine r_sld C hw hX hbl hbB h_in3 ha3 dL_law_662 ?_
    refine lv_if_eq (tgt := 670) hx hb dL_law_663 (by decide) (fun c_663 => ?_) (fun c_663 => ?_)
    · have hf := if_t hf c_663
      refine lv_iconst (v := (0 : Int32)) hx hb dL_law_670 (by decide) ?_
      exact J_671 _ _ _ _ _ _ _ hf (lv_sub hl [1, 2, 3, 4, 5] rfl) hw
    · have hf := if_f hf c_663
      refine lv_iconst (v := (1 : Int32)) hx hb dL_law_666 (by decide) ?_
      refine lv_goto (tgt := 671) hx hb dL_law_667 (by decide) ?_
      exact J_671 _ _ _ _ _ _ _ hf (lv_sub hl [1, 2, 3, 4, 5] rfl) hw
  refine lv_aload_n hx hb dL_law_611 rfl (lv_at hl 1 rfl) ?_
  refine lv_aload_n hx hb dL_law_612 rfl (lv_at hl 0 rfl) ?_
  refine lv_iload hx hb dL_law_613 (lv_at hl 4 rfl) ?_
  refine lv_iconst (v := (1 : Int32)) hx hb dL_law_615 (by decide) ?_
  refine lv_iadd hx hb dL_law_616 ?_
  refine r_sld C hw hX hbl hbB h_in1 ha1 dL_law_617 ?_
  refine lv_aload_n hx hb dL_law_618 rfl (lv_at hl 0 rfl) ?_
  refine lv_iload hx hb dL_law_619 (lv_at hl 4 rfl) ?_
  refine lv_iconst (v := (2 : Int32)) hx hb dL_law_621 (by decide) ?_
  refine lv_iadd hx hb dL_law_622 ?_
  refine r_sld C hw hX hbl hbB h_in2 ha2 dL_law_623 ?_
  refine lv_aload_n hx hb dL_law_624 rfl (lv_at hl 0 rfl) ?_
  refine lv_iload hx hb dL_law_625 (lv_at hl 4 rfl) ?_
  refine lv_iconst (v := (3 : Int32)) hx hb dL_law_627 (by decide) ?_
  refine lv_iadd hx hb dL_law_628 ?_
  refine r_sld C hw hX hbl hbB h_in3 ha3 dL_law_629 ?_
  refine lv_if_eq (tgt := 637) hx hb dL_law_630 (by decide) (fun c_630 => ?_) (fun c_630 => ?_)
  · have hf := if_t hf c_630
    refine lv_iconst (v := (0 : Int32)) hx hb dL_law_637 (by decide) ?_
    exact J_638 _ _ _ _ _ _ _ hf (lv_sub hl [0, 1, 2, 3, 4] rfl) hw
  · have hf := if_f hf c_630
    refine lv_iconst (v := (1 : Int32)) hx hb dL_law_633 (by decide) ?_
    refine lv_goto (tgt := 638) hx hb dL_law_634 (by decide) ?_
    exact J_638 _ _ _ _ _ _ _ hf (lv_sub hl [0, 1, 2, 3, 4] rfl) hw
noncomputable def fc_11 (fu : Nat) (a1 a2 a3 a4 a5 : Int32) (S : St) : Option (St × Int32) :=
  bd (fL_say fu a1 a2 a3 S) fun S_699 r_699 =>
  bd (fX12_say fu a1 a2 a3 S_699) fun S_723 r_723 =>
  some (S_723, (1 : Int32))
set_option maxHeartbeats 4000000 in
set_option maxRecDepth 100000 in
theorem lc_11 {p : Program} {l : Launch} {e : Env} {s : State} {m : MethodId} {below : List Frame} {meth : Method} {c : Code} {Q : State → Prop} {D : va_G} {cA : FieldType → ClassId} {ad : Nat → Nat} {base b L0 : Nat} {xs : Nat → Int32} (hlt : l.stackTraces = false) (C : CX D cA base RL cL_law 7 p s m #[Value.ref b] c) (hX : va_X b L0 xs s s.heap) (hbl : b < s.heap.size) (hbB : ¬ aB base b) {x4 a1 a2 a3 a4 a5 : Int32} (h_in1 : vp_in (x4 + 1) L0) (h_in2 : vp_in (x4 + 2) L0) (h_in3 : vp_in (x4 + 3) L0) (h_in4 : vp_in (x4 + 4) L0) (h_in5 : vp_in (x4 + 5) L0) (ha1 : xs (x4 + 1).toNatClampNeg = a1) (ha2 : xs (x4 + 2).toNatClampNeg = a2) (ha3 : xs (x4 + 3).toNatClampNeg = a3) (ha4 : xs (x4 + 4).toNatClampNeg = a4) (ha5 : xs (x4 + 5).toNatClampNeg = a5) {c0 s0 : Nat} (hc0 : c0 + 1 ≤ room_1.cells) (hs0 : s0 + 6 ≤ room_1.slots) {fu : Nat} {S S' : St} (hf : fc_11 fu a1 a2 a3 a4 a5 S = some (S', (1 : Int32)))
    (kk : ∀ (H : Heap) (locs : List Loc) (ls : Array Slot), WS D cA ad base s S' H locs → lv_has ls 7 [(0, .ref b), (1, .ref (ad 0)), (2, .ref (ad 63)), (3, .ref (ad 106)), (4, .int x4)] → W p l e room_1 s m #[Value.ref b] below meth c H locs (c0 + 1) (s0 + 6) Q (F0 m 1071 ls []))
    {H : Heap} {locs : List Loc} {ls : Array Slot} (hw : WS D cA ad base s S H locs) (hl : lv_has ls 7 [(0, .ref b), (1, .ref (ad 0)), (2, .ref (ad 63)), (3, .ref (ad 106)), (4, .int x4)]) : W p l e room_1 s m #[Value.ref b] below meth c H locs c0 s0 Q (F0 m 679 ls []) := by
  have hx := C.1
  have hb := C.2.1
  have hc1 : c0 ≤ room_1.cells := by omega
  have hs1 : s0 ≤ room_1.slots := by omega
  refine lv_aload_n hx hb dL_law_679 rfl (lv_at hl 1 rfl) ?_
  refine lv_aload_n hx hb dL_law_680 rfl (lv_at hl 0 rfl) ?_
  refine lv_iload hx hb dL_law_681 (lv_at hl 4 rfl) ?_
  refine lv_iconst (v := (1 : Int32)) hx hb dL_law_683 (by decide) ?_
  refine lv_iadd hx hb dL_law_684 ?_
  refine r_sld C hw hX hbl hbB h_in1 ha1 dL_law_685 ?_
  refine lv_aload_n hx hb dL_law_686 rfl (lv_at hl 0 rfl) ?_
  refine lv_iload hx hb dL_law_687 (lv_at hl 4 rfl) ?_
  refine lv_iconst (v := (2 : Int32)) hx hb dL_law_689 (by decide) ?_
  refine lv_iadd hx hb dL_law_690 ?_
  refine r_sld C hw hX hbl hbB h_in2 ha2 dL_law_691 ?_
  refine lv_aload_n hx hb dL_law_692 rfl (lv_at hl 0 rfl) ?_
  refine lv_iload hx hb dL_law_693 (lv_at hl 4 rfl) ?_
  refine lv_iconst (v := (3 : Int32)) hx hb dL_law_695 (by decide) ?_
  refine lv_iadd hx hb dL_law_696 ?_
  refine r_sld C hw hX hbl hbB h_in3 ha3 dL_law_697 ?_
  refine lv_aload_n hx hb dL_law_698 rfl (lv_at hl 3 rfl) ?_
  obtain ⟨S_699, r_699, h_699, hf⟩ := bd_some hf
  refine r_biW hw (r_runSW (rest := []) C hw (m_L_say l hlt D cA ad base fu h_699) msL_say gw4_170 ⟨rfl, rfl, Nat.le_of_ble_eq_true rfl, Nat.le_of_ble_eq_true rfl⟩ rfl hl.1 rfl (Nat.le_of_ble_eq_true rfl) dL_law_699 hc0 hs0) (fun H locs hw => ?_)
  refine lv_istore (lv' := [(5, .int r_699), (0, .ref b), (1, .ref (ad 0)), (2, .ref (ad 63)), (3, .ref (ad 106)), (4, .int x4)]) hx hb dL_law_702 hl (by decide) rfl (fun ls hl => ?_)
  refine lv_aload_n hx hb dL_law_704 rfl (lv_at hl 3 rfl) ?_
  refine lv_aload_n hx hb dL_law_705 rfl (lv_at hl 1 rfl) ?_
  refine lv_iload hx hb dL_law_706 (lv_at hl 5 rfl) ?_
  refine lv_iconst (v := (1 : Int32)) hx hb dL_law_708 (by decide) ?_
  refine lv_iadd hx hb dL_law_709 ?_
  refine r_sld C hw hX hbl hbB h_in1 ha1 dL_law_710 ?_
  refine lv_aload_n hx hb dL_law_711 rfl (lv_at hl 1 rfl) ?_
  refine lv_iload hx hb dL_law_712 (lv_at hl 5 rfl) ?_
  refine lv_iconst (v := (2 : Int32)) hx hb dL_law_714 (by decide) ?_
  refine lv_iadd hx hb dL_law_715 ?_
  refine r_sld C hw hX hbl hbB h_in2 ha2 dL_law_716 ?_
  refine lv_aload_n hx hb dL_law_717 rfl (lv_at hl 1 rfl) ?_
  refine lv_iload hx hb dL_law_718 (lv_at hl 5 rfl) ?_
  refine lv_iconst (v := (3 : Int32)) hx hb dL_law_720 (by decide) ?_
  refine lv_iadd hx hb dL_law_721 ?_
  refine r_sld C hw hX hbl hbB h_in3 ha3 dL_law_722 ?_
  obtain ⟨S_723, r_723, h_723, hf⟩ := bd_some hf
  refine r_bi hw (r_runV (rest := []) C hw (m_X12_say l D cA ad base fu h_723) mvX12_say gw8_40 ⟨rfl, rfl, Nat.le_of_ble_eq_true rfl, Nat.le_of_ble_eq_true rfl⟩ dq_63 ln_63 vc_12 rfl hl.1 rfl (Nat.le_of_ble_eq_true rfl) dL_law_723 hc0 hs0) (fun H locs hw => ?_)
  refine lv_istore (lv' := [(6, .int r_723), (5, .int r_699), (0, .ref b), (1, .ref (ad 0)), (2, .ref (ad 63)), (3, .ref (ad 106)), (4, .int x4)]) hx hb dL_law_726 hl (by decide) rfl (fun ls hl => ?_)
  refine lv_goto (tgt := 1071) hx hb dL_law_728 (by decide) ?_
  exact kk _ _ _ (by cases hf; exact hw) (lv_sub hl [2, 3, 4, 5, 6] rfl)
noncomputable def fc_12 (fu : Nat) (a1 a2 a3 a4 a5 : Int32) (S : St) : Option (St × Int32) :=
  bd (fX11_parse fu S) fun S_732 r_732 =>
  bd (fX12_parse fu S_732) fun S_737 r_737 =>
  some (S_737, (1 : Int32))
set_option maxHeartbeats 4000000 in
set_option maxRecDepth 100000 in
theorem lc_12 {p : Program} {l : Launch} {e : Env} {s : State} {m : MethodId} {below : List Frame} {meth : Method} {c : Code} {Q : State → Prop} {D : va_G} {cA : FieldType → ClassId} {ad : Nat → Nat} {base b L0 : Nat} {xs : Nat → Int32} (hlt : l.stackTraces = false) (C : CX D cA base RL cL_law 7 p s m #[Value.ref b] c) (hX : va_X b L0 xs s s.heap) (hbl : b < s.heap.size) (hbB : ¬ aB base b) {x4 a1 a2 a3 a4 a5 : Int32} (h_in1 : vp_in (x4 + 1) L0) (h_in2 : vp_in (x4 + 2) L0) (h_in3 : vp_in (x4 + 3) L0) (h_in4 : vp_in (x4 + 4) L0) (h_in5 : vp_in (x4 + 5) L0) (ha1 : xs (x4 + 1).toNatClampNeg = a1) (ha2 : xs (x4 + 2).toNatClampNeg = a2) (ha3 : xs (x4 + 3).toNatClampNeg = a3) (ha4 : xs (x4 + 4).toNatClampNeg = a4) (ha5 : xs (x4 + 5).toNatClampNeg = a5) {c0 s0 : Nat} (hc0 : c0 + 1 ≤ room_1.cells) (hs0 : s0 + 6 ≤ room_1.slots) {fu : Nat} {S S' : St} (hf : fc_12 fu a1 a2 a3 a4 a5 S = some (S', (1 : Int32)))
    (kk : ∀ (H : Heap) (locs : List Loc) (ls : Array Slot), WS D cA ad base s S' H locs → lv_has ls 7 [(0, .ref b), (1, .ref (ad 0)), (2, .ref (ad 63)), (3, .ref (ad 106)), (4, .int x4)] → W p l e room_1 s m #[Value.ref b] below meth c H locs (c0 + 1) (s0 + 6) Q (F0 m 1071 ls []))
    {H : Heap} {locs : List Loc} {ls : Array Slot} (hw : WS D cA ad base s S H locs) (hl : lv_has ls 7 [(0, .ref b), (1, .ref (ad 0)), (2, .ref (ad 63)), (3, .ref (ad 106)), (4, .int x4)]) : W p l e room_1 s m #[Value.ref b] below meth c H locs c0 s0 Q (F0 m 731 ls []) := by
  have hx := C.1
  have hb := C.2.1
  have hc1 : c0 ≤ room_1.cells := by omega
  have hs1 : s0 ≤ room_1.slots := by omega
  refine lv_aload_n hx hb dL_law_731 rfl (lv_at hl 1 rfl) ?_
  obtain ⟨S_732, r_732, h_732, hf⟩ := bd_some hf
  refine r_bi hw (r_runV (rest := []) C hw (m_X11_parse l D cA ad base fu h_732) mvX11_parse gw2_176 ⟨rfl, rfl, Nat.le_of_ble_eq_true rfl, Nat.le_of_ble_eq_true rfl⟩ dq_0 ln_0 vc_11 rfl hl.1 rfl (Nat.le_of_ble_eq_true rfl) dL_law_732 hc1 hs1) (fun H locs hw => ?_)
  refine lv_pop hx hb dL_law_735 rfl ?_
  refine lv_aload_n hx hb dL_law_736 rfl (lv_at hl 2 rfl) ?_
  obtain ⟨S_737, r_737, h_737, hf⟩ := bd_some hf
  refine r_bi hw (r_runV (rest := []) C hw (m_X12_parse l D cA ad base fu h_737) mvX12_parse gw8_110 ⟨rfl, rfl, Nat.le_of_ble_eq_true rfl, Nat.le_of_ble_eq_true rfl⟩ dq_63 ln_63 vc_12 rfl hl.1 rfl (Nat.le_of_ble_eq_true rfl) dL_law_737 hc1 hs1) (fun H locs hw => ?_)
  refine lv_pop hx hb dL_law_740 rfl ?_
  refine lv_goto (tgt := 1071) hx hb dL_law_741 (by decide) ?_
  refine W.widen (k := c0 + 1) (n := s0 + 6) (by omega) (by omega) ?_
  exact kk _ _ _ (by cases hf; exact hw) (lv_sub hl [0, 1, 2, 3, 4] rfl)
noncomputable def fc_13 (fu : Nat) (a1 a2 a3 a4 a5 : Int32) (S : St) : Option (St × Int32) :=
  bd (fL_parsed fu a1 a2 S) fun S_758 r_758 =>
  bd (fX12_parsed fu a1 a2 S_758) fun S_776 r_776 =>
  some (S_776, (1 : Int32))
set_option maxHeartbeats 4000000 in
set_option maxRecDepth 100000 in
theorem lc_13 {p : Program} {l : Launch} {e : Env} {s : State} {m : MethodId} {below : List Frame} {meth : Method} {c : Code} {Q : State → Prop} {D : va_G} {cA : FieldType → ClassId} {ad : Nat → Nat} {base b L0 : Nat} {xs : Nat → Int32} (hlt : l.stackTraces = false) (C : CX D cA base RL cL_law 7 p s m #[Value.ref b] c) (hX : va_X b L0 xs s s.heap) (hbl : b < s.heap.size) (hbB : ¬ aB base b) {x4 a1 a2 a3 a4 a5 : Int32} (h_in1 : vp_in (x4 + 1) L0) (h_in2 : vp_in (x4 + 2) L0) (h_in3 : vp_in (x4 + 3) L0) (h_in4 : vp_in (x4 + 4) L0) (h_in5 : vp_in (x4 + 5) L0) (ha1 : xs (x4 + 1).toNatClampNeg = a1) (ha2 : xs (x4 + 2).toNatClampNeg = a2) (ha3 : xs (x4 + 3).toNatClampNeg = a3) (ha4 : xs (x4 + 4).toNatClampNeg = a4) (ha5 : xs (x4 + 5).toNatClampNeg = a5) {c0 s0 : Nat} (hc0 : c0 + 1 ≤ room_1.cells) (hs0 : s0 + 6 ≤ room_1.slots) {fu : Nat} {S S' : St} (hf : fc_13 fu a1 a2 a3 a4 a5 S = some (S', (1 : Int32)))
    (kk : ∀ (H : Heap) (locs : List Loc) (ls : Array Slot), WS D cA ad base s S' H locs → lv_has ls 7 [(0, .ref b), (1, .ref (ad 0)), (2, .ref (ad 63)), (3, .ref (ad 106)), (4, .int x4)] → W p l e room_1 s m #[Value.ref b] below meth c H locs (c0 + 1) (s0 + 6) Q (F0 m 1071 ls []))
    {H : Heap} {locs : List Loc} {ls : Array Slot} (hw : WS D cA ad base s S H locs) (hl : lv_has ls 7 [(0, .ref b), (1, .ref (ad 0)), (2, .ref (ad 63)), (3, .ref (ad 106)), (4, .int x4)]) : W p l e room_1 s m #[Value.ref b] below meth c H locs c0 s0 Q (F0 m 744 ls []) := by
  have hx := C.1
  have hb := C.2.1
  have hc1 : c0 ≤ room_1.cells := by omega
  have hs1 : s0 ≤ room_1.slots := by omega
  refine lv_aload_n hx hb dL_law_744 rfl (lv_at hl 1 rfl) ?_
  refine lv_aload_n hx hb dL_law_745 rfl (lv_at hl 0 rfl) ?_
  refine lv_iload hx hb dL_law_746 (lv_at hl 4 rfl) ?_
  refine lv_iconst (v := (1 : Int32)) hx hb dL_law_748 (by decide) ?_
  refine lv_iadd hx hb dL_law_749 ?_
  refine r_sld C hw hX hbl hbB h_in1 ha1 dL_law_750 ?_
  refine lv_aload_n hx hb dL_law_751 rfl (lv_at hl 0 rfl) ?_
  refine lv_iload hx hb dL_law_752 (lv_at hl 4 rfl) ?_
  refine lv_iconst (v := (2 : Int32)) hx hb dL_law_754 (by decide) ?_
  refine lv_iadd hx hb dL_law_755 ?_
  refine r_sld C hw hX hbl hbB h_in2 ha2 dL_law_756 ?_
  refine lv_aload_n hx hb dL_law_757 rfl (lv_at hl 3 rfl) ?_
  obtain ⟨S_758, r_758, h_758, hf⟩ := bd_some hf
  refine r_biW hw (r_runSW (rest := []) C hw (m_L_parsed l hlt D cA ad base fu h_758) msL_parsed gw5_40 ⟨rfl, rfl, Nat.le_of_ble_eq_true rfl, Nat.le_of_ble_eq_true rfl⟩ rfl hl.1 rfl (Nat.le_of_ble_eq_true rfl) dL_law_758 hc0 hs0) (fun H locs hw => ?_)
  refine lv_istore (lv' := [(5, .int r_758), (0, .ref b), (1, .ref (ad 0)), (2, .ref (ad 63)), (3, .ref (ad 106)), (4, .int x4)]) hx hb dL_law_761 hl (by decide) rfl (fun ls hl => ?_)
  refine lv_aload_n hx hb dL_law_763 rfl (lv_at hl 3 rfl) ?_
  refine lv_aload_n hx hb dL_law_764 rfl (lv_at hl 1 rfl) ?_
  refine lv_iload hx hb dL_law_765 (lv_at hl 5 rfl) ?_
  refine lv_iconst (v := (1 : Int32)) hx hb dL_law_767 (by decide) ?_
  refine lv_iadd hx hb dL_law_768 ?_
  refine r_sld C hw hX hbl hbB h_in1 ha1 dL_law_769 ?_
  refine lv_aload_n hx hb dL_law_770 rfl (lv_at hl 1 rfl) ?_
  refine lv_iload hx hb dL_law_771 (lv_at hl 5 rfl) ?_
  refine lv_iconst (v := (2 : Int32)) hx hb dL_law_773 (by decide) ?_
  refine lv_iadd hx hb dL_law_774 ?_
  refine r_sld C hw hX hbl hbB h_in2 ha2 dL_law_775 ?_
  obtain ⟨S_776, r_776, h_776, hf⟩ := bd_some hf
  refine r_bi hw (r_runV (rest := []) C hw (m_X12_parsed l D cA ad base fu h_776) mvX12_parsed gw8_148 ⟨rfl, rfl, Nat.le_of_ble_eq_true rfl, Nat.le_of_ble_eq_true rfl⟩ dq_63 ln_63 vc_12 rfl hl.1 rfl (Nat.le_of_ble_eq_true rfl) dL_law_776 hc0 hs0) (fun H locs hw => ?_)
  refine lv_istore (lv' := [(6, .int r_776), (5, .int r_758), (0, .ref b), (1, .ref (ad 0)), (2, .ref (ad 63)), (3, .ref (ad 106)), (4, .int x4)]) hx hb dL_law_779 hl (by decide) rfl (fun ls hl => ?_)
  refine lv_goto (tgt := 1071) hx hb dL_law_781 (by decide) ?_
  exact kk _ _ _ (by cases hf; exact hw) (lv_sub hl [2, 3, 4, 5, 6] rfl)
noncomputable def fc_14 (fu : Nat) (a1 a2 a3 a4 a5 : Int32) (S : St) : Option (St × Int32) :=
  bd (fX11_hint fu a1 S) fun S_791 r_791 =>
  bd (fX12_hint fu a1 S_791) fun S_802 r_802 =>
  some (S_802, (1 : Int32))
set_option maxHeartbeats 4000000 in
set_option maxRecDepth 100000 in
theorem lc_14 {p : Program} {l : Launch} {e : Env} {s : State} {m : MethodId} {below : List Frame} {meth : Method} {c : Code} {Q : State → Prop} {D : va_G} {cA : FieldType → ClassId} {ad : Nat → Nat} {base b L0 : Nat} {xs : Nat → Int32} (hlt : l.stackTraces = false) (C : CX D cA base RL cL_law 7 p s m #[Value.ref b] c) (hX : va_X b L0 xs s s.heap) (hbl : b < s.heap.size) (hbB : ¬ aB base b) {x4 a1 a2 a3 a4 a5 : Int32} (h_in1 : vp_in (x4 + 1) L0) (h_in2 : vp_in (x4 + 2) L0) (h_in3 : vp_in (x4 + 3) L0) (h_in4 : vp_in (x4 + 4) L0) (h_in5 : vp_in (x4 + 5) L0) (ha1 : xs (x4 + 1).toNatClampNeg = a1) (ha2 : xs (x4 + 2).toNatClampNeg = a2) (ha3 : xs (x4 + 3).toNatClampNeg = a3) (ha4 : xs (x4 + 4).toNatClampNeg = a4) (ha5 : xs (x4 + 5).toNatClampNeg = a5) {c0 s0 : Nat} (hc0 : c0 + 1 ≤ room_1.cells) (hs0 : s0 + 6 ≤ room_1.slots) {fu : Nat} {S S' : St} (hf : fc_14 fu a1 a2 a3 a4 a5 S = some (S', (1 : Int32)))
    (kk : ∀ (H : Heap) (locs : List Loc) (ls : Array Slot), WS D cA ad base s S' H locs → lv_has ls 7 [(0, .ref b), (1, .ref (ad 0)), (2, .ref (ad 63)), (3, .ref (ad 106)), (4, .int x4)] → W p l e room_1 s m #[Value.ref b] below meth c H locs (c0 + 1) (s0 + 6) Q (F0 m 1071 ls []))
    {H : Heap} {locs : List Loc} {ls : Array Slot} (hw : WS D cA ad base s S H locs) (hl : lv_has ls 7 [(0, .ref b), (1, .ref (ad 0)), (2, .ref (ad 63)), (3, .ref (ad 106)), (4, .int x4)]) : W p l e room_1 s m #[Value.ref b] below meth c H locs c0 s0 Q (F0 m 784 ls []) := by
  have hx := C.1
  have hb := C.2.1
  have hc1 : c0 ≤ room_1.cells := by omega
  have hs1 : s0 ≤ room_1.slots := by omega
  refine lv_aload_n hx hb dL_law_784 rfl (lv_at hl 1 rfl) ?_
  refine lv_aload_n hx hb dL_law_785 rfl (lv_at hl 0 rfl) ?_
  refine lv_iload hx hb dL_law_786 (lv_at hl 4 rfl) ?_
  refine lv_iconst (v := (1 : Int32)) hx hb dL_law_788 (by decide) ?_
  refine lv_iadd hx hb dL_law_789 ?_
  refine r_sld C hw hX hbl hbB h_in1 ha1 dL_law_790 ?_
  obtain ⟨S_791, r_791, h_791, hf⟩ := bd_some hf
  refine r_bi hw (r_runV (rest := []) C hw (m_X11_hint l D cA ad base fu h_791) mvX11_hint gw3_51 ⟨rfl, rfl, Nat.le_of_ble_eq_true rfl, Nat.le_of_ble_eq_true rfl⟩ dq_0 ln_0 vc_11 rfl hl.1 rfl (Nat.le_of_ble_eq_true rfl) dL_law_791 hc1 hs1) (fun H locs hw => ?_)
  refine lv_pop hx hb dL_law_794 rfl ?_
  refine lv_aload_n hx hb dL_law_795 rfl (lv_at hl 2 rfl) ?_
  refine lv_aload_n hx hb dL_law_796 rfl (lv_at hl 0 rfl) ?_
  refine lv_iload hx hb dL_law_797 (lv_at hl 4 rfl) ?_
  refine lv_iconst (v := (1 : Int32)) hx hb dL_law_799 (by decide) ?_
  refine lv_iadd hx hb dL_law_800 ?_
  refine r_sld C hw hX hbl hbB h_in1 ha1 dL_law_801 ?_
  obtain ⟨S_802, r_802, h_802, hf⟩ := bd_some hf
  refine r_bi hw (r_runV (rest := []) C hw (m_X12_hint l D cA ad base fu h_802) mvX12_hint gw8_36 ⟨rfl, rfl, Nat.le_of_ble_eq_true rfl, Nat.le_of_ble_eq_true rfl⟩ dq_63 ln_63 vc_12 rfl hl.1 rfl (Nat.le_of_ble_eq_true rfl) dL_law_802 hc1 hs1) (fun H locs hw => ?_)
  refine lv_pop hx hb dL_law_805 rfl ?_
  refine lv_goto (tgt := 1071) hx hb dL_law_806 (by decide) ?_
  refine W.widen (k := c0 + 1) (n := s0 + 6) (by omega) (by omega) ?_
  exact kk _ _ _ (by cases hf; exact hw) (lv_sub hl [0, 1, 2, 3, 4] rfl)
noncomputable def fc_15 (fu : Nat) (a1 a2 a3 a4 a5 : Int32) (S : St) : Option (St × Int32) :=
  bd (fL_tick fu a1 S) fun S_817 r_817 =>
  bd (fX12_tick fu a1 S_817) fun S_829 r_829 =>
  some (S_829, (1 : Int32))
set_option maxHeartbeats 4000000 in
set_option maxRecDepth 100000 in
theorem lc_15 {p : Program} {l : Launch} {e : Env} {s : State} {m : MethodId} {below : List Frame} {meth : Method} {c : Code} {Q : State → Prop} {D : va_G} {cA : FieldType → ClassId} {ad : Nat → Nat} {base b L0 : Nat} {xs : Nat → Int32} (hlt : l.stackTraces = false) (C : CX D cA base RL cL_law 7 p s m #[Value.ref b] c) (hX : va_X b L0 xs s s.heap) (hbl : b < s.heap.size) (hbB : ¬ aB base b) {x4 a1 a2 a3 a4 a5 : Int32} (h_in1 : vp_in (x4 + 1) L0) (h_in2 : vp_in (x4 + 2) L0) (h_in3 : vp_in (x4 + 3) L0) (h_in4 : vp_in (x4 + 4) L0) (h_in5 : vp_in (x4 + 5) L0) (ha1 : xs (x4 + 1).toNatClampNeg = a1) (ha2 : xs (x4 + 2).toNatClampNeg = a2) (ha3 : xs (x4 + 3).toNatClampNeg = a3) (ha4 : xs (x4 + 4).toNatClampNeg = a4) (ha5 : xs (x4 + 5).toNatClampNeg = a5) {c0 s0 : Nat} (hc0 : c0 + 1 ≤ room_1.cells) (hs0 : s0 + 6 ≤ room_1.slots) {fu : Nat} {S S' : St} (hf : fc_15 fu a1 a2 a3 a4 a5 S = some (S', (1 : Int32)))
    (kk : ∀ (H : Heap) (locs : List Loc) (ls : Array Slot), WS D cA ad base s S' H locs → lv_has ls 7 [(0, .ref b), (1, .ref (ad 0)), (2, .ref (ad 63)), (3, .ref (ad 106)), (4, .int x4)] → W p l e room_1 s m #[Value.ref b] below meth c H locs (c0 + 1) (s0 + 6) Q (F0 m 1071 ls []))
    {H : Heap} {locs : List Loc} {ls : Array Slot} (hw : WS D cA ad base s S H locs) (hl : lv_has ls 7 [(0, .ref b), (1, .ref (ad 0)), (2, .ref (ad 63)), (3, .ref (ad 106)), (4, .int x4)]) : W p l e room_1 s m #[Value.ref b] below meth c H locs c0 s0 Q (F0 m 809 ls []) := by
  have hx := C.1
  have hb := C.2.1
  have hc1 : c0 ≤ room_1.cells := by omega
  have hs1 : s0 ≤ room_1.slots := by omega
  refine lv_aload_n hx hb dL_law_809 rfl (lv_at hl 1 rfl) ?_
  refine lv_aload_n hx hb dL_law_810 rfl (lv_at hl 0 rfl) ?_
  refine lv_iload hx hb dL_law_811 (lv_at hl 4 rfl) ?_
  refine lv_iconst (v := (1 : Int32)) hx hb dL_law_813 (by decide) ?_
  refine lv_iadd hx hb dL_law_814 ?_
  refine r_sld C hw hX hbl hbB h_in1 ha1 dL_law_815 ?_
  refine lv_aload_n hx hb dL_law_816 rfl (lv_at hl 3 rfl) ?_
  obtain ⟨S_817, r_817, h_817, hf⟩ := bd_some hf
  refine r_biW hw (r_runSW (rest := []) C hw (m_L_tick l hlt D cA ad base fu h_817) msL_tick gw5_74 ⟨rfl, rfl, Nat.le_of_ble_eq_true rfl, Nat.le_of_ble_eq_true rfl⟩ rfl hl.1 rfl (Nat.le_of_ble_eq_true rfl) dL_law_817 hc0 hs0) (fun H locs hw => ?_)
  refine lv_istore (lv' := [(5, .int r_817), (0, .ref b), (1, .ref (ad 0)), (2, .ref (ad 63)), (3, .ref (ad 106)), (4, .int x4)]) hx hb dL_law_820 hl (by decide) rfl (fun ls hl => ?_)
  refine lv_aload_n hx hb dL_law_822 rfl (lv_at hl 3 rfl) ?_
  refine lv_aload_n hx hb dL_law_823 rfl (lv_at hl 1 rfl) ?_
  refine lv_iload hx hb dL_law_824 (lv_at hl 5 rfl) ?_
  refine lv_iconst (v := (1 : Int32)) hx hb dL_law_826 (by decide) ?_
  refine lv_iadd hx hb dL_law_827 ?_
  refine r_sld C hw hX hbl hbB h_in1 ha1 dL_law_828 ?_
  obtain ⟨S_829, r_829, h_829, hf⟩ := bd_some hf
  refine r_bi hw (r_runV (rest := []) C hw (m_X12_tick l D cA ad base fu h_829) mvX12_tick gw8_160 ⟨rfl, rfl, Nat.le_of_ble_eq_true rfl, Nat.le_of_ble_eq_true rfl⟩ dq_63 ln_63 vc_12 rfl hl.1 rfl (Nat.le_of_ble_eq_true rfl) dL_law_829 hc0 hs0) (fun H locs hw => ?_)
  refine lv_istore (lv' := [(6, .int r_829), (5, .int r_817), (0, .ref b), (1, .ref (ad 0)), (2, .ref (ad 63)), (3, .ref (ad 106)), (4, .int x4)]) hx hb dL_law_832 hl (by decide) rfl (fun ls hl => ?_)
  refine lv_goto (tgt := 1071) hx hb dL_law_834 (by decide) ?_
  exact kk _ _ _ (by cases hf; exact hw) (lv_sub hl [2, 3, 4, 5, 6] rfl)
noncomputable def fc_16 (fu : Nat) (a1 a2 a3 a4 a5 : Int32) (S : St) : Option (St × Int32) :=
  bd (fL_ask fu a1 a2 S) fun S_851 r_851 =>
  bd (fX12_ask fu a1 a2 S_851) fun S_869 r_869 =>
  some (S_869, (1 : Int32))
set_option maxHeartbeats 4000000 in
set_option maxRecDepth 100000 in
theorem lc_16 {p : Program} {l : Launch} {e : Env} {s : State} {m : MethodId} {below : List Frame} {meth : Method} {c : Code} {Q : State → Prop} {D : va_G} {cA : FieldType → ClassId} {ad : Nat → Nat} {base b L0 : Nat} {xs : Nat → Int32} (hlt : l.stackTraces = false) (C : CX D cA base RL cL_law 7 p s m #[Value.ref b] c) (hX : va_X b L0 xs s s.heap) (hbl : b < s.heap.size) (hbB : ¬ aB base b) {x4 a1 a2 a3 a4 a5 : Int32} (h_in1 : vp_in (x4 + 1) L0) (h_in2 : vp_in (x4 + 2) L0) (h_in3 : vp_in (x4 + 3) L0) (h_in4 : vp_in (x4 + 4) L0) (h_in5 : vp_in (x4 + 5) L0) (ha1 : xs (x4 + 1).toNatClampNeg = a1) (ha2 : xs (x4 + 2).toNatClampNeg = a2) (ha3 : xs (x4 + 3).toNatClampNeg = a3) (ha4 : xs (x4 + 4).toNatClampNeg = a4) (ha5 : xs (x4 + 5).toNatClampNeg = a5) {c0 s0 : Nat} (hc0 : c0 + 1 ≤ room_1.cells) (hs0 : s0 + 6 ≤ room_1.slots) {fu : Nat} {S S' : St} (hf : fc_16 fu a1 a2 a3 a4 a5 S = some (S', (1 : Int32)))
    (kk : ∀ (H : Heap) (locs : List Loc) (ls : Array Slot), WS D cA ad base s S' H locs → lv_has ls 7 [(0, .ref b), (1, .ref (ad 0)), (2, .ref (ad 63)), (3, .ref (ad 106)), (4, .int x4)] → W p l e room_1 s m #[Value.ref b] below meth c H locs (c0 + 1) (s0 + 6) Q (F0 m 1071 ls []))
    {H : Heap} {locs : List Loc} {ls : Array Slot} (hw : WS D cA ad base s S H locs) (hl : lv_has ls 7 [(0, .ref b), (1, .ref (ad 0)), (2, .ref (ad 63)), (3, .ref (ad 106)), (4, .int x4)]) : W p l e room_1 s m #[Value.ref b] below meth c H locs c0 s0 Q (F0 m 837 ls []) := by
  have hx := C.1
  have hb := C.2.1
  have hc1 : c0 ≤ room_1.cells := by omega
  have hs1 : s0 ≤ room_1.slots := by omega
  refine lv_aload_n hx hb dL_law_837 rfl (lv_at hl 1 rfl) ?_
  refine lv_aload_n hx hb dL_law_838 rfl (lv_at hl 0 rfl) ?_
  refine lv_iload hx hb dL_law_839 (lv_at hl 4 rfl) ?_
  refine lv_iconst (v := (1 : Int32)) hx hb dL_law_841 (by decide) ?_
  refine lv_iadd hx hb dL_law_842 ?_
  refine r_sld C hw hX hbl hbB h_in1 ha1 dL_law_843 ?_
  refine lv_aload_n hx hb dL_law_844 rfl (lv_at hl 0 rfl) ?_
  refine lv_iload hx hb dL_law_845 (lv_at hl 4 rfl) ?_
  refine lv_iconst (v := (2 : Int32)) hx hb dL_law_847 (by decide) ?_
  refine lv_iadd hx hb dL_law_848 ?_
  refine r_sld C hw hX hbl hbB h_in2 ha2 dL_law_849 ?_
  refine lv_aload_n hx hb dL_law_850 rfl (lv_at hl 3 rfl) ?_
  obtain ⟨S_851, r_851, h_851, hf⟩ := bd_some hf
  refine r_biW hw (r_runSW (rest := []) C hw (m_L_ask l hlt D cA ad base fu h_851) msL_ask gw5_86 ⟨rfl, rfl, Nat.le_of_ble_eq_true rfl, Nat.le_of_ble_eq_true rfl⟩ rfl hl.1 rfl (Nat.le_of_ble_eq_true rfl) dL_law_851 hc0 hs0) (fun H locs hw => ?_)
  refine lv_istore (lv' := [(5, .int r_851), (0, .ref b), (1, .ref (ad 0)), (2, .ref (ad 63)), (3, .ref (ad 106)), (4, .int x4)]) hx hb dL_law_854 hl (by decide) rfl (fun ls hl => ?_)
  refine lv_aload_n hx hb dL_law_856 rfl (lv_at hl 3 rfl) ?_
  refine lv_aload_n hx hb dL_law_857 rfl (lv_at hl 1 rfl) ?_
  refine lv_iload hx hb dL_law_858 (lv_at hl 5 rfl) ?_
  refine lv_iconst (v := (1 : Int32)) hx hb dL_law_860 (by decide) ?_
  refine lv_iadd hx hb dL_law_861 ?_
  refine r_sld C hw hX hbl hbB h_in1 ha1 dL_law_862 ?_
  refine lv_aload_n hx hb dL_law_863 rfl (lv_at hl 1 rfl) ?_
  refine lv_iload hx hb dL_law_864 (lv_at hl 5 rfl) ?_
  refine lv_iconst (v := (2 : Int32)) hx hb dL_law_866 (by decide) ?_
  refine lv_iadd hx hb dL_law_867 ?_
  refine r_sld C hw hX hbl hbB h_in2 ha2 dL_law_868 ?_
  obtain ⟨S_869, r_869, h_869, hf⟩ := bd_some hf
  refine r_bi hw (r_runV (rest := []) C hw (m_X12_ask l D cA ad base fu h_869) mvX12_ask gw8_164 ⟨rfl, rfl, Nat.le_of_ble_eq_true rfl, Nat.le_of_ble_eq_true rfl⟩ dq_63 ln_63 vc_12 rfl hl.1 rfl (Nat.le_of_ble_eq_true rfl) dL_law_869 hc0 hs0) (fun H locs hw => ?_)
  refine lv_istore (lv' := [(6, .int r_869), (5, .int r_851), (0, .ref b), (1, .ref (ad 0)), (2, .ref (ad 63)), (3, .ref (ad 106)), (4, .int x4)]) hx hb dL_law_872 hl (by decide) rfl (fun ls hl => ?_)
  refine lv_goto (tgt := 1071) hx hb dL_law_874 (by decide) ?_
  exact kk _ _ _ (by cases hf; exact hw) (lv_sub hl [2, 3, 4, 5, 6] rfl)
noncomputable def fc_17 (fu : Nat) (a1 a2 a3 a4 a5 : Int32) (S : St) : Option (St × Int32) :=
  bd (fL_step fu S) fun S_879 r_879 =>
  bd (fX12_step fu S_879) fun S_885 r_885 =>
  some (S_885, (1 : Int32))
set_option maxHeartbeats 4000000 in
set_option maxRecDepth 100000 in
theorem lc_17 {p : Program} {l : Launch} {e : Env} {s : State} {m : MethodId} {below : List Frame} {meth : Method} {c : Code} {Q : State → Prop} {D : va_G} {cA : FieldType → ClassId} {ad : Nat → Nat} {base b L0 : Nat} {xs : Nat → Int32} (hlt : l.stackTraces = false) (C : CX D cA base RL cL_law 7 p s m #[Value.ref b] c) (hX : va_X b L0 xs s s.heap) (hbl : b < s.heap.size) (hbB : ¬ aB base b) {x4 a1 a2 a3 a4 a5 : Int32} (h_in1 : vp_in (x4 + 1) L0) (h_in2 : vp_in (x4 + 2) L0) (h_in3 : vp_in (x4 + 3) L0) (h_in4 : vp_in (x4 + 4) L0) (h_in5 : vp_in (x4 + 5) L0) (ha1 : xs (x4 + 1).toNatClampNeg = a1) (ha2 : xs (x4 + 2).toNatClampNeg = a2) (ha3 : xs (x4 + 3).toNatClampNeg = a3) (ha4 : xs (x4 + 4).toNatClampNeg = a4) (ha5 : xs (x4 + 5).toNatClampNeg = a5) {c0 s0 : Nat} (hc0 : c0 + 1 ≤ room_1.cells) (hs0 : s0 + 6 ≤ room_1.slots) {fu : Nat} {S S' : St} (hf : fc_17 fu a1 a2 a3 a4 a5 S = some (S', (1 : Int32)))
    (kk : ∀ (H : Heap) (locs : List Loc) (ls : Array Slot), WS D cA ad base s S' H locs → lv_has ls 7 [(0, .ref b), (1, .ref (ad 0)), (2, .ref (ad 63)), (3, .ref (ad 106)), (4, .int x4)] → W p l e room_1 s m #[Value.ref b] below meth c H locs (c0 + 1) (s0 + 6) Q (F0 m 1071 ls []))
    {H : Heap} {locs : List Loc} {ls : Array Slot} (hw : WS D cA ad base s S H locs) (hl : lv_has ls 7 [(0, .ref b), (1, .ref (ad 0)), (2, .ref (ad 63)), (3, .ref (ad 106)), (4, .int x4)]) : W p l e room_1 s m #[Value.ref b] below meth c H locs c0 s0 Q (F0 m 877 ls []) := by
  have hx := C.1
  have hb := C.2.1
  have hc1 : c0 ≤ room_1.cells := by omega
  have hs1 : s0 ≤ room_1.slots := by omega
  refine lv_aload_n hx hb dL_law_877 rfl (lv_at hl 1 rfl) ?_
  refine lv_aload_n hx hb dL_law_878 rfl (lv_at hl 3 rfl) ?_
  obtain ⟨S_879, r_879, h_879, hf⟩ := bd_some hf
  refine r_biW hw (r_runSW (rest := []) C hw (m_L_step l hlt D cA ad base fu h_879) msL_step gw5_238 ⟨rfl, rfl, Nat.le_of_ble_eq_true rfl, Nat.le_of_ble_eq_true rfl⟩ rfl hl.1 rfl (Nat.le_of_ble_eq_true rfl) dL_law_879 hc0 hs0) (fun H locs hw => ?_)
  refine lv_istore (lv' := [(5, .int r_879), (0, .ref b), (1, .ref (ad 0)), (2, .ref (ad 63)), (3, .ref (ad 106)), (4, .int x4)]) hx hb dL_law_882 hl (by decide) rfl (fun ls hl => ?_)
  refine lv_aload_n hx hb dL_law_884 rfl (lv_at hl 3 rfl) ?_
  obtain ⟨S_885, r_885, h_885, hf⟩ := bd_some hf
  refine r_bi hw (r_runV (rest := []) C hw (m_X12_step l D cA ad base fu h_885) mvX12_step gw8_213 ⟨rfl, rfl, Nat.le_of_ble_eq_true rfl, Nat.le_of_ble_eq_true rfl⟩ dq_63 ln_63 vc_12 rfl hl.1 rfl (Nat.le_of_ble_eq_true rfl) dL_law_885 hc0 hs0) (fun H locs hw => ?_)
  refine lv_istore (lv' := [(6, .int r_885), (5, .int r_879), (0, .ref b), (1, .ref (ad 0)), (2, .ref (ad 63)), (3, .ref (ad 106)), (4, .int x4)]) hx hb dL_law_888 hl (by decide) rfl (fun ls hl => ?_)
  refine lv_goto (tgt := 1071) hx hb dL_law_890 (by decide) ?_
  exact kk _ _ _ (by cases hf; exact hw) (lv_sub hl [2, 3, 4, 5, 6] rfl)
noncomputable def fc_18 (fu : Nat) (a1 a2 a3 a4 a5 : Int32) (S : St) : Option (St × Int32) :=
  bd (fL_lose fu S) fun S_895 r_895 =>
  bd (fX12_lose fu S_895) fun S_901 r_901 =>
  some (S_901, (1 : Int32))
set_option maxHeartbeats 4000000 in
set_option maxRecDepth 100000 in
theorem lc_18 {p : Program} {l : Launch} {e : Env} {s : State} {m : MethodId} {below : List Frame} {meth : Method} {c : Code} {Q : State → Prop} {D : va_G} {cA : FieldType → ClassId} {ad : Nat → Nat} {base b L0 : Nat} {xs : Nat → Int32} (hlt : l.stackTraces = false) (C : CX D cA base RL cL_law 7 p s m #[Value.ref b] c) (hX : va_X b L0 xs s s.heap) (hbl : b < s.heap.size) (hbB : ¬ aB base b) {x4 a1 a2 a3 a4 a5 : Int32} (h_in1 : vp_in (x4 + 1) L0) (h_in2 : vp_in (x4 + 2) L0) (h_in3 : vp_in (x4 + 3) L0) (h_in4 : vp_in (x4 + 4) L0) (h_in5 : vp_in (x4 + 5) L0) (ha1 : xs (x4 + 1).toNatClampNeg = a1) (ha2 : xs (x4 + 2).toNatClampNeg = a2) (ha3 : xs (x4 + 3).toNatClampNeg = a3) (ha4 : xs (x4 + 4).toNatClampNeg = a4) (ha5 : xs (x4 + 5).toNatClampNeg = a5) {c0 s0 : Nat} (hc0 : c0 + 1 ≤ room_1.cells) (hs0 : s0 + 6 ≤ room_1.slots) {fu : Nat} {S S' : St} (hf : fc_18 fu a1 a2 a3 a4 a5 S = some (S', (1 : Int32)))
    (kk : ∀ (H : Heap) (locs : List Loc) (ls : Array Slot), WS D cA ad base s S' H locs → lv_has ls 7 [(0, .ref b), (1, .ref (ad 0)), (2, .ref (ad 63)), (3, .ref (ad 106)), (4, .int x4)] → W p l e room_1 s m #[Value.ref b] below meth c H locs (c0 + 1) (s0 + 6) Q (F0 m 1071 ls []))
    {H : Heap} {locs : List Loc} {ls : Array Slot} (hw : WS D cA ad base s S H locs) (hl : lv_has ls 7 [(0, .ref b), (1, .ref (ad 0)), (2, .ref (ad 63)), (3, .ref (ad 106)), (4, .int x4)]) : W p l e room_1 s m #[Value.ref b] below meth c H locs c0 s0 Q (F0 m 893 ls []) := by
  have hx := C.1
  have hb := C.2.1
  have hc1 : c0 ≤ room_1.cells := by omega
  have hs1 : s0 ≤ room_1.slots := by omega
  refine lv_aload_n hx hb dL_law_893 rfl (lv_at hl 1 rfl) ?_
  refine lv_aload_n hx hb dL_law_894 rfl (lv_at hl 3 rfl) ?_
  obtain ⟨S_895, r_895, h_895, hf⟩ := bd_some hf
  refine r_biW hw (r_runSW (rest := []) C hw (m_L_lose l hlt D cA ad base fu h_895) msL_lose gw6_105 ⟨rfl, rfl, Nat.le_of_ble_eq_true rfl, Nat.le_of_ble_eq_true rfl⟩ rfl hl.1 rfl (Nat.le_of_ble_eq_true rfl) dL_law_895 hc0 hs0) (fun H locs hw => ?_)
  refine lv_istore (lv' := [(5, .int r_895), (0, .ref b), (1, .ref (ad 0)), (2, .ref (ad 63)), (3, .ref (ad 106)), (4, .int x4)]) hx hb dL_law_898 hl (by decide) rfl (fun ls hl => ?_)
  refine lv_aload_n hx hb dL_law_900 rfl (lv_at hl 3 rfl) ?_
  obtain ⟨S_901, r_901, h_901, hf⟩ := bd_some hf
  refine r_bi hw (r_runV (rest := []) C hw (m_X12_lose l D cA ad base fu h_901) mvX12_lose gw9_11 ⟨rfl, rfl, Nat.le_of_ble_eq_true rfl, Nat.le_of_ble_eq_true rfl⟩ dq_63 ln_63 vc_12 rfl hl.1 rfl (Nat.le_of_ble_eq_true rfl) dL_law_901 hc0 hs0) (fun H locs hw => ?_)
  refine lv_istore (lv' := [(6, .int r_901), (5, .int r_895), (0, .ref b), (1, .ref (ad 0)), (2, .ref (ad 63)), (3, .ref (ad 106)), (4, .int x4)]) hx hb dL_law_904 hl (by decide) rfl (fun ls hl => ?_)
  refine lv_goto (tgt := 1071) hx hb dL_law_906 (by decide) ?_
  exact kk _ _ _ (by cases hf; exact hw) (lv_sub hl [2, 3, 4, 5, 6] rfl)
noncomputable def fc_19 (fu : Nat) (a1 a2 a3 a4 a5 : Int32) (S : St) : Option (St × Int32) :=
  bd (fL_forge fu S) fun S_911 r_911 =>
  bd (fX12_forge fu S_911) fun S_917 r_917 =>
  some (S_917, (1 : Int32))
set_option maxHeartbeats 4000000 in
set_option maxRecDepth 100000 in
theorem lc_19 {p : Program} {l : Launch} {e : Env} {s : State} {m : MethodId} {below : List Frame} {meth : Method} {c : Code} {Q : State → Prop} {D : va_G} {cA : FieldType → ClassId} {ad : Nat → Nat} {base b L0 : Nat} {xs : Nat → Int32} (hlt : l.stackTraces = false) (C : CX D cA base RL cL_law 7 p s m #[Value.ref b] c) (hX : va_X b L0 xs s s.heap) (hbl : b < s.heap.size) (hbB : ¬ aB base b) {x4 a1 a2 a3 a4 a5 : Int32} (h_in1 : vp_in (x4 + 1) L0) (h_in2 : vp_in (x4 + 2) L0) (h_in3 : vp_in (x4 + 3) L0) (h_in4 : vp_in (x4 + 4) L0) (h_in5 : vp_in (x4 + 5) L0) (ha1 : xs (x4 + 1).toNatClampNeg = a1) (ha2 : xs (x4 + 2).toNatClampNeg = a2) (ha3 : xs (x4 + 3).toNatClampNeg = a3) (ha4 : xs (x4 + 4).toNatClampNeg = a4) (ha5 : xs (x4 + 5).toNatClampNeg = a5) {c0 s0 : Nat} (hc0 : c0 + 1 ≤ room_1.cells) (hs0 : s0 + 6 ≤ room_1.slots) {fu : Nat} {S S' : St} (hf : fc_19 fu a1 a2 a3 a4 a5 S = some (S', (1 : Int32)))
    (kk : ∀ (H : Heap) (locs : List Loc) (ls : Array Slot), WS D cA ad base s S' H locs → lv_has ls 7 [(0, .ref b), (1, .ref (ad 0)), (2, .ref (ad 63)), (3, .ref (ad 106)), (4, .int x4)] → W p l e room_1 s m #[Value.ref b] below meth c H locs (c0 + 1) (s0 + 6) Q (F0 m 1071 ls []))
    {H : Heap} {locs : List Loc} {ls : Array Slot} (hw : WS D cA ad base s S H locs) (hl : lv_has ls 7 [(0, .ref b), (1, .ref (ad 0)), (2, .ref (ad 63)), (3, .ref (ad 106)), (4, .int x4)]) : W p l e room_1 s m #[Value.ref b] below meth c H locs c0 s0 Q (F0 m 909 ls []) := by
  have hx := C.1
  have hb := C.2.1
  have hc1 : c0 ≤ room_1.cells := by omega
  have hs1 : s0 ≤ room_1.slots := by omega
  refine lv_aload_n hx hb dL_law_909 rfl (lv_at hl 1 rfl) ?_
  refine lv_aload_n hx hb dL_law_910 rfl (lv_at hl 3 rfl) ?_
  obtain ⟨S_911, r_911, h_911, hf⟩ := bd_some hf
  refine r_biW hw (r_runSW (rest := []) C hw (m_L_forge l hlt D cA ad base fu h_911) msL_forge gw6_112 ⟨rfl, rfl, Nat.le_of_ble_eq_true rfl, Nat.le_of_ble_eq_true rfl⟩ rfl hl.1 rfl (Nat.le_of_ble_eq_true rfl) dL_law_911 hc0 hs0) (fun H locs hw => ?_)
  refine lv_istore (lv' := [(5, .int r_911), (0, .ref b), (1, .ref (ad 0)), (2, .ref (ad 63)), (3, .ref (ad 106)), (4, .int x4)]) hx hb dL_law_914 hl (by decide) rfl (fun ls hl => ?_)
  refine lv_aload_n hx hb dL_law_916 rfl (lv_at hl 3 rfl) ?_
  obtain ⟨S_917, r_917, h_917, hf⟩ := bd_some hf
  refine r_bi hw (r_runV (rest := []) C hw (m_X12_forge l D cA ad base fu h_917) mvX12_forge gw9_15 ⟨rfl, rfl, Nat.le_of_ble_eq_true rfl, Nat.le_of_ble_eq_true rfl⟩ dq_63 ln_63 vc_12 rfl hl.1 rfl (Nat.le_of_ble_eq_true rfl) dL_law_917 hc0 hs0) (fun H locs hw => ?_)
  refine lv_istore (lv' := [(6, .int r_917), (5, .int r_911), (0, .ref b), (1, .ref (ad 0)), (2, .ref (ad 63)), (3, .ref (ad 106)), (4, .int x4)]) hx hb dL_law_920 hl (by decide) rfl (fun ls hl => ?_)
  refine lv_goto (tgt := 1071) hx hb dL_law_922 (by decide) ?_
  exact kk _ _ _ (by cases hf; exact hw) (lv_sub hl [2, 3, 4, 5, 6] rfl)
noncomputable def fc_20 (fu : Nat) (a1 a2 a3 a4 a5 : Int32) (S : St) : Option (St × Int32) :=
  bd (fL_query fu a1 S) fun S_933 r_933 =>
  bd (fX12_query fu a1 S_933) fun S_945 r_945 =>
  some (S_945, (1 : Int32))
set_option maxHeartbeats 4000000 in
set_option maxRecDepth 100000 in
theorem lc_20 {p : Program} {l : Launch} {e : Env} {s : State} {m : MethodId} {below : List Frame} {meth : Method} {c : Code} {Q : State → Prop} {D : va_G} {cA : FieldType → ClassId} {ad : Nat → Nat} {base b L0 : Nat} {xs : Nat → Int32} (hlt : l.stackTraces = false) (C : CX D cA base RL cL_law 7 p s m #[Value.ref b] c) (hX : va_X b L0 xs s s.heap) (hbl : b < s.heap.size) (hbB : ¬ aB base b) {x4 a1 a2 a3 a4 a5 : Int32} (h_in1 : vp_in (x4 + 1) L0) (h_in2 : vp_in (x4 + 2) L0) (h_in3 : vp_in (x4 + 3) L0) (h_in4 : vp_in (x4 + 4) L0) (h_in5 : vp_in (x4 + 5) L0) (ha1 : xs (x4 + 1).toNatClampNeg = a1) (ha2 : xs (x4 + 2).toNatClampNeg = a2) (ha3 : xs (x4 + 3).toNatClampNeg = a3) (ha4 : xs (x4 + 4).toNatClampNeg = a4) (ha5 : xs (x4 + 5).toNatClampNeg = a5) {c0 s0 : Nat} (hc0 : c0 + 1 ≤ room_1.cells) (hs0 : s0 + 6 ≤ room_1.slots) {fu : Nat} {S S' : St} (hf : fc_20 fu a1 a2 a3 a4 a5 S = some (S', (1 : Int32)))
    (kk : ∀ (H : Heap) (locs : List Loc) (ls : Array Slot), WS D cA ad base s S' H locs → lv_has ls 7 [(0, .ref b), (1, .ref (ad 0)), (2, .ref (ad 63)), (3, .ref (ad 106)), (4, .int x4)] → W p l e room_1 s m #[Value.ref b] below meth c H locs (c0 + 1) (s0 + 6) Q (F0 m 1071 ls []))
    {H : Heap} {locs : List Loc} {ls : Array Slot} (hw : WS D cA ad base s S H locs) (hl : lv_has ls 7 [(0, .ref b), (1, .ref (ad 0)), (2, .ref (ad 63)), (3, .ref (ad 106)), (4, .int x4)]) : W p l e room_1 s m #[Value.ref b] below meth c H locs c0 s0 Q (F0 m 925 ls []) := by
  have hx := C.1
  have hb := C.2.1
  have hc1 : c0 ≤ room_1.cells := by omega
  have hs1 : s0 ≤ room_1.slots := by omega
  refine lv_aload_n hx hb dL_law_925 rfl (lv_at hl 1 rfl) ?_
  refine lv_aload_n hx hb dL_law_926 rfl (lv_at hl 0 rfl) ?_
  refine lv_iload hx hb dL_law_927 (lv_at hl 4 rfl) ?_
  refine lv_iconst (v := (1 : Int32)) hx hb dL_law_929 (by decide) ?_
  refine lv_iadd hx hb dL_law_930 ?_
  refine r_sld C hw hX hbl hbB h_in1 ha1 dL_law_931 ?_
  refine lv_aload_n hx hb dL_law_932 rfl (lv_at hl 3 rfl) ?_
  obtain ⟨S_933, r_933, h_933, hf⟩ := bd_some hf
  refine r_biW hw (r_runSW (rest := []) C hw (m_L_query l hlt D cA ad base fu h_933) msL_query gw6_119 ⟨rfl, rfl, Nat.le_of_ble_eq_true rfl, Nat.le_of_ble_eq_true rfl⟩ rfl hl.1 rfl (Nat.le_of_ble_eq_true rfl) dL_law_933 hc0 hs0) (fun H locs hw => ?_)
  refine lv_istore (lv' := [(5, .int r_933), (0, .ref b), (1, .ref (ad 0)), (2, .ref (ad 63)), (3, .ref (ad 106)), (4, .int x4)]) hx hb dL_law_936 hl (by decide) rfl (fun ls hl => ?_)
  refine lv_aload_n hx hb dL_law_938 rfl (lv_at hl 3 rfl) ?_
  refine lv_aload_n hx hb dL_law_939 rfl (lv_at hl 1 rfl) ?_
  refine lv_iload hx hb dL_law_940 (lv_at hl 5 rfl) ?_
  refine lv_iconst (v := (1 : Int32)) hx hb dL_law_942 (by decide) ?_
  refine lv_iadd hx hb dL_law_943 ?_
  refine r_sld C hw hX hbl hbB h_in1 ha1 dL_law_944 ?_
  obtain ⟨S_945, r_945, h_945, hf⟩ := bd_some hf
  refine r_bi hw (r_runV (rest := []) C hw (m_X12_query l D cA ad base fu h_945) mvX12_query gw9_19 ⟨rfl, rfl, Nat.le_of_ble_eq_true rfl, Nat.le_of_ble_eq_true rfl⟩ dq_63 ln_63 vc_12 rfl hl.1 rfl (Nat.le_of_ble_eq_true rfl) dL_law_945 hc0 hs0) (fun H locs hw => ?_)
  refine lv_istore (lv' := [(6, .int r_945), (5, .int r_933), (0, .ref b), (1, .ref (ad 0)), (2, .ref (ad 63)), (3, .ref (ad 106)), (4, .int x4)]) hx hb dL_law_948 hl (by decide) rfl (fun ls hl => ?_)
  refine lv_goto (tgt := 1071) hx hb dL_law_950 (by decide) ?_
  exact kk _ _ _ (by cases hf; exact hw) (lv_sub hl [2, 3, 4, 5, 6] rfl)
noncomputable def fc_21 (fu : Nat) (a1 a2 a3 a4 a5 : Int32) (S : St) : Option (St × Int32) :=
  bd (fL_result fu a1 S) fun S_961 r_961 =>
  bd (fX12_result fu a1 S_961) fun S_973 r_973 =>
  some (S_973, (1 : Int32))
set_option maxHeartbeats 4000000 in
set_option maxRecDepth 100000 in
theorem lc_21 {p : Program} {l : Launch} {e : Env} {s : State} {m : MethodId} {below : List Frame} {meth : Method} {c : Code} {Q : State → Prop} {D : va_G} {cA : FieldType → ClassId} {ad : Nat → Nat} {base b L0 : Nat} {xs : Nat → Int32} (hlt : l.stackTraces = false) (C : CX D cA base RL cL_law 7 p s m #[Value.ref b] c) (hX : va_X b L0 xs s s.heap) (hbl : b < s.heap.size) (hbB : ¬ aB base b) {x4 a1 a2 a3 a4 a5 : Int32} (h_in1 : vp_in (x4 + 1) L0) (h_in2 : vp_in (x4 + 2) L0) (h_in3 : vp_in (x4 + 3) L0) (h_in4 : vp_in (x4 + 4) L0) (h_in5 : vp_in (x4 + 5) L0) (ha1 : xs (x4 + 1).toNatClampNeg = a1) (ha2 : xs (x4 + 2).toNatClampNeg = a2) (ha3 : xs (x4 + 3).toNatClampNeg = a3) (ha4 : xs (x4 + 4).toNatClampNeg = a4) (ha5 : xs (x4 + 5).toNatClampNeg = a5) {c0 s0 : Nat} (hc0 : c0 + 1 ≤ room_1.cells) (hs0 : s0 + 6 ≤ room_1.slots) {fu : Nat} {S S' : St} (hf : fc_21 fu a1 a2 a3 a4 a5 S = some (S', (1 : Int32)))
    (kk : ∀ (H : Heap) (locs : List Loc) (ls : Array Slot), WS D cA ad base s S' H locs → lv_has ls 7 [(0, .ref b), (1, .ref (ad 0)), (2, .ref (ad 63)), (3, .ref (ad 106)), (4, .int x4)] → W p l e room_1 s m #[Value.ref b] below meth c H locs (c0 + 1) (s0 + 6) Q (F0 m 1071 ls []))
    {H : Heap} {locs : List Loc} {ls : Array Slot} (hw : WS D cA ad base s S H locs) (hl : lv_has ls 7 [(0, .ref b), (1, .ref (ad 0)), (2, .ref (ad 63)), (3, .ref (ad 106)), (4, .int x4)]) : W p l e room_1 s m #[Value.ref b] below meth c H locs c0 s0 Q (F0 m 953 ls []) := by
  have hx := C.1
  have hb := C.2.1
  have hc1 : c0 ≤ room_1.cells := by omega
  have hs1 : s0 ≤ room_1.slots := by omega
  refine lv_aload_n hx hb dL_law_953 rfl (lv_at hl 1 rfl) ?_
  refine lv_aload_n hx hb dL_law_954 rfl (lv_at hl 0 rfl) ?_
  refine lv_iload hx hb dL_law_955 (lv_at hl 4 rfl) ?_
  refine lv_iconst (v := (1 : Int32)) hx hb dL_law_957 (by decide) ?_
  refine lv_iadd hx hb dL_law_958 ?_
  refine r_sld C hw hX hbl hbB h_in1 ha1 dL_law_959 ?_
  refine lv_aload_n hx hb dL_law_960 rfl (lv_at hl 3 rfl) ?_
  obtain ⟨S_961, r_961, h_961, hf⟩ := bd_some hf
  refine r_biW hw (r_runSW (rest := []) C hw (m_L_result l hlt D cA ad base fu h_961) msL_result gw6_135 ⟨rfl, rfl, Nat.le_of_ble_eq_true rfl, Nat.le_of_ble_eq_true rfl⟩ rfl hl.1 rfl (Nat.le_of_ble_eq_true rfl) dL_law_961 hc0 hs0) (fun H locs hw => ?_)
  refine lv_istore (lv' := [(5, .int r_961), (0, .ref b), (1, .ref (ad 0)), (2, .ref (ad 63)), (3, .ref (ad 106)), (4, .int x4)]) hx hb dL_law_964 hl (by decide) rfl (fun ls hl => ?_)
  refine lv_aload_n hx hb dL_law_966 rfl (lv_at hl 3 rfl) ?_
  refine lv_aload_n hx hb dL_law_967 rfl (lv_at hl 1 rfl) ?_
  refine lv_iload hx hb dL_law_968 (lv_at hl 5 rfl) ?_
  refine lv_iconst (v := (1 : Int32)) hx hb dL_law_970 (by decide) ?_
  refine lv_iadd hx hb dL_law_971 ?_
  refine r_sld C hw hX hbl hbB h_in1 ha1 dL_law_972 ?_
  obtain ⟨S_973, r_973, h_973, hf⟩ := bd_some hf
  refine r_bi hw (r_runV (rest := []) C hw (m_X12_result l D cA ad base fu h_973) mvX12_result gw9_23 ⟨rfl, rfl, Nat.le_of_ble_eq_true rfl, Nat.le_of_ble_eq_true rfl⟩ dq_63 ln_63 vc_12 rfl hl.1 rfl (Nat.le_of_ble_eq_true rfl) dL_law_973 hc0 hs0) (fun H locs hw => ?_)
  refine lv_istore (lv' := [(6, .int r_973), (5, .int r_961), (0, .ref b), (1, .ref (ad 0)), (2, .ref (ad 63)), (3, .ref (ad 106)), (4, .int x4)]) hx hb dL_law_976 hl (by decide) rfl (fun ls hl => ?_)
  refine lv_goto (tgt := 1071) hx hb dL_law_978 (by decide) ?_
  exact kk _ _ _ (by cases hf; exact hw) (lv_sub hl [2, 3, 4, 5, 6] rfl)
noncomputable def fc_22 (fu : Nat) (a1 a2 a3 a4 a5 : Int32) (S : St) : Option (St × Int32) :=
  bd (fX11_data fu a1 S) fun S_988 r_988 =>
  bd (fX12_data fu a1 S_988) fun S_999 r_999 =>
  some (S_999, (1 : Int32))
set_option maxHeartbeats 4000000 in
set_option maxRecDepth 100000 in
theorem lc_22 {p : Program} {l : Launch} {e : Env} {s : State} {m : MethodId} {below : List Frame} {meth : Method} {c : Code} {Q : State → Prop} {D : va_G} {cA : FieldType → ClassId} {ad : Nat → Nat} {base b L0 : Nat} {xs : Nat → Int32} (hlt : l.stackTraces = false) (C : CX D cA base RL cL_law 7 p s m #[Value.ref b] c) (hX : va_X b L0 xs s s.heap) (hbl : b < s.heap.size) (hbB : ¬ aB base b) {x4 a1 a2 a3 a4 a5 : Int32} (h_in1 : vp_in (x4 + 1) L0) (h_in2 : vp_in (x4 + 2) L0) (h_in3 : vp_in (x4 + 3) L0) (h_in4 : vp_in (x4 + 4) L0) (h_in5 : vp_in (x4 + 5) L0) (ha1 : xs (x4 + 1).toNatClampNeg = a1) (ha2 : xs (x4 + 2).toNatClampNeg = a2) (ha3 : xs (x4 + 3).toNatClampNeg = a3) (ha4 : xs (x4 + 4).toNatClampNeg = a4) (ha5 : xs (x4 + 5).toNatClampNeg = a5) {c0 s0 : Nat} (hc0 : c0 + 1 ≤ room_1.cells) (hs0 : s0 + 6 ≤ room_1.slots) {fu : Nat} {S S' : St} (hf : fc_22 fu a1 a2 a3 a4 a5 S = some (S', (1 : Int32)))
    (kk : ∀ (H : Heap) (locs : List Loc) (ls : Array Slot), WS D cA ad base s S' H locs → lv_has ls 7 [(0, .ref b), (1, .ref (ad 0)), (2, .ref (ad 63)), (3, .ref (ad 106)), (4, .int x4)] → W p l e room_1 s m #[Value.ref b] below meth c H locs (c0 + 1) (s0 + 6) Q (F0 m 1071 ls []))
    {H : Heap} {locs : List Loc} {ls : Array Slot} (hw : WS D cA ad base s S H locs) (hl : lv_has ls 7 [(0, .ref b), (1, .ref (ad 0)), (2, .ref (ad 63)), (3, .ref (ad 106)), (4, .int x4)]) : W p l e room_1 s m #[Value.ref b] below meth c H locs c0 s0 Q (F0 m 981 ls []) := by
  have hx := C.1
  have hb := C.2.1
  have hc1 : c0 ≤ room_1.cells := by omega
  have hs1 : s0 ≤ room_1.slots := by omega
  refine lv_aload_n hx hb dL_law_981 rfl (lv_at hl 1 rfl) ?_
  refine lv_aload_n hx hb dL_law_982 rfl (lv_at hl 0 rfl) ?_
  refine lv_iload hx hb dL_law_983 (lv_at hl 4 rfl) ?_
  refine lv_iconst (v := (1 : Int32)) hx hb dL_law_985 (by decide) ?_
  refine lv_iadd hx hb dL_law_986 ?_
  refine r_sld C hw hX hbl hbB h_in1 ha1 dL_law_987 ?_
  obtain ⟨S_988, r_988, h_988, hf⟩ := bd_some hf
  refine r_bi hw (r_runV (rest := []) C hw (m_X11_data l D cA ad base fu h_988) mvX11_data gw3_59 ⟨rfl, rfl, Nat.le_of_ble_eq_true rfl, Nat.le_of_ble_eq_true rfl⟩ dq_0 ln_0 vc_11 rfl hl.1 rfl (Nat.le_of_ble_eq_true rfl) dL_law_988 hc1 hs1) (fun H locs hw => ?_)
  refine lv_pop hx hb dL_law_991 rfl ?_
  refine lv_aload_n hx hb dL_law_992 rfl (lv_at hl 2 rfl) ?_
  refine lv_aload_n hx hb dL_law_993 rfl (lv_at hl 0 rfl) ?_
  refine lv_iload hx hb dL_law_994 (lv_at hl 4 rfl) ?_
  refine lv_iconst (v := (1 : Int32)) hx hb dL_law_996 (by decide) ?_
  refine lv_iadd hx hb dL_law_997 ?_
  refine r_sld C hw hX hbl hbB h_in1 ha1 dL_law_998 ?_
  obtain ⟨S_999, r_999, h_999, hf⟩ := bd_some hf
  refine r_bi hw (r_runV (rest := []) C hw (m_X12_data l D cA ad base fu h_999) mvX12_data gw9_27 ⟨rfl, rfl, Nat.le_of_ble_eq_true rfl, Nat.le_of_ble_eq_true rfl⟩ dq_63 ln_63 vc_12 rfl hl.1 rfl (Nat.le_of_ble_eq_true rfl) dL_law_999 hc1 hs1) (fun H locs hw => ?_)
  refine lv_pop hx hb dL_law_1002 rfl ?_
  refine lv_goto (tgt := 1071) hx hb dL_law_1003 (by decide) ?_
  refine W.widen (k := c0 + 1) (n := s0 + 6) (by omega) (by omega) ?_
  exact kk _ _ _ (by cases hf; exact hw) (lv_sub hl [0, 1, 2, 3, 4] rfl)
noncomputable def fc_23 (fu : Nat) (a1 a2 a3 a4 a5 : Int32) (S : St) : Option (St × Int32) :=
  bd (fL_cached fu a1 a2 S) fun S_1020 r_1020 =>
  bd (fX12_cached fu a1 a2 S_1020) fun S_1038 r_1038 =>
  some (S_1038, (1 : Int32))
set_option maxHeartbeats 4000000 in
set_option maxRecDepth 100000 in
theorem lc_23 {p : Program} {l : Launch} {e : Env} {s : State} {m : MethodId} {below : List Frame} {meth : Method} {c : Code} {Q : State → Prop} {D : va_G} {cA : FieldType → ClassId} {ad : Nat → Nat} {base b L0 : Nat} {xs : Nat → Int32} (hlt : l.stackTraces = false) (C : CX D cA base RL cL_law 7 p s m #[Value.ref b] c) (hX : va_X b L0 xs s s.heap) (hbl : b < s.heap.size) (hbB : ¬ aB base b) {x4 a1 a2 a3 a4 a5 : Int32} (h_in1 : vp_in (x4 + 1) L0) (h_in2 : vp_in (x4 + 2) L0) (h_in3 : vp_in (x4 + 3) L0) (h_in4 : vp_in (x4 + 4) L0) (h_in5 : vp_in (x4 + 5) L0) (ha1 : xs (x4 + 1).toNatClampNeg = a1) (ha2 : xs (x4 + 2).toNatClampNeg = a2) (ha3 : xs (x4 + 3).toNatClampNeg = a3) (ha4 : xs (x4 + 4).toNatClampNeg = a4) (ha5 : xs (x4 + 5).toNatClampNeg = a5) {c0 s0 : Nat} (hc0 : c0 + 1 ≤ room_1.cells) (hs0 : s0 + 6 ≤ room_1.slots) {fu : Nat} {S S' : St} (hf : fc_23 fu a1 a2 a3 a4 a5 S = some (S', (1 : Int32)))
    (kk : ∀ (H : Heap) (locs : List Loc) (ls : Array Slot), WS D cA ad base s S' H locs → lv_has ls 7 [(0, .ref b), (1, .ref (ad 0)), (2, .ref (ad 63)), (3, .ref (ad 106)), (4, .int x4)] → W p l e room_1 s m #[Value.ref b] below meth c H locs (c0 + 1) (s0 + 6) Q (F0 m 1071 ls []))
    {H : Heap} {locs : List Loc} {ls : Array Slot} (hw : WS D cA ad base s S H locs) (hl : lv_has ls 7 [(0, .ref b), (1, .ref (ad 0)), (2, .ref (ad 63)), (3, .ref (ad 106)), (4, .int x4)]) : W p l e room_1 s m #[Value.ref b] below meth c H locs c0 s0 Q (F0 m 1006 ls []) := by
  have hx := C.1
  have hb := C.2.1
  have hc1 : c0 ≤ room_1.cells := by omega
  have hs1 : s0 ≤ room_1.slots := by omega
  refine lv_aload_n hx hb dL_law_1006 rfl (lv_at hl 1 rfl) ?_
  refine lv_aload_n hx hb dL_law_1007 rfl (lv_at hl 0 rfl) ?_
  refine lv_iload hx hb dL_law_1008 (lv_at hl 4 rfl) ?_
  refine lv_iconst (v := (1 : Int32)) hx hb dL_law_1010 (by decide) ?_
  refine lv_iadd hx hb dL_law_1011 ?_
  refine r_sld C hw hX hbl hbB h_in1 ha1 dL_law_1012 ?_
  refine lv_aload_n hx hb dL_law_1013 rfl (lv_at hl 0 rfl) ?_
  refine lv_iload hx hb dL_law_1014 (lv_at hl 4 rfl) ?_
  refine lv_iconst (v := (2 : Int32)) hx hb dL_law_1016 (by decide) ?_
  refine lv_iadd hx hb dL_law_1017 ?_
  refine r_sld C hw hX hbl hbB h_in2 ha2 dL_law_1018 ?_
  refine lv_aload_n hx hb dL_law_1019 rfl (lv_at hl 3 rfl) ?_
  obtain ⟨S_1020, r_1020, h_1020, hf⟩ := bd_some hf
  refine r_biW hw (r_runSW (rest := []) C hw (m_L_cached l hlt D cA ad base fu h_1020) msL_cached gw6_167 ⟨rfl, rfl, Nat.le_of_ble_eq_true rfl, Nat.le_of_ble_eq_true rfl⟩ rfl hl.1 rfl (Nat.le_of_ble_eq_true rfl) dL_law_1020 hc0 hs0) (fun H locs hw => ?_)
  refine lv_istore (lv' := [(5, .int r_1020), (0, .ref b), (1, .ref (ad 0)), (2, .ref (ad 63)), (3, .ref (ad 106)), (4, .int x4)]) hx hb dL_law_1023 hl (by decide) rfl (fun ls hl => ?_)
  refine lv_aload_n hx hb dL_law_1025 rfl (lv_at hl 3 rfl) ?_
  refine lv_aload_n hx hb dL_law_1026 rfl (lv_at hl 1 rfl) ?_
  refine lv_iload hx hb dL_law_1027 (lv_at hl 5 rfl) ?_
  refine lv_iconst (v := (1 : Int32)) hx hb dL_law_1029 (by decide) ?_
  refine lv_iadd hx hb dL_law_1030 ?_
  refine r_sld C hw hX hbl hbB h_in1 ha1 dL_law_1031 ?_
  refine lv_aload_n hx hb dL_law_1032 rfl (lv_at hl 1 rfl) ?_
  refine lv_iload hx hb dL_law_1033 (lv_at hl 5 rfl) ?_
  refine lv_iconst (v := (2 : Int32)) hx hb dL_law_1035 (by decide) ?_
  refine lv_iadd hx hb dL_law_1036 ?_
  refine r_sld C hw hX hbl hbB h_in2 ha2 dL_law_1037 ?_
  obtain ⟨S_1038, r_1038, h_1038, hf⟩ := bd_some hf
  refine r_bi hw (r_runV (rest := []) C hw (m_X12_cached l D cA ad base fu h_1038) mvX12_cached gw8_152 ⟨rfl, rfl, Nat.le_of_ble_eq_true rfl, Nat.le_of_ble_eq_true rfl⟩ dq_63 ln_63 vc_12 rfl hl.1 rfl (Nat.le_of_ble_eq_true rfl) dL_law_1038 hc0 hs0) (fun H locs hw => ?_)
  refine lv_istore (lv' := [(6, .int r_1038), (5, .int r_1020), (0, .ref b), (1, .ref (ad 0)), (2, .ref (ad 63)), (3, .ref (ad 106)), (4, .int x4)]) hx hb dL_law_1041 hl (by decide) rfl (fun ls hl => ?_)
  refine lv_goto (tgt := 1071) hx hb dL_law_1043 (by decide) ?_
  exact kk _ _ _ (by cases hf; exact hw) (lv_sub hl [2, 3, 4, 5, 6] rfl)
noncomputable def fc_24 (fu : Nat) (a1 a2 a3 a4 a5 : Int32) (S : St) : Option (St × Int32) :=
  bd (fX11_count fu a1 S) fun S_1053 r_1053 =>
  bd (fX12_count fu a1 S_1053) fun S_1064 r_1064 =>
  some (S_1064, (1 : Int32))
set_option maxHeartbeats 4000000 in
set_option maxRecDepth 100000 in
theorem lc_24 {p : Program} {l : Launch} {e : Env} {s : State} {m : MethodId} {below : List Frame} {meth : Method} {c : Code} {Q : State → Prop} {D : va_G} {cA : FieldType → ClassId} {ad : Nat → Nat} {base b L0 : Nat} {xs : Nat → Int32} (hlt : l.stackTraces = false) (C : CX D cA base RL cL_law 7 p s m #[Value.ref b] c) (hX : va_X b L0 xs s s.heap) (hbl : b < s.heap.size) (hbB : ¬ aB base b) {x4 a1 a2 a3 a4 a5 : Int32} (h_in1 : vp_in (x4 + 1) L0) (h_in2 : vp_in (x4 + 2) L0) (h_in3 : vp_in (x4 + 3) L0) (h_in4 : vp_in (x4 + 4) L0) (h_in5 : vp_in (x4 + 5) L0) (ha1 : xs (x4 + 1).toNatClampNeg = a1) (ha2 : xs (x4 + 2).toNatClampNeg = a2) (ha3 : xs (x4 + 3).toNatClampNeg = a3) (ha4 : xs (x4 + 4).toNatClampNeg = a4) (ha5 : xs (x4 + 5).toNatClampNeg = a5) {c0 s0 : Nat} (hc0 : c0 + 1 ≤ room_1.cells) (hs0 : s0 + 6 ≤ room_1.slots) {fu : Nat} {S S' : St} (hf : fc_24 fu a1 a2 a3 a4 a5 S = some (S', (1 : Int32)))
    (kk : ∀ (H : Heap) (locs : List Loc) (ls : Array Slot), WS D cA ad base s S' H locs → lv_has ls 7 [(0, .ref b), (1, .ref (ad 0)), (2, .ref (ad 63)), (3, .ref (ad 106)), (4, .int x4)] → W p l e room_1 s m #[Value.ref b] below meth c H locs (c0 + 1) (s0 + 6) Q (F0 m 1071 ls []))
    {H : Heap} {locs : List Loc} {ls : Array Slot} (hw : WS D cA ad base s S H locs) (hl : lv_has ls 7 [(0, .ref b), (1, .ref (ad 0)), (2, .ref (ad 63)), (3, .ref (ad 106)), (4, .int x4)]) : W p l e room_1 s m #[Value.ref b] below meth c H locs c0 s0 Q (F0 m 1046 ls []) := by
  have hx := C.1
  have hb := C.2.1
  have hc1 : c0 ≤ room_1.cells := by omega
  have hs1 : s0 ≤ room_1.slots := by omega
  refine lv_aload_n hx hb dL_law_1046 rfl (lv_at hl 1 rfl) ?_
  refine lv_aload_n hx hb dL_law_1047 rfl (lv_at hl 0 rfl) ?_
  refine lv_iload hx hb dL_law_1048 (lv_at hl 4 rfl) ?_
  refine lv_iconst (v := (1 : Int32)) hx hb dL_law_1050 (by decide) ?_
  refine lv_iadd hx hb dL_law_1051 ?_
  refine r_sld C hw hX hbl hbB h_in1 ha1 dL_law_1052 ?_
  obtain ⟨S_1053, r_1053, h_1053, hf⟩ := bd_some hf
  refine r_bi hw (r_runV (rest := []) C hw (m_X11_count l D cA ad base fu h_1053) mvX11_count gw3_67 ⟨rfl, rfl, Nat.le_of_ble_eq_true rfl, Nat.le_of_ble_eq_true rfl⟩ dq_0 ln_0 vc_11 rfl hl.1 rfl (Nat.le_of_ble_eq_true rfl) dL_law_1053 hc1 hs1) (fun H locs hw => ?_)
  refine lv_pop hx hb dL_law_1056 rfl ?_
  refine lv_aload_n hx hb dL_law_1057 rfl (lv_at hl 2 rfl) ?_
  refine lv_aload_n hx hb dL_law_1058 rfl (lv_at hl 0 rfl) ?_
  refine lv_iload hx hb dL_law_1059 (lv_at hl 4 rfl) ?_
  refine lv_iconst (v := (1 : Int32)) hx hb dL_law_1061 (by decide) ?_
  refine lv_iadd hx hb dL_law_1062 ?_
  refine r_sld C hw hX hbl hbB h_in1 ha1 dL_law_1063 ?_
  obtain ⟨S_1064, r_1064, h_1064, hf⟩ := bd_some hf
  refine r_bi hw (r_runV (rest := []) C hw (m_X12_count l D cA ad base fu h_1064) mvX12_count gw9_31 ⟨rfl, rfl, Nat.le_of_ble_eq_true rfl, Nat.le_of_ble_eq_true rfl⟩ dq_63 ln_63 vc_12 rfl hl.1 rfl (Nat.le_of_ble_eq_true rfl) dL_law_1064 hc1 hs1) (fun H locs hw => ?_)
  refine lv_pop hx hb dL_law_1067 rfl ?_
  refine lv_goto (tgt := 1071) hx hb dL_law_1068 (by decide) ?_
  refine W.widen (k := c0 + 1) (n := s0 + 6) (by omega) (by omega) ?_
  exact kk _ _ _ (by cases hf; exact hw) (lv_sub hl [0, 1, 2, 3, 4] rfl)
