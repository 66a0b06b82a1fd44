theorem no01 {S S' : St} : ¬ (some (S, (0 : Int32)) = some (S', (1 : Int32))) := by
  intro h
  have h2 : (0 : Int32) = 1 := congrArg (fun z : St × Int32 => z.2) (Option.some.inj h)
  exact absurd h2 (by decide)
section RLW
variable {p : Program} {l : Launch} {e : Env} {R : Room} {s : State} {m : MethodId} {args : Array Value} {below : List Frame} {meth : Method} {c : Code} {H : Heap} {locs : List Loc} {cells slots : Nat} {Q : State → Prop}
variable {cc : ByteArray} {pc nL : Nat} {ls : Array Slot} {rest : List Value} {D : va_G} {cA : FieldType → ClassId} {ad : Nat → Nat} {base : Nat} {S : St} {own : String}
theorem r_sld (C : CX D cA base own cc nL p s m args c) (hw : WS D cA ad base s S H locs) {b L0 : Nat} {xs : Nat → Int32} (hX : va_X b L0 xs s s.heap) (hbl : b < s.heap.size) (hbB : ¬ aB base b) {i a : Int32} (hin : vp_in i L0) (ha : xs i.toNatClampNeg = a) (hdg : decode cc pc = .ok (.iaload, 1))
    (kk : W p l e R s m args below meth c H locs cells slots Q (F0 m (pc + 1) ls (.int a :: rest))) : W p l e R s m args below meth c H locs cells slots Q (F0 m pc ls (.int i :: .ref b :: rest)) := by
  subst ha
  exact va_sld C.1 C.2.1 hX hbl hbB hw.2.2 hin hdg kk
end RLW
noncomputable def fc_0 (fu : Nat) (a1 a2 a3 a4 a5 : Int32) (S : St) : Option (St × Int32) :=
  bd (fX11_feed fu a1 a2 a3 a4 a5 S) fun S_187 r_187 =>
  bd (fX12_feed fu a1 a2 a3 a4 a5 S_187) fun S_222 r_222 =>
  some (S_222, (1 : Int32))
set_option maxHeartbeats 4000000 in
set_option maxRecDepth 100000 in
theorem lc_0 {p : Program} {l : Launch} {e : Env} {s : State} {m : MethodId} {below : List Frame} {meth : Method} {c : Code} {Q : State → Prop} {D : va_G} {cA : FieldType → ClassId} {ad : Nat → Nat} {base b L0 : Nat} {xs : Nat → Int32} (hlt : l.stackTraces = false) (C : CX D cA base RL cL_law 7 p s m #[Value.ref b] c) (hX : va_X b L0 xs s s.heap) (hbl : b < s.heap.size) (hbB : ¬ aB base b) {x4 a1 a2 a3 a4 a5 : Int32} (h_in1 : vp_in (x4 + 1) L0) (h_in2 : vp_in (x4 + 2) L0) (h_in3 : vp_in (x4 + 3) L0) (h_in4 : vp_in (x4 + 4) L0) (h_in5 : vp_in (x4 + 5) L0) (ha1 : xs (x4 + 1).toNatClampNeg = a1) (ha2 : xs (x4 + 2).toNatClampNeg = a2) (ha3 : xs (x4 + 3).toNatClampNeg = a3) (ha4 : xs (x4 + 4).toNatClampNeg = a4) (ha5 : xs (x4 + 5).toNatClampNeg = a5) {c0 s0 : Nat} (hc0 : c0 + 1 ≤ room_1.cells) (hs0 : s0 + 6 ≤ room_1.slots) {fu : Nat} {S S' : St} (hf : fc_0 fu a1 a2 a3 a4 a5 S = some (S', (1 : Int32)))
    (kk : ∀ (H : Heap) (locs : List Loc) (ls : Array Slot), WS D cA ad base s S' H locs → lv_has ls 7 [(0, .ref b), (1, .ref (ad 0)), (2, .ref (ad 63)), (3, .ref (ad 106)), (4, .int x4)] → W p l e room_1 s m #[Value.ref b] below meth c H locs (c0 + 1) (s0 + 6) Q (F0 m 1043 ls []))
    {H : Heap} {locs : List Loc} {ls : Array Slot} (hw : WS D cA ad base s S H locs) (hl : lv_has ls 7 [(0, .ref b), (1, .ref (ad 0)), (2, .ref (ad 63)), (3, .ref (ad 106)), (4, .int x4)]) : W p l e room_1 s m #[Value.ref b] below meth c H locs c0 s0 Q (F0 m 156 ls []) := by
  have hx := C.1
  have hb := C.2.1
  have hc1 : c0 ≤ room_1.cells := by omega
  have hs1 : s0 ≤ room_1.slots := by omega
  refine lv_aload_n hx hb dL_law_156 rfl (lv_at hl 1 rfl) ?_
  refine lv_aload_n hx hb dL_law_157 rfl (lv_at hl 0 rfl) ?_
  refine lv_iload hx hb dL_law_158 (lv_at hl 4 rfl) ?_
  refine lv_iconst (v := (1 : Int32)) hx hb dL_law_160 (by decide) ?_
  refine lv_iadd hx hb dL_law_161 ?_
  refine r_sld C hw hX hbl hbB h_in1 ha1 dL_law_162 ?_
  refine lv_aload_n hx hb dL_law_163 rfl (lv_at hl 0 rfl) ?_
  refine lv_iload hx hb dL_law_164 (lv_at hl 4 rfl) ?_
  refine lv_iconst (v := (2 : Int32)) hx hb dL_law_166 (by decide) ?_
  refine lv_iadd hx hb dL_law_167 ?_
  refine r_sld C hw hX hbl hbB h_in2 ha2 dL_law_168 ?_
  refine lv_aload_n hx hb dL_law_169 rfl (lv_at hl 0 rfl) ?_
  refine lv_iload hx hb dL_law_170 (lv_at hl 4 rfl) ?_
  refine lv_iconst (v := (3 : Int32)) hx hb dL_law_172 (by decide) ?_
  refine lv_iadd hx hb dL_law_173 ?_
  refine r_sld C hw hX hbl hbB h_in3 ha3 dL_law_174 ?_
  refine lv_aload_n hx hb dL_law_175 rfl (lv_at hl 0 rfl) ?_
  refine lv_iload hx hb dL_law_176 (lv_at hl 4 rfl) ?_
  refine lv_iconst (v := (4 : Int32)) hx hb dL_law_178 (by decide) ?_
  refine lv_iadd hx hb dL_law_179 ?_
  refine r_sld C hw hX hbl hbB h_in4 ha4 dL_law_180 ?_
  refine lv_aload_n hx hb dL_law_181 rfl (lv_at hl 0 rfl) ?_
  refine lv_iload hx hb dL_law_182 (lv_at hl 4 rfl) ?_
  refine lv_iconst (v := (5 : Int32)) hx hb dL_law_184 (by decide) ?_
  refine lv_iadd hx hb dL_law_185 ?_
  refine r_sld C hw hX hbl hbB h_in5 ha5 dL_law_186 ?_
  obtain ⟨S_187, r_187, h_187, hf⟩ := bd_some hf
  refine r_bi hw (r_runV (rest := []) C hw (m_X11_feed l D cA ad base fu h_187) mvX11_feed gw2_144 ⟨rfl, rfl, Nat.le_of_ble_eq_true rfl, Nat.le_of_ble_eq_true rfl⟩ dq_0 ln_0 vc_11 rfl hl.1 rfl (Nat.le_of_ble_eq_true rfl) dL_law_187 hc1 hs1) (fun H locs hw => ?_)
  refine lv_pop hx hb dL_law_190 rfl ?_
  refine lv_aload_n hx hb dL_law_191 rfl (lv_at hl 2 rfl) ?_
  refine lv_aload_n hx hb dL_law_192 rfl (lv_at hl 0 rfl) ?_
  refine lv_iload hx hb dL_law_193 (lv_at hl 4 rfl) ?_
  refine lv_iconst (v := (1 : Int32)) hx hb dL_law_195 (by decide) ?_
  refine lv_iadd hx hb dL_law_196 ?_
  refine r_sld C hw hX hbl hbB h_in1 ha1 dL_law_197 ?_
  refine lv_aload_n hx hb dL_law_198 rfl (lv_at hl 0 rfl) ?_
  refine lv_iload hx hb dL_law_199 (lv_at hl 4 rfl) ?_
  refine lv_iconst (v := (2 : Int32)) hx hb dL_law_201 (by decide) ?_
  refine lv_iadd hx hb dL_law_202 ?_
  refine r_sld C hw hX hbl hbB h_in2 ha2 dL_law_203 ?_
  refine lv_aload_n hx hb dL_law_204 rfl (lv_at hl 0 rfl) ?_
  refine lv_iload hx hb dL_law_205 (lv_at hl 4 rfl) ?_
  refine lv_iconst (v := (3 : Int32)) hx hb dL_law_207 (by decide) ?_
  refine lv_iadd hx hb dL_law_208 ?_
  refine r_sld C hw hX hbl hbB h_in3 ha3 dL_law_209 ?_
  refine lv_aload_n hx hb dL_law_210 rfl (lv_at hl 0 rfl) ?_
  refine lv_iload hx hb dL_law_211 (lv_at hl 4 rfl) ?_
  refine lv_iconst (v := (4 : Int32)) hx hb dL_law_213 (by decide) ?_
  refine lv_iadd hx hb dL_law_214 ?_
  refine r_sld C hw hX hbl hbB h_in4 ha4 dL_law_215 ?_
  refine lv_aload_n hx hb dL_law_216 rfl (lv_at hl 0 rfl) ?_
  refine lv_iload hx hb dL_law_217 (lv_at hl 4 rfl) ?_
  refine lv_iconst (v := (5 : Int32)) hx hb dL_law_219 (by decide) ?_
  refine lv_iadd hx hb dL_law_220 ?_
  refine r_sld C hw hX hbl hbB h_in5 ha5 dL_law_221 ?_
  obtain ⟨S_222, r_222, h_222, hf⟩ := bd_some hf
  refine r_bi hw (r_runV (rest := []) C hw (m_X12_feed l D cA ad base fu h_222) mvX12_feed gw7_162 ⟨rfl, rfl, Nat.le_of_ble_eq_true rfl, Nat.le_of_ble_eq_true rfl⟩ dq_63 ln_63 vc_12 rfl hl.1 rfl (Nat.le_of_ble_eq_true rfl) dL_law_222 hc1 hs1) (fun H locs hw => ?_)
  refine lv_pop hx hb dL_law_225 rfl ?_
  refine lv_goto (tgt := 1043) hx hb dL_law_226 (by decide) ?_
  refine W.widen (k := c0 + 1) (n := s0 + 6) (by omega) (by omega) ?_
  exact kk _ _ _ (by cases hf; exact hw) (lv_sub hl [0, 1, 2, 3, 4] rfl)
noncomputable def fc_1 (fu : Nat) (a1 a2 a3 a4 a5 : Int32) (S : St) : Option (St × Int32) :=
  bd (fX11_end fu a1 S) fun S_236 r_236 =>
  bd (fX12_end fu a1 S_236) fun S_247 r_247 =>
  some (S_247, (1 : Int32))
set_option maxHeartbeats 4000000 in
set_option maxRecDepth 100000 in
theorem lc_1 {p : Program} {l : Launch} {e : Env} {s : State} {m : MethodId} {below : List Frame} {meth : Method} {c : Code} {Q : State → Prop} {D : va_G} {cA : FieldType → ClassId} {ad : Nat → Nat} {base b L0 : Nat} {xs : Nat → Int32} (hlt : l.stackTraces = false) (C : CX D cA base RL cL_law 7 p s m #[Value.ref b] c) (hX : va_X b L0 xs s s.heap) (hbl : b < s.heap.size) (hbB : ¬ aB base b) {x4 a1 a2 a3 a4 a5 : Int32} (h_in1 : vp_in (x4 + 1) L0) (h_in2 : vp_in (x4 + 2) L0) (h_in3 : vp_in (x4 + 3) L0) (h_in4 : vp_in (x4 + 4) L0) (h_in5 : vp_in (x4 + 5) L0) (ha1 : xs (x4 + 1).toNatClampNeg = a1) (ha2 : xs (x4 + 2).toNatClampNeg = a2) (ha3 : xs (x4 + 3).toNatClampNeg = a3) (ha4 : xs (x4 + 4).toNatClampNeg = a4) (ha5 : xs (x4 + 5).toNatClampNeg = a5) {c0 s0 : Nat} (hc0 : c0 + 1 ≤ room_1.cells) (hs0 : s0 + 6 ≤ room_1.slots) {fu : Nat} {S S' : St} (hf : fc_1 fu a1 a2 a3 a4 a5 S = some (S', (1 : Int32)))
    (kk : ∀ (H : Heap) (locs : List Loc) (ls : Array Slot), WS D cA ad base s S' H locs → lv_has ls 7 [(0, .ref b), (1, .ref (ad 0)), (2, .ref (ad 63)), (3, .ref (ad 106)), (4, .int x4)] → W p l e room_1 s m #[Value.ref b] below meth c H locs (c0 + 1) (s0 + 6) Q (F0 m 1043 ls []))
    {H : Heap} {locs : List Loc} {ls : Array Slot} (hw : WS D cA ad base s S H locs) (hl : lv_has ls 7 [(0, .ref b), (1, .ref (ad 0)), (2, .ref (ad 63)), (3, .ref (ad 106)), (4, .int x4)]) : W p l e room_1 s m #[Value.ref b] below meth c H locs c0 s0 Q (F0 m 229 ls []) := by
  have hx := C.1
  have hb := C.2.1
  have hc1 : c0 ≤ room_1.cells := by omega
  have hs1 : s0 ≤ room_1.slots := by omega
  refine lv_aload_n hx hb dL_law_229 rfl (lv_at hl 1 rfl) ?_
  refine lv_aload_n hx hb dL_law_230 rfl (lv_at hl 0 rfl) ?_
  refine lv_iload hx hb dL_law_231 (lv_at hl 4 rfl) ?_
  refine lv_iconst (v := (1 : Int32)) hx hb dL_law_233 (by decide) ?_
  refine lv_iadd hx hb dL_law_234 ?_
  refine r_sld C hw hX hbl hbB h_in1 ha1 dL_law_235 ?_
  obtain ⟨S_236, r_236, h_236, hf⟩ := bd_some hf
  refine r_bi hw (r_runV (rest := []) C hw (m_X11_end l D cA ad base fu h_236) mvX11_end gw2_160 ⟨rfl, rfl, Nat.le_of_ble_eq_true rfl, Nat.le_of_ble_eq_true rfl⟩ dq_0 ln_0 vc_11 rfl hl.1 rfl (Nat.le_of_ble_eq_true rfl) dL_law_236 hc1 hs1) (fun H locs hw => ?_)
  refine lv_pop hx hb dL_law_239 rfl ?_
  refine lv_aload_n hx hb dL_law_240 rfl (lv_at hl 2 rfl) ?_
  refine lv_aload_n hx hb dL_law_241 rfl (lv_at hl 0 rfl) ?_
  refine lv_iload hx hb dL_law_242 (lv_at hl 4 rfl) ?_
  refine lv_iconst (v := (1 : Int32)) hx hb dL_law_244 (by decide) ?_
  refine lv_iadd hx hb dL_law_245 ?_
  refine r_sld C hw hX hbl hbB h_in1 ha1 dL_law_246 ?_
  obtain ⟨S_247, r_247, h_247, hf⟩ := bd_some hf
  refine r_bi hw (r_runV (rest := []) C hw (m_X12_end l D cA ad base fu h_247) mvX12_end gw7_166 ⟨rfl, rfl, Nat.le_of_ble_eq_true rfl, Nat.le_of_ble_eq_true rfl⟩ dq_63 ln_63 vc_12 rfl hl.1 rfl (Nat.le_of_ble_eq_true rfl) dL_law_247 hc1 hs1) (fun H locs hw => ?_)
  refine lv_pop hx hb dL_law_250 rfl ?_
  refine lv_goto (tgt := 1043) hx hb dL_law_251 (by decide) ?_
  refine W.widen (k := c0 + 1) (n := s0 + 6) (by omega) (by omega) ?_
  exact kk _ _ _ (by cases hf; exact hw) (lv_sub hl [0, 1, 2, 3, 4] rfl)
noncomputable def fc_2 (fu : Nat) (a1 a2 a3 a4 a5 : Int32) (S : St) : Option (St × Int32) :=
  bd (fX11_turn fu a1 a2 S) fun S_267 r_267 =>
  bd (fX12_turn fu a1 a2 S_267) fun S_284 r_284 =>
  some (S_284, (1 : Int32))
set_option maxHeartbeats 4000000 in
set_option maxRecDepth 100000 in
theorem lc_2 {p : Program} {l : Launch} {e : Env} {s : State} {m : MethodId} {below : List Frame} {meth : Method} {c : Code} {Q : State → Prop} {D : va_G} {cA : FieldType → ClassId} {ad : Nat → Nat} {base b L0 : Nat} {xs : Nat → Int32} (hlt : l.stackTraces = false) (C : CX D cA base RL cL_law 7 p s m #[Value.ref b] c) (hX : va_X b L0 xs s s.heap) (hbl : b < s.heap.size) (hbB : ¬ aB base b) {x4 a1 a2 a3 a4 a5 : Int32} (h_in1 : vp_in (x4 + 1) L0) (h_in2 : vp_in (x4 + 2) L0) (h_in3 : vp_in (x4 + 3) L0) (h_in4 : vp_in (x4 + 4) L0) (h_in5 : vp_in (x4 + 5) L0) (ha1 : xs (x4 + 1).toNatClampNeg = a1) (ha2 : xs (x4 + 2).toNatClampNeg = a2) (ha3 : xs (x4 + 3).toNatClampNeg = a3) (ha4 : xs (x4 + 4).toNatClampNeg = a4) (ha5 : xs (x4 + 5).toNatClampNeg = a5) {c0 s0 : Nat} (hc0 : c0 + 1 ≤ room_1.cells) (hs0 : s0 + 6 ≤ room_1.slots) {fu : Nat} {S S' : St} (hf : fc_2 fu a1 a2 a3 a4 a5 S = some (S', (1 : Int32)))
    (kk : ∀ (H : Heap) (locs : List Loc) (ls : Array Slot), WS D cA ad base s S' H locs → lv_has ls 7 [(0, .ref b), (1, .ref (ad 0)), (2, .ref (ad 63)), (3, .ref (ad 106)), (4, .int x4)] → W p l e room_1 s m #[Value.ref b] below meth c H locs (c0 + 1) (s0 + 6) Q (F0 m 1043 ls []))
    {H : Heap} {locs : List Loc} {ls : Array Slot} (hw : WS D cA ad base s S H locs) (hl : lv_has ls 7 [(0, .ref b), (1, .ref (ad 0)), (2, .ref (ad 63)), (3, .ref (ad 106)), (4, .int x4)]) : W p l e room_1 s m #[Value.ref b] below meth c H locs c0 s0 Q (F0 m 254 ls []) := by
  have hx := C.1
  have hb := C.2.1
  have hc1 : c0 ≤ room_1.cells := by omega
  have hs1 : s0 ≤ room_1.slots := by omega
  refine lv_aload_n hx hb dL_law_254 rfl (lv_at hl 1 rfl) ?_
  refine lv_aload_n hx hb dL_law_255 rfl (lv_at hl 0 rfl) ?_
  refine lv_iload hx hb dL_law_256 (lv_at hl 4 rfl) ?_
  refine lv_iconst (v := (1 : Int32)) hx hb dL_law_258 (by decide) ?_
  refine lv_iadd hx hb dL_law_259 ?_
  refine r_sld C hw hX hbl hbB h_in1 ha1 dL_law_260 ?_
  refine lv_aload_n hx hb dL_law_261 rfl (lv_at hl 0 rfl) ?_
  refine lv_iload hx hb dL_law_262 (lv_at hl 4 rfl) ?_
  refine lv_iconst (v := (2 : Int32)) hx hb dL_law_264 (by decide) ?_
  refine lv_iadd hx hb dL_law_265 ?_
  refine r_sld C hw hX hbl hbB h_in2 ha2 dL_law_266 ?_
  obtain ⟨S_267, r_267, h_267, hf⟩ := bd_some hf
  refine r_bi hw (r_runV (rest := []) C hw (m_X11_turn l D cA ad base fu h_267) mvX11_turn gw2_168 ⟨rfl, rfl, Nat.le_of_ble_eq_true rfl, Nat.le_of_ble_eq_true rfl⟩ dq_0 ln_0 vc_11 rfl hl.1 rfl (Nat.le_of_ble_eq_true rfl) dL_law_267 hc1 hs1) (fun H locs hw => ?_)
  refine lv_pop hx hb dL_law_270 rfl ?_
  refine lv_aload_n hx hb dL_law_271 rfl (lv_at hl 2 rfl) ?_
  refine lv_aload_n hx hb dL_law_272 rfl (lv_at hl 0 rfl) ?_
  refine lv_iload hx hb dL_law_273 (lv_at hl 4 rfl) ?_
  refine lv_iconst (v := (1 : Int32)) hx hb dL_law_275 (by decide) ?_
  refine lv_iadd hx hb dL_law_276 ?_
  refine r_sld C hw hX hbl hbB h_in1 ha1 dL_law_277 ?_
  refine lv_aload_n hx hb dL_law_278 rfl (lv_at hl 0 rfl) ?_
  refine lv_iload hx hb dL_law_279 (lv_at hl 4 rfl) ?_
  refine lv_iconst (v := (2 : Int32)) hx hb dL_law_281 (by decide) ?_
  refine lv_iadd hx hb dL_law_282 ?_
  refine r_sld C hw hX hbl hbB h_in2 ha2 dL_law_283 ?_
  obtain ⟨S_284, r_284, h_284, hf⟩ := bd_some hf
  refine r_bi hw (r_runV (rest := []) C hw (m_X12_turn l D cA ad base fu h_284) mvX12_turn gw7_170 ⟨rfl, rfl, Nat.le_of_ble_eq_true rfl, Nat.le_of_ble_eq_true rfl⟩ dq_63 ln_63 vc_12 rfl hl.1 rfl (Nat.le_of_ble_eq_true rfl) dL_law_284 hc1 hs1) (fun H locs hw => ?_)
  refine lv_pop hx hb dL_law_287 rfl ?_
  refine lv_goto (tgt := 1043) hx hb dL_law_288 (by decide) ?_
  refine W.widen (k := c0 + 1) (n := s0 + 6) (by omega) (by omega) ?_
  exact kk _ _ _ (by cases hf; exact hw) (lv_sub hl [0, 1, 2, 3, 4] rfl)
noncomputable def fc_3 (fu : Nat) (a1 a2 a3 a4 a5 : Int32) (S : St) : Option (St × Int32) :=
  bd (fL_name fu S) fun S_293 r_293 =>
  bd (fX12_name fu S_293) fun S_299 r_299 =>
  some (S_299, (1 : Int32))
set_option maxHeartbeats 4000000 in
set_option maxRecDepth 100000 in
theorem lc_3 {p : Program} {l : Launch} {e : Env} {s : State} {m : MethodId} {below : List Frame} {meth : Method} {c : Code} {Q : State → Prop} {D : va_G} {cA : FieldType → ClassId} {ad : Nat → Nat} {base b L0 : Nat} {xs : Nat → Int32} (hlt : l.stackTraces = false) (C : CX D cA base RL cL_law 7 p s m #[Value.ref b] c) (hX : va_X b L0 xs s s.heap) (hbl : b < s.heap.size) (hbB : ¬ aB base b) {x4 a1 a2 a3 a4 a5 : Int32} (h_in1 : vp_in (x4 + 1) L0) (h_in2 : vp_in (x4 + 2) L0) (h_in3 : vp_in (x4 + 3) L0) (h_in4 : vp_in (x4 + 4) L0) (h_in5 : vp_in (x4 + 5) L0) (ha1 : xs (x4 + 1).toNatClampNeg = a1) (ha2 : xs (x4 + 2).toNatClampNeg = a2) (ha3 : xs (x4 + 3).toNatClampNeg = a3) (ha4 : xs (x4 + 4).toNatClampNeg = a4) (ha5 : xs (x4 + 5).toNatClampNeg = a5) {c0 s0 : Nat} (hc0 : c0 + 1 ≤ room_1.cells) (hs0 : s0 + 6 ≤ room_1.slots) {fu : Nat} {S S' : St} (hf : fc_3 fu a1 a2 a3 a4 a5 S = some (S', (1 : Int32)))
    (kk : ∀ (H : Heap) (locs : List Loc) (ls : Array Slot), WS D cA ad base s S' H locs → lv_has ls 7 [(0, .ref b), (1, .ref (ad 0)), (2, .ref (ad 63)), (3, .ref (ad 106)), (4, .int x4)] → W p l e room_1 s m #[Value.ref b] below meth c H locs (c0 + 1) (s0 + 6) Q (F0 m 1043 ls []))
    {H : Heap} {locs : List Loc} {ls : Array Slot} (hw : WS D cA ad base s S H locs) (hl : lv_has ls 7 [(0, .ref b), (1, .ref (ad 0)), (2, .ref (ad 63)), (3, .ref (ad 106)), (4, .int x4)]) : W p l e room_1 s m #[Value.ref b] below meth c H locs c0 s0 Q (F0 m 291 ls []) := by
  have hx := C.1
  have hb := C.2.1
  have hc1 : c0 ≤ room_1.cells := by omega
  have hs1 : s0 ≤ room_1.slots := by omega
  refine lv_aload_n hx hb dL_law_291 rfl (lv_at hl 1 rfl) ?_
  refine lv_aload_n hx hb dL_law_292 rfl (lv_at hl 3 rfl) ?_
  obtain ⟨S_293, r_293, h_293, hf⟩ := bd_some hf
  refine r_biW hw (r_runSW (rest := []) C hw (m_L_name l hlt D cA ad base fu h_293) msL_name gw3_103 ⟨rfl, rfl, Nat.le_of_ble_eq_true rfl, Nat.le_of_ble_eq_true rfl⟩ rfl hl.1 rfl (Nat.le_of_ble_eq_true rfl) dL_law_293 hc0 hs0) (fun H locs hw => ?_)
  refine lv_istore (lv' := [(5, .int r_293), (0, .ref b), (1, .ref (ad 0)), (2, .ref (ad 63)), (3, .ref (ad 106)), (4, .int x4)]) hx hb dL_law_296 hl (by decide) rfl (fun ls hl => ?_)
  refine lv_aload_n hx hb dL_law_298 rfl (lv_at hl 3 rfl) ?_
  obtain ⟨S_299, r_299, h_299, hf⟩ := bd_some hf
  refine r_bi hw (r_runV (rest := []) C hw (m_X12_name l D cA ad base fu h_299) mvX12_name gw7_174 ⟨rfl, rfl, Nat.le_of_ble_eq_true rfl, Nat.le_of_ble_eq_true rfl⟩ dq_63 ln_63 vc_12 rfl hl.1 rfl (Nat.le_of_ble_eq_true rfl) dL_law_299 hc0 hs0) (fun H locs hw => ?_)
  refine lv_istore (lv' := [(6, .int r_299), (5, .int r_293), (0, .ref b), (1, .ref (ad 0)), (2, .ref (ad 63)), (3, .ref (ad 106)), (4, .int x4)]) hx hb dL_law_302 hl (by decide) rfl (fun ls hl => ?_)
  refine lv_goto (tgt := 1043) hx hb dL_law_304 (by decide) ?_
  exact kk _ _ _ (by cases hf; exact hw) (lv_sub hl [2, 3, 4, 5, 6] rfl)
noncomputable def fc_4 (fu : Nat) (a1 a2 a3 a4 a5 : Int32) (S : St) : Option (St × Int32) :=
  bd (fL_look fu a1 a2 S) fun S_321 r_321 =>
  bd (fX12_look fu a1 a2 S_321) fun S_339 r_339 =>
  some (S_339, (1 : Int32))
set_option maxHeartbeats 4000000 in
set_option maxRecDepth 100000 in
theorem lc_4 {p : Program} {l : Launch} {e : Env} {s : State} {m : MethodId} {below : List Frame} {meth : Method} {c : Code} {Q : State → Prop} {D : va_G} {cA : FieldType → ClassId} {ad : Nat → Nat} {base b L0 : Nat} {xs : Nat → Int32} (hlt : l.stackTraces = false) (C : CX D cA base RL cL_law 7 p s m #[Value.ref b] c) (hX : va_X b L0 xs s s.heap) (hbl : b < s.heap.size) (hbB : ¬ aB base b) {x4 a1 a2 a3 a4 a5 : Int32} (h_in1 : vp_in (x4 + 1) L0) (h_in2 : vp_in (x4 + 2) L0) (h_in3 : vp_in (x4 + 3) L0) (h_in4 : vp_in (x4 + 4) L0) (h_in5 : vp_in (x4 + 5) L0) (ha1 : xs (x4 + 1).toNatClampNeg = a1) (ha2 : xs (x4 + 2).toNatClampNeg = a2) (ha3 : xs (x4 + 3).toNatClampNeg = a3) (ha4 : xs (x4 + 4).toNatClampNeg = a4) (ha5 : xs (x4 + 5).toNatClampNeg = a5) {c0 s0 : Nat} (hc0 : c0 + 1 ≤ room_1.cells) (hs0 : s0 + 6 ≤ room_1.slots) {fu : Nat} {S S' : St} (hf : fc_4 fu a1 a2 a3 a4 a5 S = some (S', (1 : Int32)))
    (kk : ∀ (H : Heap) (locs : List Loc) (ls : Array Slot), WS D cA ad base s S' H locs → lv_has ls 7 [(0, .ref b), (1, .ref (ad 0)), (2, .ref (ad 63)), (3, .ref (ad 106)), (4, .int x4)] → W p l e room_1 s m #[Value.ref b] below meth c H locs (c0 + 1) (s0 + 6) Q (F0 m 1043 ls []))
    {H : Heap} {locs : List Loc} {ls : Array Slot} (hw : WS D cA ad base s S H locs) (hl : lv_has ls 7 [(0, .ref b), (1, .ref (ad 0)), (2, .ref (ad 63)), (3, .ref (ad 106)), (4, .int x4)]) : W p l e room_1 s m #[Value.ref b] below meth c H locs c0 s0 Q (F0 m 307 ls []) := by
  have hx := C.1
  have hb := C.2.1
  have hc1 : c0 ≤ room_1.cells := by omega
  have hs1 : s0 ≤ room_1.slots := by omega
  refine lv_aload_n hx hb dL_law_307 rfl (lv_at hl 1 rfl) ?_
  refine lv_aload_n hx hb dL_law_308 rfl (lv_at hl 0 rfl) ?_
  refine lv_iload hx hb dL_law_309 (lv_at hl 4 rfl) ?_
  refine lv_iconst (v := (1 : Int32)) hx hb dL_law_311 (by decide) ?_
  refine lv_iadd hx hb dL_law_312 ?_
  refine r_sld C hw hX hbl hbB h_in1 ha1 dL_law_313 ?_
  refine lv_aload_n hx hb dL_law_314 rfl (lv_at hl 0 rfl) ?_
  refine lv_iload hx hb dL_law_315 (lv_at hl 4 rfl) ?_
  refine lv_iconst (v := (2 : Int32)) hx hb dL_law_317 (by decide) ?_
  refine lv_iadd hx hb dL_law_318 ?_
  refine r_sld C hw hX hbl hbB h_in2 ha2 dL_law_319 ?_
  refine lv_aload_n hx hb dL_law_320 rfl (lv_at hl 3 rfl) ?_
  obtain ⟨S_321, r_321, h_321, hf⟩ := bd_some hf
  refine r_biW hw (r_runSW (rest := []) C hw (m_L_look l hlt D cA ad base fu h_321) msL_look gw3_212 ⟨rfl, rfl, Nat.le_of_ble_eq_true rfl, Nat.le_of_ble_eq_true rfl⟩ rfl hl.1 rfl (Nat.le_of_ble_eq_true rfl) dL_law_321 hc0 hs0) (fun H locs hw => ?_)
  refine lv_istore (lv' := [(5, .int r_321), (0, .ref b), (1, .ref (ad 0)), (2, .ref (ad 63)), (3, .ref (ad 106)), (4, .int x4)]) hx hb dL_law_324 hl (by decide) rfl (fun ls hl => ?_)
  refine lv_aload_n hx hb dL_law_326 rfl (lv_at hl 3 rfl) ?_
  refine lv_aload_n hx hb dL_law_327 rfl (lv_at hl 1 rfl) ?_
  refine lv_iload hx hb dL_law_328 (lv_at hl 5 rfl) ?_
  refine lv_iconst (v := (1 : Int32)) hx hb dL_law_330 (by decide) ?_
  refine lv_iadd hx hb dL_law_331 ?_
  refine r_sld C hw hX hbl hbB h_in1 ha1 dL_law_332 ?_
  refine lv_aload_n hx hb dL_law_333 rfl (lv_at hl 1 rfl) ?_
  refine lv_iload hx hb dL_law_334 (lv_at hl 5 rfl) ?_
  refine lv_iconst (v := (2 : Int32)) hx hb dL_law_336 (by decide) ?_
  refine lv_iadd hx hb dL_law_337 ?_
  refine r_sld C hw hX hbl hbB h_in2 ha2 dL_law_338 ?_
  obtain ⟨S_339, r_339, h_339, hf⟩ := bd_some hf
  refine r_bi hw (r_runV (rest := []) C hw (m_X12_look l D cA ad base fu h_339) mvX12_look gw7_209 ⟨rfl, rfl, Nat.le_of_ble_eq_true rfl, Nat.le_of_ble_eq_true rfl⟩ dq_63 ln_63 vc_12 rfl hl.1 rfl (Nat.le_of_ble_eq_true rfl) dL_law_339 hc0 hs0) (fun H locs hw => ?_)
  refine lv_istore (lv' := [(6, .int r_339), (5, .int r_321), (0, .ref b), (1, .ref (ad 0)), (2, .ref (ad 63)), (3, .ref (ad 106)), (4, .int x4)]) hx hb dL_law_342 hl (by decide) rfl (fun ls hl => ?_)
  refine lv_goto (tgt := 1043) hx hb dL_law_344 (by decide) ?_
  exact kk _ _ _ (by cases hf; exact hw) (lv_sub hl [2, 3, 4, 5, 6] rfl)
noncomputable def fc_5 (fu : Nat) (a1 a2 a3 a4 a5 : Int32) (S : St) : Option (St × Int32) :=
  bd (fL_text fu a1 a2 S) fun S_361 r_361 =>
  bd (fX12_text fu a1 a2 S_361) fun S_379 r_379 =>
  some (S_379, (1 : Int32))
set_option maxHeartbeats 4000000 in
set_option maxRecDepth 100000 in
theorem lc_5 {p : Program} {l : Launch} {e : Env} {s : State} {m : MethodId} {below : List Frame} {meth : Method} {c : Code} {Q : State → Prop} {D : va_G} {cA : FieldType → ClassId} {ad : Nat → Nat} {base b L0 : Nat} {xs : Nat → Int32} (hlt : l.stackTraces = false) (C : CX D cA base RL cL_law 7 p s m #[Value.ref b] c) (hX : va_X b L0 xs s s.heap) (hbl : b < s.heap.size) (hbB : ¬ aB base b) {x4 a1 a2 a3 a4 a5 : Int32} (h_in1 : vp_in (x4 + 1) L0) (h_in2 : vp_in (x4 + 2) L0) (h_in3 : vp_in (x4 + 3) L0) (h_in4 : vp_in (x4 + 4) L0) (h_in5 : vp_in (x4 + 5) L0) (ha1 : xs (x4 + 1).toNatClampNeg = a1) (ha2 : xs (x4 + 2).toNatClampNeg = a2) (ha3 : xs (x4 + 3).toNatClampNeg = a3) (ha4 : xs (x4 + 4).toNatClampNeg = a4) (ha5 : xs (x4 + 5).toNatClampNeg = a5) {c0 s0 : Nat} (hc0 : c0 + 1 ≤ room_1.cells) (hs0 : s0 + 6 ≤ room_1.slots) {fu : Nat} {S S' : St} (hf : fc_5 fu a1 a2 a3 a4 a5 S = some (S', (1 : Int32)))
    (kk : ∀ (H : Heap) (locs : List Loc) (ls : Array Slot), WS D cA ad base s S' H locs → lv_has ls 7 [(0, .ref b), (1, .ref (ad 0)), (2, .ref (ad 63)), (3, .ref (ad 106)), (4, .int x4)] → W p l e room_1 s m #[Value.ref b] below meth c H locs (c0 + 1) (s0 + 6) Q (F0 m 1043 ls []))
    {H : Heap} {locs : List Loc} {ls : Array Slot} (hw : WS D cA ad base s S H locs) (hl : lv_has ls 7 [(0, .ref b), (1, .ref (ad 0)), (2, .ref (ad 63)), (3, .ref (ad 106)), (4, .int x4)]) : W p l e room_1 s m #[Value.ref b] below meth c H locs c0 s0 Q (F0 m 347 ls []) := by
  have hx := C.1
  have hb := C.2.1
  have hc1 : c0 ≤ room_1.cells := by omega
  have hs1 : s0 ≤ room_1.slots := by omega
  refine lv_aload_n hx hb dL_law_347 rfl (lv_at hl 1 rfl) ?_
  refine lv_aload_n hx hb dL_law_348 rfl (lv_at hl 0 rfl) ?_
  refine lv_iload hx hb dL_law_349 (lv_at hl 4 rfl) ?_
  refine lv_iconst (v := (1 : Int32)) hx hb dL_law_351 (by decide) ?_
  refine lv_iadd hx hb dL_law_352 ?_
  refine r_sld C hw hX hbl hbB h_in1 ha1 dL_law_353 ?_
  refine lv_aload_n hx hb dL_law_354 rfl (lv_at hl 0 rfl) ?_
  refine lv_iload hx hb dL_law_355 (lv_at hl 4 rfl) ?_
  refine lv_iconst (v := (2 : Int32)) hx hb dL_law_357 (by decide) ?_
  refine lv_iadd hx hb dL_law_358 ?_
  refine r_sld C hw hX hbl hbB h_in2 ha2 dL_law_359 ?_
  refine lv_aload_n hx hb dL_law_360 rfl (lv_at hl 3 rfl) ?_
  obtain ⟨S_361, r_361, h_361, hf⟩ := bd_some hf
  refine r_biW hw (r_runSW (rest := []) C hw (m_L_text l hlt D cA ad base fu h_361) msL_text gw4_38 ⟨rfl, rfl, Nat.le_of_ble_eq_true rfl, Nat.le_of_ble_eq_true rfl⟩ rfl hl.1 rfl (Nat.le_of_ble_eq_true rfl) dL_law_361 hc0 hs0) (fun H locs hw => ?_)
  refine lv_istore (lv' := [(5, .int r_361), (0, .ref b), (1, .ref (ad 0)), (2, .ref (ad 63)), (3, .ref (ad 106)), (4, .int x4)]) hx hb dL_law_364 hl (by decide) rfl (fun ls hl => ?_)
  refine lv_aload_n hx hb dL_law_366 rfl (lv_at hl 3 rfl) ?_
  refine lv_aload_n hx hb dL_law_367 rfl (lv_at hl 1 rfl) ?_
  refine lv_iload hx hb dL_law_368 (lv_at hl 5 rfl) ?_
  refine lv_iconst (v := (1 : Int32)) hx hb dL_law_370 (by decide) ?_
  refine lv_iadd hx hb dL_law_371 ?_
  refine r_sld C hw hX hbl hbB h_in1 ha1 dL_law_372 ?_
  refine lv_aload_n hx hb dL_law_373 rfl (lv_at hl 1 rfl) ?_
  refine lv_iload hx hb dL_law_374 (lv_at hl 5 rfl) ?_
  refine lv_iconst (v := (2 : Int32)) hx hb dL_law_376 (by decide) ?_
  refine lv_iadd hx hb dL_law_377 ?_
  refine r_sld C hw hX hbl hbB h_in2 ha2 dL_law_378 ?_
  obtain ⟨S_379, r_379, h_379, hf⟩ := bd_some hf
  refine r_bi hw (r_runV (rest := []) C hw (m_X12_text l D cA ad base fu h_379) mvX12_text gw7_221 ⟨rfl, rfl, Nat.le_of_ble_eq_true rfl, Nat.le_of_ble_eq_true rfl⟩ dq_63 ln_63 vc_12 rfl hl.1 rfl (Nat.le_of_ble_eq_true rfl) dL_law_379 hc0 hs0) (fun H locs hw => ?_)
  refine lv_istore (lv' := [(6, .int r_379), (5, .int r_361), (0, .ref b), (1, .ref (ad 0)), (2, .ref (ad 63)), (3, .ref (ad 106)), (4, .int x4)]) hx hb dL_law_382 hl (by decide) rfl (fun ls hl => ?_)
  refine lv_goto (tgt := 1043) hx hb dL_law_384 (by decide) ?_
  exact kk _ _ _ (by cases hf; exact hw) (lv_sub hl [2, 3, 4, 5, 6] rfl)
noncomputable def fc_6 (fu : Nat) (a1 a2 a3 a4 a5 : Int32) (S : St) : Option (St × Int32) :=
  bd (fL_zone fu a1 a2 S) fun S_401 r_401 =>
  bd (fX12_zone fu a1 a2 S_401) fun S_419 r_419 =>
  some (S_419, (1 : Int32))
set_option maxHeartbeats 4000000 in
set_option maxRecDepth 100000 in
theorem lc_6 {p : Program} {l : Launch} {e : Env} {s : State} {m : MethodId} {below : List Frame} {meth : Method} {c : Code} {Q : State → Prop} {D : va_G} {cA : FieldType → ClassId} {ad : Nat → Nat} {base b L0 : Nat} {xs : Nat → Int32} (hlt : l.stackTraces = false) (C : CX D cA base RL cL_law 7 p s m #[Value.ref b] c) (hX : va_X b L0 xs s s.heap) (hbl : b < s.heap.size) (hbB : ¬ aB base b) {x4 a1 a2 a3 a4 a5 : Int32} (h_in1 : vp_in (x4 + 1) L0) (h_in2 : vp_in (x4 + 2) L0) (h_in3 : vp_in (x4 + 3) L0) (h_in4 : vp_in (x4 + 4) L0) (h_in5 : vp_in (x4 + 5) L0) (ha1 : xs (x4 + 1).toNatClampNeg = a1) (ha2 : xs (x4 + 2).toNatClampNeg = a2) (ha3 : xs (x4 + 3).toNatClampNeg = a3) (ha4 : xs (x4 + 4).toNatClampNeg = a4) (ha5 : xs (x4 + 5).toNatClampNeg = a5) {c0 s0 : Nat} (hc0 : c0 + 1 ≤ room_1.cells) (hs0 : s0 + 6 ≤ room_1.slots) {fu : Nat} {S S' : St} (hf : fc_6 fu a1 a2 a3 a4 a5 S = some (S', (1 : Int32)))
    (kk : ∀ (H : Heap) (locs : List Loc) (ls : Array Slot), WS D cA ad base s S' H locs → lv_has ls 7 [(0, .ref b), (1, .ref (ad 0)), (2, .ref (ad 63)), (3, .ref (ad 106)), (4, .int x4)] → W p l e room_1 s m #[Value.ref b] below meth c H locs (c0 + 1) (s0 + 6) Q (F0 m 1043 ls []))
    {H : Heap} {locs : List Loc} {ls : Array Slot} (hw : WS D cA ad base s S H locs) (hl : lv_has ls 7 [(0, .ref b), (1, .ref (ad 0)), (2, .ref (ad 63)), (3, .ref (ad 106)), (4, .int x4)]) : W p l e room_1 s m #[Value.ref b] below meth c H locs c0 s0 Q (F0 m 387 ls []) := by
  have hx := C.1
  have hb := C.2.1
  have hc1 : c0 ≤ room_1.cells := by omega
  have hs1 : s0 ≤ room_1.slots := by omega
  refine lv_aload_n hx hb dL_law_387 rfl (lv_at hl 1 rfl) ?_
  refine lv_aload_n hx hb dL_law_388 rfl (lv_at hl 0 rfl) ?_
  refine lv_iload hx hb dL_law_389 (lv_at hl 4 rfl) ?_
  refine lv_iconst (v := (1 : Int32)) hx hb dL_law_391 (by decide) ?_
  refine lv_iadd hx hb dL_law_392 ?_
  refine r_sld C hw hX hbl hbB h_in1 ha1 dL_law_393 ?_
  refine lv_aload_n hx hb dL_law_394 rfl (lv_at hl 0 rfl) ?_
  refine lv_iload hx hb dL_law_395 (lv_at hl 4 rfl) ?_
  refine lv_iconst (v := (2 : Int32)) hx hb dL_law_397 (by decide) ?_
  refine lv_iadd hx hb dL_law_398 ?_
  refine r_sld C hw hX hbl hbB h_in2 ha2 dL_law_399 ?_
  refine lv_aload_n hx hb dL_law_400 rfl (lv_at hl 3 rfl) ?_
  obtain ⟨S_401, r_401, h_401, hf⟩ := bd_some hf
  refine r_biW hw (r_runSW (rest := []) C hw (m_L_zone l hlt D cA ad base fu h_401) msL_zone gw4_54 ⟨rfl, rfl, Nat.le_of_ble_eq_true rfl, Nat.le_of_ble_eq_true rfl⟩ rfl hl.1 rfl (Nat.le_of_ble_eq_true rfl) dL_law_401 hc0 hs0) (fun H locs hw => ?_)
  refine lv_istore (lv' := [(5, .int r_401), (0, .ref b), (1, .ref (ad 0)), (2, .ref (ad 63)), (3, .ref (ad 106)), (4, .int x4)]) hx hb dL_law_404 hl (by decide) rfl (fun ls hl => ?_)
  refine lv_aload_n hx hb dL_law_406 rfl (lv_at hl 3 rfl) ?_
  refine lv_aload_n hx hb dL_law_407 rfl (lv_at hl 1 rfl) ?_
  refine lv_iload hx hb dL_law_408 (lv_at hl 5 rfl) ?_
  refine lv_iconst (v := (1 : Int32)) hx hb dL_law_410 (by decide) ?_
  refine lv_iadd hx hb dL_law_411 ?_
  refine r_sld C hw hX hbl hbB h_in1 ha1 dL_law_412 ?_
  refine lv_aload_n hx hb dL_law_413 rfl (lv_at hl 1 rfl) ?_
  refine lv_iload hx hb dL_law_414 (lv_at hl 5 rfl) ?_
  refine lv_iconst (v := (2 : Int32)) hx hb dL_law_416 (by decide) ?_
  refine lv_iadd hx hb dL_law_417 ?_
  refine r_sld C hw hX hbl hbB h_in2 ha2 dL_law_418 ?_
  obtain ⟨S_419, r_419, h_419, hf⟩ := bd_some hf
  refine r_bi hw (r_runV (rest := []) C hw (m_X12_zone l D cA ad base fu h_419) mvX12_zone gw7_225 ⟨rfl, rfl, Nat.le_of_ble_eq_true rfl, Nat.le_of_ble_eq_true rfl⟩ dq_63 ln_63 vc_12 rfl hl.1 rfl (Nat.le_of_ble_eq_true rfl) dL_law_419 hc0 hs0) (fun H locs hw => ?_)
  refine lv_istore (lv' := [(6, .int r_419), (5, .int r_401), (0, .ref b), (1, .ref (ad 0)), (2, .ref (ad 63)), (3, .ref (ad 106)), (4, .int x4)]) hx hb dL_law_422 hl (by decide) rfl (fun ls hl => ?_)
  refine lv_goto (tgt := 1043) hx hb dL_law_424 (by decide) ?_
  exact kk _ _ _ (by cases hf; exact hw) (lv_sub hl [2, 3, 4, 5, 6] rfl)
noncomputable def fc_7 (fu : Nat) (a1 a2 a3 a4 a5 : Int32) (S : St) : Option (St × Int32) :=
  bd (fL_record fu a1 a2 a3 a4 a5 S) fun S_459 r_459 =>
  bd (fX12_record fu a1 a2 a3 a4 a5 S_459) fun S_495 r_495 =>
  some (S_495, (1 : Int32))
set_option maxHeartbeats 4000000 in
set_option maxRecDepth 100000 in
theorem lc_7 {p : Program} {l : Launch} {e : Env} {s : State} {m : MethodId} {below : List Frame} {meth : Method} {c : Code} {Q : State → Prop} {D : va_G} {cA : FieldType → ClassId} {ad : Nat → Nat} {base b L0 : Nat} {xs : Nat → Int32} (hlt : l.stackTraces = false) (C : CX D cA base RL cL_law 7 p s m #[Value.ref b] c) (hX : va_X b L0 xs s s.heap) (hbl : b < s.heap.size) (hbB : ¬ aB base b) {x4 a1 a2 a3 a4 a5 : Int32} (h_in1 : vp_in (x4 + 1) L0) (h_in2 : vp_in (x4 + 2) L0) (h_in3 : vp_in (x4 + 3) L0) (h_in4 : vp_in (x4 + 4) L0) (h_in5 : vp_in (x4 + 5) L0) (ha1 : xs (x4 + 1).toNatClampNeg = a1) (ha2 : xs (x4 + 2).toNatClampNeg = a2) (ha3 : xs (x4 + 3).toNatClampNeg = a3) (ha4 : xs (x4 + 4).toNatClampNeg = a4) (ha5 : xs (x4 + 5).toNatClampNeg = a5) {c0 s0 : Nat} (hc0 : c0 + 1 ≤ room_1.cells) (hs0 : s0 + 6 ≤ room_1.slots) {fu : Nat} {S S' : St} (hf : fc_7 fu a1 a2 a3 a4 a5 S = some (S', (1 : Int32)))
    (kk : ∀ (H : Heap) (locs : List Loc) (ls : Array Slot), WS D cA ad base s S' H locs → lv_has ls 7 [(0, .ref b), (1, .ref (ad 0)), (2, .ref (ad 63)), (3, .ref (ad 106)), (4, .int x4)] → W p l e room_1 s m #[Value.ref b] below meth c H locs (c0 + 1) (s0 + 6) Q (F0 m 1043 ls []))
    {H : Heap} {locs : List Loc} {ls : Array Slot} (hw : WS D cA ad base s S H locs) (hl : lv_has ls 7 [(0, .ref b), (1, .ref (ad 0)), (2, .ref (ad 63)), (3, .ref (ad 106)), (4, .int x4)]) : W p l e room_1 s m #[Value.ref b] below meth c H locs c0 s0 Q (F0 m 427 ls []) := by
  have hx := C.1
  have hb := C.2.1
  have hc1 : c0 ≤ room_1.cells := by omega
  have hs1 : s0 ≤ room_1.slots := by omega
  refine lv_aload_n hx hb dL_law_427 rfl (lv_at hl 1 rfl) ?_
  refine lv_aload_n hx hb dL_law_428 rfl (lv_at hl 0 rfl) ?_
  refine lv_iload hx hb dL_law_429 (lv_at hl 4 rfl) ?_
  refine lv_iconst (v := (1 : Int32)) hx hb dL_law_431 (by decide) ?_
  refine lv_iadd hx hb dL_law_432 ?_
  refine r_sld C hw hX hbl hbB h_in1 ha1 dL_law_433 ?_
  refine lv_aload_n hx hb dL_law_434 rfl (lv_at hl 0 rfl) ?_
  refine lv_iload hx hb dL_law_435 (lv_at hl 4 rfl) ?_
  refine lv_iconst (v := (2 : Int32)) hx hb dL_law_437 (by decide) ?_
  refine lv_iadd hx hb dL_law_438 ?_
  refine r_sld C hw hX hbl hbB h_in2 ha2 dL_law_439 ?_
  refine lv_aload_n hx hb dL_law_440 rfl (lv_at hl 0 rfl) ?_
  refine lv_iload hx hb dL_law_441 (lv_at hl 4 rfl) ?_
  refine lv_iconst (v := (3 : Int32)) hx hb dL_law_443 (by decide) ?_
  refine lv_iadd hx hb dL_law_444 ?_
  refine r_sld C hw hX hbl hbB h_in3 ha3 dL_law_445 ?_
  refine lv_aload_n hx hb dL_law_446 rfl (lv_at hl 0 rfl) ?_
  refine lv_iload hx hb dL_law_447 (lv_at hl 4 rfl) ?_
  refine lv_iconst (v := (4 : Int32)) hx hb dL_law_449 (by decide) ?_
  refine lv_iadd hx hb dL_law_450 ?_
  refine r_sld C hw hX hbl hbB h_in4 ha4 dL_law_451 ?_
  refine lv_aload_n hx hb dL_law_452 rfl (lv_at hl 0 rfl) ?_
  refine lv_iload hx hb dL_law_453 (lv_at hl 4 rfl) ?_
  refine lv_iconst (v := (5 : Int32)) hx hb dL_law_455 (by decide) ?_
  refine lv_iadd hx hb dL_law_456 ?_
  refine r_sld C hw hX hbl hbB h_in5 ha5 dL_law_457 ?_
  refine lv_aload_n hx hb dL_law_458 rfl (lv_at hl 3 rfl) ?_
  obtain ⟨S_459, r_459, h_459, hf⟩ := bd_some hf
  refine r_biW hw (r_runSW (rest := []) C hw (m_L_record l hlt D cA ad base fu h_459) msL_record gw4_75 ⟨rfl, rfl, Nat.le_of_ble_eq_true rfl, Nat.le_of_ble_eq_true rfl⟩ rfl hl.1 rfl (Nat.le_of_ble_eq_true rfl) dL_law_459 hc0 hs0) (fun H locs hw => ?_)
  refine lv_istore (lv' := [(5, .int r_459), (0, .ref b), (1, .ref (ad 0)), (2, .ref (ad 63)), (3, .ref (ad 106)), (4, .int x4)]) hx hb dL_law_462 hl (by decide) rfl (fun ls hl => ?_)
  refine lv_aload_n hx hb dL_law_464 rfl (lv_at hl 3 rfl) ?_
  refine lv_aload_n hx hb dL_law_465 rfl (lv_at hl 1 rfl) ?_
  refine lv_iload hx hb dL_law_466 (lv_at hl 5 rfl) ?_
  refine lv_iconst (v := (1 : Int32)) hx hb dL_law_468 (by decide) ?_
  refine lv_iadd hx hb dL_law_469 ?_
  refine r_sld C hw hX hbl hbB h_in1 ha1 dL_law_470 ?_
  refine lv_aload_n hx hb dL_law_471 rfl (lv_at hl 1 rfl) ?_
  refine lv_iload hx hb dL_law_472 (lv_at hl 5 rfl) ?_
  refine lv_iconst (v := (2 : Int32)) hx hb dL_law_474 (by decide) ?_
  refine lv_iadd hx hb dL_law_475 ?_
  refine r_sld C hw hX hbl hbB h_in2 ha2 dL_law_476 ?_
  refine lv_aload_n hx hb dL_law_477 rfl (lv_at hl 1 rfl) ?_
  refine lv_iload hx hb dL_law_478 (lv_at hl 5 rfl) ?_
  refine lv_iconst (v := (3 : Int32)) hx hb dL_law_480 (by decide) ?_
  refine lv_iadd hx hb dL_law_481 ?_
  refine r_sld C hw hX hbl hbB h_in3 ha3 dL_law_482 ?_
  refine lv_aload_n hx hb dL_law_483 rfl (lv_at hl 1 rfl) ?_
  refine lv_iload hx hb dL_law_484 (lv_at hl 5 rfl) ?_
  refine lv_iconst (v := (4 : Int32)) hx hb dL_law_486 (by decide) ?_
  refine lv_iadd hx hb dL_law_487 ?_
  refine r_sld C hw hX hbl hbB h_in4 ha4 dL_law_488 ?_
  refine lv_aload_n hx hb dL_law_489 rfl (lv_at hl 1 rfl) ?_
  refine lv_iload hx hb dL_law_490 (lv_at hl 5 rfl) ?_
  refine lv_iconst (v := (5 : Int32)) hx hb dL_law_492 (by decide) ?_
  refine lv_iadd hx hb dL_law_493 ?_
  refine r_sld C hw hX hbl hbB h_in5 ha5 dL_law_494 ?_
  obtain ⟨S_495, r_495, h_495, hf⟩ := bd_some hf
  refine r_bi hw (r_runV (rest := []) C hw (m_X12_record l D cA ad base fu h_495) mvX12_record gw7_233 ⟨rfl, rfl, Nat.le_of_ble_eq_true rfl, Nat.le_of_ble_eq_true rfl⟩ dq_63 ln_63 vc_12 rfl hl.1 rfl (Nat.le_of_ble_eq_true rfl) dL_law_495 hc0 hs0) (fun H locs hw => ?_)
  refine lv_istore (lv' := [(6, .int r_495), (5, .int r_459), (0, .ref b), (1, .ref (ad 0)), (2, .ref (ad 63)), (3, .ref (ad 106)), (4, .int x4)]) hx hb dL_law_498 hl (by decide) rfl (fun ls hl => ?_)
  refine lv_goto (tgt := 1043) hx hb dL_law_500 (by decide) ?_
  exact kk _ _ _ (by cases hf; exact hw) (lv_sub hl [2, 3, 4, 5, 6] rfl)
noncomputable def fc_8 (fu : Nat) (a1 a2 a3 a4 a5 : Int32) (S : St) : Option (St × Int32) :=
  bd (fL_drop fu a1 a2 a3 S) fun S_523 r_523 =>
  bd (fX12_drop fu a1 a2 a3 S_523) fun S_547 r_547 =>
  some (S_547, (1 : Int32))
set_option maxHeartbeats 4000000 in
set_option maxRecDepth 100000 in
theorem lc_8 {p : Program} {l : Launch} {e : Env} {s : State} {m : MethodId} {below : List Frame} {meth : Method} {c : Code} {Q : State → Prop} {D : va_G} {cA : FieldType → ClassId} {ad : Nat → Nat} {base b L0 : Nat} {xs : Nat → Int32} (hlt : l.stackTraces = false) (C : CX D cA base RL cL_law 7 p s m #[Value.ref b] c) (hX : va_X b L0 xs s s.heap) (hbl : b < s.heap.size) (hbB : ¬ aB base b) {x4 a1 a2 a3 a4 a5 : Int32} (h_in1 : vp_in (x4 + 1) L0) (h_in2 : vp_in (x4 + 2) L0) (h_in3 : vp_in (x4 + 3) L0) (h_in4 : vp_in (x4 + 4) L0) (h_in5 : vp_in (x4 + 5) L0) (ha1 : xs (x4 + 1).toNatClampNeg = a1) (ha2 : xs (x4 + 2).toNatClampNeg = a2) (ha3 : xs (x4 + 3).toNatClampNeg = a3) (ha4 : xs (x4 + 4).toNatClampNeg = a4) (ha5 : xs (x4 + 5).toNatClampNeg = a5) {c0 s0 : Nat} (hc0 : c0 + 1 ≤ room_1.cells) (hs0 : s0 + 6 ≤ room_1.slots) {fu : Nat} {S S' : St} (hf : fc_8 fu a1 a2 a3 a4 a5 S = some (S', (1 : Int32)))
    (kk : ∀ (H : Heap) (locs : List Loc) (ls : Array Slot), WS D cA ad base s S' H locs → lv_has ls 7 [(0, .ref b), (1, .ref (ad 0)), (2, .ref (ad 63)), (3, .ref (ad 106)), (4, .int x4)] → W p l e room_1 s m #[Value.ref b] below meth c H locs (c0 + 1) (s0 + 6) Q (F0 m 1043 ls []))
    {H : Heap} {locs : List Loc} {ls : Array Slot} (hw : WS D cA ad base s S H locs) (hl : lv_has ls 7 [(0, .ref b), (1, .ref (ad 0)), (2, .ref (ad 63)), (3, .ref (ad 106)), (4, .int x4)]) : W p l e room_1 s m #[Value.ref b] below meth c H locs c0 s0 Q (F0 m 503 ls []) := by
  have hx := C.1
  have hb := C.2.1
  have hc1 : c0 ≤ room_1.cells := by omega
  have hs1 : s0 ≤ room_1.slots := by omega
  refine lv_aload_n hx hb dL_law_503 rfl (lv_at hl 1 rfl) ?_
  refine lv_aload_n hx hb dL_law_504 rfl (lv_at hl 0 rfl) ?_
  refine lv_iload hx hb dL_law_505 (lv_at hl 4 rfl) ?_
  refine lv_iconst (v := (1 : Int32)) hx hb dL_law_507 (by decide) ?_
  refine lv_iadd hx hb dL_law_508 ?_
  refine r_sld C hw hX hbl hbB h_in1 ha1 dL_law_509 ?_
  refine lv_aload_n hx hb dL_law_510 rfl (lv_at hl 0 rfl) ?_
  refine lv_iload hx hb dL_law_511 (lv_at hl 4 rfl) ?_
  refine lv_iconst (v := (2 : Int32)) hx hb dL_law_513 (by decide) ?_
  refine lv_iadd hx hb dL_law_514 ?_
  refine r_sld C hw hX hbl hbB h_in2 ha2 dL_law_515 ?_
  refine lv_aload_n hx hb dL_law_516 rfl (lv_at hl 0 rfl) ?_
  refine lv_iload hx hb dL_law_517 (lv_at hl 4 rfl) ?_
  refine lv_iconst (v := (3 : Int32)) hx hb dL_law_519 (by decide) ?_
  refine lv_iadd hx hb dL_law_520 ?_
  refine r_sld C hw hX hbl hbB h_in3 ha3 dL_law_521 ?_
  refine lv_aload_n hx hb dL_law_522 rfl (lv_at hl 3 rfl) ?_
  obtain ⟨S_523, r_523, h_523, hf⟩ := bd_some hf
  refine r_biW hw (r_runSW (rest := []) C hw (m_L_drop l hlt D cA ad base fu h_523) msL_drop gw4_113 ⟨rfl, rfl, Nat.le_of_ble_eq_true rfl, Nat.le_of_ble_eq_true rfl⟩ rfl hl.1 rfl (Nat.le_of_ble_eq_true rfl) dL_law_523 hc0 hs0) (fun H locs hw => ?_)
  refine lv_istore (lv' := [(5, .int r_523), (0, .ref b), (1, .ref (ad 0)), (2, .ref (ad 63)), (3, .ref (ad 106)), (4, .int x4)]) hx hb dL_law_526 hl (by decide) rfl (fun ls hl => ?_)
  refine lv_aload_n hx hb dL_law_528 rfl (lv_at hl 3 rfl) ?_
  refine lv_aload_n hx hb dL_law_529 rfl (lv_at hl 1 rfl) ?_
  refine lv_iload hx hb dL_law_530 (lv_at hl 5 rfl) ?_
  refine lv_iconst (v := (1 : Int32)) hx hb dL_law_532 (by decide) ?_
  refine lv_iadd hx hb dL_law_533 ?_
  refine r_sld C hw hX hbl hbB h_in1 ha1 dL_law_534 ?_
  refine lv_aload_n hx hb dL_law_535 rfl (lv_at hl 1 rfl) ?_
  refine lv_iload hx hb dL_law_536 (lv_at hl 5 rfl) ?_
  refine lv_iconst (v := (2 : Int32)) hx hb dL_law_538 (by decide) ?_
  refine lv_iadd hx hb dL_law_539 ?_
  refine r_sld C hw hX hbl hbB h_in2 ha2 dL_law_540 ?_
  refine lv_aload_n hx hb dL_law_541 rfl (lv_at hl 1 rfl) ?_
  refine lv_iload hx hb dL_law_542 (lv_at hl 5 rfl) ?_
  refine lv_iconst (v := (3 : Int32)) hx hb dL_law_544 (by decide) ?_
  refine lv_iadd hx hb dL_law_545 ?_
  refine r_sld C hw hX hbl hbB h_in3 ha3 dL_law_546 ?_
  obtain ⟨S_547, r_547, h_547, hf⟩ := bd_some hf
  refine r_bi hw (r_runV (rest := []) C hw (m_X12_drop l D cA ad base fu h_547) mvX12_drop gw8_12 ⟨rfl, rfl, Nat.le_of_ble_eq_true rfl, Nat.le_of_ble_eq_true rfl⟩ dq_63 ln_63 vc_12 rfl hl.1 rfl (Nat.le_of_ble_eq_true rfl) dL_law_547 hc0 hs0) (fun H locs hw => ?_)
  refine lv_istore (lv' := [(6, .int r_547), (5, .int r_523), (0, .ref b), (1, .ref (ad 0)), (2, .ref (ad 63)), (3, .ref (ad 106)), (4, .int x4)]) hx hb dL_law_550 hl (by decide) rfl (fun ls hl => ?_)
  refine lv_goto (tgt := 1043) hx hb dL_law_552 (by decide) ?_
  exact kk _ _ _ (by cases hf; exact hw) (lv_sub hl [2, 3, 4, 5, 6] rfl)
noncomputable def fc_9 (fu : Nat) (a1 a2 a3 a4 a5 : Int32) (S : St) : Option (St × Int32) :=
  bd (fL_server fu a1 S) fun S_563 r_563 =>
  bd (fX12_server fu a1 S_563) fun S_575 r_575 =>
  some (S_575, (1 : Int32))
set_option maxHeartbeats 4000000 in
set_option maxRecDepth 100000 in
theorem lc_9 {p : Program} {l : Launch} {e : Env} {s : State} {m : MethodId} {below : List Frame} {meth : Method} {c : Code} {Q : State → Prop} {D : va_G} {cA : FieldType → ClassId} {ad : Nat → Nat} {base b L0 : Nat} {xs : Nat → Int32} (hlt : l.stackTraces = false) (C : CX D cA base RL cL_law 7 p s m #[Value.ref b] c) (hX : va_X b L0 xs s s.heap) (hbl : b < s.heap.size) (hbB : ¬ aB base b) {x4 a1 a2 a3 a4 a5 : Int32} (h_in1 : vp_in (x4 + 1) L0) (h_in2 : vp_in (x4 + 2) L0) (h_in3 : vp_in (x4 + 3) L0) (h_in4 : vp_in (x4 + 4) L0) (h_in5 : vp_in (x4 + 5) L0) (ha1 : xs (x4 + 1).toNatClampNeg = a1) (ha2 : xs (x4 + 2).toNatClampNeg = a2) (ha3 : xs (x4 + 3).toNatClampNeg = a3) (ha4 : xs (x4 + 4).toNatClampNeg = a4) (ha5 : xs (x4 + 5).toNatClampNeg = a5) {c0 s0 : Nat} (hc0 : c0 + 1 ≤ room_1.cells) (hs0 : s0 + 6 ≤ room_1.slots) {fu : Nat} {S S' : St} (hf : fc_9 fu a1 a2 a3 a4 a5 S = some (S', (1 : Int32)))
    (kk : ∀ (H : Heap) (locs : List Loc) (ls : Array Slot), WS D cA ad base s S' H locs → lv_has ls 7 [(0, .ref b), (1, .ref (ad 0)), (2, .ref (ad 63)), (3, .ref (ad 106)), (4, .int x4)] → W p l e room_1 s m #[Value.ref b] below meth c H locs (c0 + 1) (s0 + 6) Q (F0 m 1043 ls []))
    {H : Heap} {locs : List Loc} {ls : Array Slot} (hw : WS D cA ad base s S H locs) (hl : lv_has ls 7 [(0, .ref b), (1, .ref (ad 0)), (2, .ref (ad 63)), (3, .ref (ad 106)), (4, .int x4)]) : W p l e room_1 s m #[Value.ref b] below meth c H locs c0 s0 Q (F0 m 555 ls []) := by
  have hx := C.1
  have hb := C.2.1
  have hc1 : c0 ≤ room_1.cells := by omega
  have hs1 : s0 ≤ room_1.slots := by omega
  refine lv_aload_n hx hb dL_law_555 rfl (lv_at hl 1 rfl) ?_
  refine lv_aload_n hx hb dL_law_556 rfl (lv_at hl 0 rfl) ?_
  refine lv_iload hx hb dL_law_557 (lv_at hl 4 rfl) ?_
  refine lv_iconst (v := (1 : Int32)) hx hb dL_law_559 (by decide) ?_
  refine lv_iadd hx hb dL_law_560 ?_
  refine r_sld C hw hX hbl hbB h_in1 ha1 dL_law_561 ?_
  refine lv_aload_n hx hb dL_law_562 rfl (lv_at hl 3 rfl) ?_
  obtain ⟨S_563, r_563, h_563, hf⟩ := bd_some hf
  refine r_biW hw (r_runSW (rest := []) C hw (m_L_server l hlt D cA ad base fu h_563) msL_server gw4_128 ⟨rfl, rfl, Nat.le_of_ble_eq_true rfl, Nat.le_of_ble_eq_true rfl⟩ rfl hl.1 rfl (Nat.le_of_ble_eq_true rfl) dL_law_563 hc0 hs0) (fun H locs hw => ?_)
  refine lv_istore (lv' := [(5, .int r_563), (0, .ref b), (1, .ref (ad 0)), (2, .ref (ad 63)), (3, .ref (ad 106)), (4, .int x4)]) hx hb dL_law_566 hl (by decide) rfl (fun ls hl => ?_)
  refine lv_aload_n hx hb dL_law_568 rfl (lv_at hl 3 rfl) ?_
  refine lv_aload_n hx hb dL_law_569 rfl (lv_at hl 1 rfl) ?_
  refine lv_iload hx hb dL_law_570 (lv_at hl 5 rfl) ?_
  refine lv_iconst (v := (1 : Int32)) hx hb dL_law_572 (by decide) ?_
  refine lv_iadd hx hb dL_law_573 ?_
  refine r_sld C hw hX hbl hbB h_in1 ha1 dL_law_574 ?_
  obtain ⟨S_575, r_575, h_575, hf⟩ := bd_some hf
  refine r_bi hw (r_runV (rest := []) C hw (m_X12_server l D cA ad base fu h_575) mvX12_server gw8_16 ⟨rfl, rfl, Nat.le_of_ble_eq_true rfl, Nat.le_of_ble_eq_true rfl⟩ dq_63 ln_63 vc_12 rfl hl.1 rfl (Nat.le_of_ble_eq_true rfl) dL_law_575 hc0 hs0) (fun H locs hw => ?_)
  refine lv_istore (lv' := [(6, .int r_575), (5, .int r_563), (0, .ref b), (1, .ref (ad 0)), (2, .ref (ad 63)), (3, .ref (ad 106)), (4, .int x4)]) hx hb dL_law_578 hl (by decide) rfl (fun ls hl => ?_)
  refine lv_goto (tgt := 1043) hx hb dL_law_580 (by decide) ?_
  exact kk _ _ _ (by cases hf; exact hw) (lv_sub hl [2, 3, 4, 5, 6] rfl)
noncomputable def fc_10_643 (fu : Nat) (a1 a2 a3 a4 a5 : Int32) (t0 : Int32) (t1 : Int32) (t2 : Int32) (S : St) : Option (St × Int32) :=
  bd (fX12_serve fu t2 t1 t0 S) fun S_643 r_643 =>
  some (S_643, (1 : Int32))
noncomputable def fc_10_610 (fu : Nat) (a1 a2 a3 a4 a5 : Int32) (t0 : Int32) (t1 : Int32) (t2 : Int32) (S : St) : Option (St × Int32) :=
  bd (fL_serve fu t2 t1 t0 S) fun S_611 r_611 =>
  if a3 = 0 then
    fc_10_643 fu a1 a2 a3 a4 a5 (0 : Int32) a2 a1 S_611
  else
    fc_10_643 fu a1 a2 a3 a4 a5 (1 : Int32) a2 a1 S_611
noncomputable def fc_10 (fu : Nat) (a1 a2 a3 a4 a5 : Int32) (S : St) : Option (St × Int32) :=
  if a3 = 0 then
    fc_10_610 fu a1 a2 a3 a4 a5 (0 : Int32) a2 a1 S
  else
    fc_10_610 fu a1 a2 a3 a4 a5 (1 : Int32) a2 a1 S
set_option maxHeartbeats 4000000 in
set_option maxRecDepth 100000 in
theorem lc_10 {p : Program} {l : Launch} {e : Env} {s : State} {m : MethodId} {below : List Frame} {meth : Method} {c : Code} {Q : State → Prop} {D : va_G} {cA : FieldType → ClassId} {ad : Nat → Nat} {base b L0 : Nat} {xs : Nat → Int32} (hlt : l.stackTraces = false) (C : CX D cA base RL cL_law 7 p s m #[Value.ref b] c) (hX : va_X b L0 xs s s.heap) (hbl : b < s.heap.size) (hbB : ¬ aB base b) {x4 a1 a2 a3 a4 a5 : Int32} (h_in1 : vp_in (x4 + 1) L0) (h_in2 : vp_in (x4 + 2) L0) (h_in3 : vp_in (x4 + 3) L0) (h_in4 : vp_in (x4 + 4) L0) (h_in5 : vp_in (x4 + 5) L0) (ha1 : xs (x4 + 1).toNatClampNeg = a1) (ha2 : xs (x4 + 2).toNatClampNeg = a2) (ha3 : xs (x4 + 3).toNatClampNeg = a3) (ha4 : xs (x4 + 4).toNatClampNeg = a4) (ha5 : xs (x4 + 5).toNatClampNeg = a5) {c0 s0 : Nat} (hc0 : c0 + 1 ≤ room_1.cells) (hs0 : s0 + 6 ≤ room_1.slots) {fu : Nat} {S S' : St} (hf : fc_10 fu a1 a2 a3 a4 a5 S = some (S', (1 : Int32)))
    (kk : ∀ (H : Heap) (locs : List Loc) (ls : Array Slot), WS D cA ad base s S' H locs → lv_has ls 7 [(0, .ref b), (1, .ref (ad 0)), (2, .ref (ad 63)), (3, .ref (ad 106)), (4, .int x4)] → W p l e room_1 s m #[Value.ref b] below meth c H locs (c0 + 1) (s0 + 6) Q (F0 m 1043 ls []))
    {H : Heap} {locs : List Loc} {ls : Array Slot} (hw : WS D cA ad base s S H locs) (hl : lv_has ls 7 [(0, .ref b), (1, .ref (ad 0)), (2, .ref (ad 63)), (3, .ref (ad 106)), (4, .int x4)]) : W p l e room_1 s m #[Value.ref b] below meth c H locs c0 s0 Q (F0 m 583 ls []) := by
  have hx := C.1
  have hb := C.2.1
  have hc1 : c0 ≤ room_1.cells := by omega
  have hs1 : s0 ≤ room_1.slots := by omega
  have J_643 : ∀ (t0 : Int32) (t1 : Int32) (t2 : Int32) (S : St) (H : Heap) (locs : List Loc) (ls : Array Slot), fc_10_643 fu a1 a2 a3 a4 a5 t0 t1 t2 S = some (S', (1 : Int32)) → lv_has ls 7 [(0, .ref b), (1, .ref (ad 0)), (2, .ref (ad 63)), (3, .ref (ad 106)), (4, .int x4)] → WS D cA ad base s S H locs → W p l e room_1 s m #[Value.ref b] below meth c H locs (c0 + 1) (s0 + 6) Q (F0 m 643 ls [.int t0, .int t1, .int t2, .ref (ad 63)]) := by
    intro t0 t1 t2 S H locs ls hf hl hw
    obtain ⟨S_643, r_643, h_643, hf⟩ := bd_some hf
    refine r_bi hw (r_runV (rest := []) C hw (m_X12_serve l D cA ad base fu h_643) mvX12_serve gw8_24 ⟨rfl, rfl, Nat.le_of_ble_eq_true rfl, Nat.le_of_ble_eq_true rfl⟩ dq_63 ln_63 vc_12 rfl hl.1 rfl (Nat.le_of_ble_eq_true rfl) dL_law_643 hc0 hs0) (fun H locs hw => ?_)
    refine lv_istore (lv' := [(6, .int r_643), (0, .ref b), (1, .ref (ad 0)), (2, .ref (ad 63)), (3, .ref (ad 106)), (4, .int x4)]) hx hb dL_law_646 hl (by decide) rfl (fun ls hl => ?_)
    refine lv_goto (tgt := 1043) hx hb dL_law_648 (by decide) ?_
    exact kk _ _ _ (by cases hf; exact hw) (lv_sub hl [1, 2, 3, 4, 5] rfl)
  have J_610 : ∀ (t0 : Int32) (t1 : Int32) (t2 : Int32) (S : St) (H : Heap) (locs : List Loc) (ls : Array Slot), fc_10_610 fu a1 a2 a3 a4 a5 t0 t1 t2 S = some (S', (1 : Int32)) → lv_has ls 7 [(0, .ref b), (1, .ref (ad 0)), (2, .ref (ad 63)), (3, .ref (ad 106)), (4, .int x4)] → WS D cA ad base s S H locs → W p l e room_1 s m #[Value.ref b] below meth c H locs c0 s0 Q (F0 m 610 ls [.int t0, .int t1, .int t2, .ref (ad 0)]) := by
    intro t0 t1 t2 S H locs ls hf hl hw
    refine lv_aload_n hx hb dL_law_610 rfl (lv_at hl 3 rfl) ?_
    obtain ⟨S_611, r_611, h_611, hf⟩ := bd_some hf
    refine r_biW hw (r_runSW (rest := []) C hw (m_L_serve l hlt D cA ad base fu h_611) msL_serve gw4_145 ⟨rfl, rfl, Nat.le_of_ble_eq_true rfl, Nat.le_of_ble_eq_true rfl⟩ rfl hl.1 rfl (Nat.le_of_ble_eq_true rfl) dL_law_611 hc0 hs0) (fun H locs hw => ?_)
    refine lv_istore (lv' := [(5, .int r_611), (0, .ref b), (1, .ref (ad 0)), (2, .ref (ad 63)), (3, .ref (ad 106)), (4, .int x4)]) hx hb dL_law_614 hl (by decide) rfl (fun ls hl => ?_)
    refine lv_aload_n hx hb dL_law_616 rfl (lv_at hl 3 rfl) ?_
    refine lv_aload_n hx hb dL_law_617 rfl (lv_at hl 1 rfl) ?_
    refine lv_iload hx hb dL_law_618 (lv_at hl 5 rfl) ?_
    refine lv_iconst (v := (1 : Int32)) hx hb dL_law_620 (by decide) ?_
    refine lv_iadd hx hb dL_law_621 ?_
    refine r_sld C hw hX hbl hbB h_in1 ha1 dL_law_622 ?_
    refine lv_aload_n hx hb dL_law_623 rfl (lv_at hl 1 rfl) ?_
    refine lv_iload hx hb dL_law_624 (lv_at hl 5 rfl) ?_
    refine lv_iconst (v := (2 : Int32)) hx hb dL_law_626 (by decide) ?_
    refine lv_iadd hx hb dL_law_627 ?_
    refine r_sld C hw hX hbl hbB h_in2 ha2 dL_law_628 ?_
    refine lv_aload_n hx hb dL_law_629 rfl (lv_at hl 1 rfl) ?_
    refine lv_iload hx hb dL_law_630 (lv_at hl 5 rfl) ?_
    refine lv_iconst (v := (3 : Int32)) hx hb dL_law_632 (by decide) ?_
    refine lv_iadd hx hb dL_law_633 ?_
    refine r_sld C hw hX hbl hbB h_in3 ha3 dL_law_634 ?_
    refine lv_if_eq (tgt := 642) hx hb dL_law_635 (by decide) (fun c_635 => ?_) (fun c_635 => ?_)
    · have hf := if_t hf c_635
      refine lv_iconst (v := (0 : Int32)) hx hb dL_law_642 (by decide) ?_
      exact J_643 _ _ _ _ _ _ _ hf (lv_sub hl [1, 2, 3, 4, 5] rfl) hw
    · have hf := if_f hf c_635
      refine lv_iconst (v := (1 : Int32)) hx hb dL_law_638 (by decide) ?_
      refine lv_goto (tgt := 643) hx hb dL_law_639 (by decide) ?_
      exact J_643 _ _ _ _ _ _ _ hf (lv_sub hl [1, 2, 3, 4, 5] rfl) hw
  refine lv_aload_n hx hb dL_law_583 rfl (lv_at hl 1 rfl) ?_
  refine lv_aload_n hx hb dL_law_584 rfl (lv_at hl 0 rfl) ?_
  refine lv_iload hx hb dL_law_585 (lv_at hl 4 rfl) ?_
  refine lv_iconst (v := (1 : Int32)) hx hb dL_law_587 (by decide) ?_
  refine lv_iadd hx hb dL_law_588 ?_
  refine r_sld C hw hX hbl hbB h_in1 ha1 dL_law_589 ?_
  refine lv_aload_n hx hb dL_law_590 rfl (lv_at hl 0 rfl) ?_
  refine lv_iload hx hb dL_law_591 (lv_at hl 4 rfl) ?_
  refine lv_iconst (v := (2 : Int32)) hx hb dL_law_593 (by decide) ?_
  refine lv_iadd hx hb dL_law_594 ?_
  refine r_sld C hw hX hbl hbB h_in2 ha2 dL_law_595 ?_
  refine lv_aload_n hx hb dL_law_596 rfl (lv_at hl 0 rfl) ?_
  refine lv_iload hx hb dL_law_597 (lv_at hl 4 rfl) ?_
  refine lv_iconst (v := (3 : Int32)) hx hb dL_law_599 (by decide) ?_
  refine lv_iadd hx hb dL_law_600 ?_
  refine r_sld C hw hX hbl hbB h_in3 ha3 dL_law_601 ?_
  refine lv_if_eq (tgt := 609) hx hb dL_law_602 (by decide) (fun c_602 => ?_) (fun c_602 => ?_)
  · have hf := if_t hf c_602
    refine lv_iconst (v := (0 : Int32)) hx hb dL_law_609 (by decide) ?_
    exact J_610 _ _ _ _ _ _ _ hf (lv_sub hl [0, 1, 2, 3, 4] rfl) hw
  · have hf := if_f hf c_602
    refine lv_iconst (v := (1 : Int32)) hx hb dL_law_605 (by decide) ?_
    refine lv_goto (tgt := 610) hx hb dL_law_606 (by decide) ?_
    exact J_610 _ _ _ _ _ _ _ hf (lv_sub hl [0, 1, 2, 3, 4] rfl) hw
noncomputable def fc_11 (fu : Nat) (a1 a2 a3 a4 a5 : Int32) (S : St) : Option (St × Int32) :=
  bd (fL_say fu a1 a2 a3 S) fun S_671 r_671 =>
  bd (fX12_say fu a1 a2 a3 S_671) fun S_695 r_695 =>
  some (S_695, (1 : Int32))
set_option maxHeartbeats 4000000 in
set_option maxRecDepth 100000 in
theorem lc_11 {p : Program} {l : Launch} {e : Env} {s : State} {m : MethodId} {below : List Frame} {meth : Method} {c : Code} {Q : State → Prop} {D : va_G} {cA : FieldType → ClassId} {ad : Nat → Nat} {base b L0 : Nat} {xs : Nat → Int32} (hlt : l.stackTraces = false) (C : CX D cA base RL cL_law 7 p s m #[Value.ref b] c) (hX : va_X b L0 xs s s.heap) (hbl : b < s.heap.size) (hbB : ¬ aB base b) {x4 a1 a2 a3 a4 a5 : Int32} (h_in1 : vp_in (x4 + 1) L0) (h_in2 : vp_in (x4 + 2) L0) (h_in3 : vp_in (x4 + 3) L0) (h_in4 : vp_in (x4 + 4) L0) (h_in5 : vp_in (x4 + 5) L0) (ha1 : xs (x4 + 1).toNatClampNeg = a1) (ha2 : xs (x4 + 2).toNatClampNeg = a2) (ha3 : xs (x4 + 3).toNatClampNeg = a3) (ha4 : xs (x4 + 4).toNatClampNeg = a4) (ha5 : xs (x4 + 5).toNatClampNeg = a5) {c0 s0 : Nat} (hc0 : c0 + 1 ≤ room_1.cells) (hs0 : s0 + 6 ≤ room_1.slots) {fu : Nat} {S S' : St} (hf : fc_11 fu a1 a2 a3 a4 a5 S = some (S', (1 : Int32)))
    (kk : ∀ (H : Heap) (locs : List Loc) (ls : Array Slot), WS D cA ad base s S' H locs → lv_has ls 7 [(0, .ref b), (1, .ref (ad 0)), (2, .ref (ad 63)), (3, .ref (ad 106)), (4, .int x4)] → W p l e room_1 s m #[Value.ref b] below meth c H locs (c0 + 1) (s0 + 6) Q (F0 m 1043 ls []))
    {H : Heap} {locs : List Loc} {ls : Array Slot} (hw : WS D cA ad base s S H locs) (hl : lv_has ls 7 [(0, .ref b), (1, .ref (ad 0)), (2, .ref (ad 63)), (3, .ref (ad 106)), (4, .int x4)]) : W p l e room_1 s m #[Value.ref b] below meth c H locs c0 s0 Q (F0 m 651 ls []) := by
  have hx := C.1
  have hb := C.2.1
  have hc1 : c0 ≤ room_1.cells := by omega
  have hs1 : s0 ≤ room_1.slots := by omega
  refine lv_aload_n hx hb dL_law_651 rfl (lv_at hl 1 rfl) ?_
  refine lv_aload_n hx hb dL_law_652 rfl (lv_at hl 0 rfl) ?_
  refine lv_iload hx hb dL_law_653 (lv_at hl 4 rfl) ?_
  refine lv_iconst (v := (1 : Int32)) hx hb dL_law_655 (by decide) ?_
  refine lv_iadd hx hb dL_law_656 ?_
  refine r_sld C hw hX hbl hbB h_in1 ha1 dL_law_657 ?_
  refine lv_aload_n hx hb dL_law_658 rfl (lv_at hl 0 rfl) ?_
  refine lv_iload hx hb dL_law_659 (lv_at hl 4 rfl) ?_
  refine lv_iconst (v := (2 : Int32)) hx hb dL_law_661 (by decide) ?_
  refine lv_iadd hx hb dL_law_662 ?_
  refine r_sld C hw hX hbl hbB h_in2 ha2 dL_law_663 ?_
  refine lv_aload_n hx hb dL_law_664 rfl (lv_at hl 0 rfl) ?_
  refine lv_iload hx hb dL_law_665 (lv_at hl 4 rfl) ?_
  refine lv_iconst (v := (3 : Int32)) hx hb dL_law_667 (by decide) ?_
  refine lv_iadd hx hb dL_law_668 ?_
  refine r_sld C hw hX hbl hbB h_in3 ha3 dL_law_669 ?_
  refine lv_aload_n hx hb dL_law_670 rfl (lv_at hl 3 rfl) ?_
  obtain ⟨S_671, r_671, h_671, hf⟩ := bd_some hf
  refine r_biW hw (r_runSW (rest := []) C hw (m_L_say l hlt D cA ad base fu h_671) msL_say gw4_170 ⟨rfl, rfl, Nat.le_of_ble_eq_true rfl, Nat.le_of_ble_eq_true rfl⟩ rfl hl.1 rfl (Nat.le_of_ble_eq_true rfl) dL_law_671 hc0 hs0) (fun H locs hw => ?_)
  refine lv_istore (lv' := [(5, .int r_671), (0, .ref b), (1, .ref (ad 0)), (2, .ref (ad 63)), (3, .ref (ad 106)), (4, .int x4)]) hx hb dL_law_674 hl (by decide) rfl (fun ls hl => ?_)
  refine lv_aload_n hx hb dL_law_676 rfl (lv_at hl 3 rfl) ?_
  refine lv_aload_n hx hb dL_law_677 rfl (lv_at hl 1 rfl) ?_
  refine lv_iload hx hb dL_law_678 (lv_at hl 5 rfl) ?_
  refine lv_iconst (v := (1 : Int32)) hx hb dL_law_680 (by decide) ?_
  refine lv_iadd hx hb dL_law_681 ?_
  refine r_sld C hw hX hbl hbB h_in1 ha1 dL_law_682 ?_
  refine lv_aload_n hx hb dL_law_683 rfl (lv_at hl 1 rfl) ?_
  refine lv_iload hx hb dL_law_684 (lv_at hl 5 rfl) ?_
  refine lv_iconst (v := (2 : Int32)) hx hb dL_law_686 (by decide) ?_
  refine lv_iadd hx hb dL_law_687 ?_
  refine r_sld C hw hX hbl hbB h_in2 ha2 dL_law_688 ?_
  refine lv_aload_n hx hb dL_law_689 rfl (lv_at hl 1 rfl) ?_
  refine lv_iload hx hb dL_law_690 (lv_at hl 5 rfl) ?_
  refine lv_iconst (v := (3 : Int32)) hx hb dL_law_692 (by decide) ?_
  refine lv_iadd hx hb dL_law_693 ?_
  refine r_sld C hw hX hbl hbB h_in3 ha3 dL_law_694 ?_
  obtain ⟨S_695, r_695, h_695, hf⟩ := bd_some hf
  refine r_bi hw (r_runV (rest := []) C hw (m_X12_say l D cA ad base fu h_695) mvX12_say gw8_36 ⟨rfl, rfl, Nat.le_of_ble_eq_true rfl, Nat.le_of_ble_eq_true rfl⟩ dq_63 ln_63 vc_12 rfl hl.1 rfl (Nat.le_of_ble_eq_true rfl) dL_law_695 hc0 hs0) (fun H locs hw => ?_)
  refine lv_istore (lv' := [(6, .int r_695), (5, .int r_671), (0, .ref b), (1, .ref (ad 0)), (2, .ref (ad 63)), (3, .ref (ad 106)), (4, .int x4)]) hx hb dL_law_698 hl (by decide) rfl (fun ls hl => ?_)
  refine lv_goto (tgt := 1043) hx hb dL_law_700 (by decide) ?_
  exact kk _ _ _ (by cases hf; exact hw) (lv_sub hl [2, 3, 4, 5, 6] rfl)
noncomputable def fc_12 (fu : Nat) (a1 a2 a3 a4 a5 : Int32) (S : St) : Option (St × Int32) :=
  bd (fX11_parse fu S) fun S_704 r_704 =>
  bd (fX12_parse fu S_704) fun S_709 r_709 =>
  some (S_709, (1 : Int32))
set_option maxHeartbeats 4000000 in
set_option maxRecDepth 100000 in
theorem lc_12 {p : Program} {l : Launch} {e : Env} {s : State} {m : MethodId} {below : List Frame} {meth : Method} {c : Code} {Q : State → Prop} {D : va_G} {cA : FieldType → ClassId} {ad : Nat → Nat} {base b L0 : Nat} {xs : Nat → Int32} (hlt : l.stackTraces = false) (C : CX D cA base RL cL_law 7 p s m #[Value.ref b] c) (hX : va_X b L0 xs s s.heap) (hbl : b < s.heap.size) (hbB : ¬ aB base b) {x4 a1 a2 a3 a4 a5 : Int32} (h_in1 : vp_in (x4 + 1) L0) (h_in2 : vp_in (x4 + 2) L0) (h_in3 : vp_in (x4 + 3) L0) (h_in4 : vp_in (x4 + 4) L0) (h_in5 : vp_in (x4 + 5) L0) (ha1 : xs (x4 + 1).toNatClampNeg = a1) (ha2 : xs (x4 + 2).toNatClampNeg = a2) (ha3 : xs (x4 + 3).toNatClampNeg = a3) (ha4 : xs (x4 + 4).toNatClampNeg = a4) (ha5 : xs (x4 + 5).toNatClampNeg = a5) {c0 s0 : Nat} (hc0 : c0 + 1 ≤ room_1.cells) (hs0 : s0 + 6 ≤ room_1.slots) {fu : Nat} {S S' : St} (hf : fc_12 fu a1 a2 a3 a4 a5 S = some (S', (1 : Int32)))
    (kk : ∀ (H : Heap) (locs : List Loc) (ls : Array Slot), WS D cA ad base s S' H locs → lv_has ls 7 [(0, .ref b), (1, .ref (ad 0)), (2, .ref (ad 63)), (3, .ref (ad 106)), (4, .int x4)] → W p l e room_1 s m #[Value.ref b] below meth c H locs (c0 + 1) (s0 + 6) Q (F0 m 1043 ls []))
    {H : Heap} {locs : List Loc} {ls : Array Slot} (hw : WS D cA ad base s S H locs) (hl : lv_has ls 7 [(0, .ref b), (1, .ref (ad 0)), (2, .ref (ad 63)), (3, .ref (ad 106)), (4, .int x4)]) : W p l e room_1 s m #[Value.ref b] below meth c H locs c0 s0 Q (F0 m 703 ls []) := by
  have hx := C.1
  have hb := C.2.1
  have hc1 : c0 ≤ room_1.cells := by omega
  have hs1 : s0 ≤ room_1.slots := by omega
  refine lv_aload_n hx hb dL_law_703 rfl (lv_at hl 1 rfl) ?_
  obtain ⟨S_704, r_704, h_704, hf⟩ := bd_some hf
  refine r_bi hw (r_runV (rest := []) C hw (m_X11_parse l D cA ad base fu h_704) mvX11_parse gw2_176 ⟨rfl, rfl, Nat.le_of_ble_eq_true rfl, Nat.le_of_ble_eq_true rfl⟩ dq_0 ln_0 vc_11 rfl hl.1 rfl (Nat.le_of_ble_eq_true rfl) dL_law_704 hc1 hs1) (fun H locs hw => ?_)
  refine lv_pop hx hb dL_law_707 rfl ?_
  refine lv_aload_n hx hb dL_law_708 rfl (lv_at hl 2 rfl) ?_
  obtain ⟨S_709, r_709, h_709, hf⟩ := bd_some hf
  refine r_bi hw (r_runV (rest := []) C hw (m_X12_parse l D cA ad base fu h_709) mvX12_parse gw8_106 ⟨rfl, rfl, Nat.le_of_ble_eq_true rfl, Nat.le_of_ble_eq_true rfl⟩ dq_63 ln_63 vc_12 rfl hl.1 rfl (Nat.le_of_ble_eq_true rfl) dL_law_709 hc1 hs1) (fun H locs hw => ?_)
  refine lv_pop hx hb dL_law_712 rfl ?_
  refine lv_goto (tgt := 1043) hx hb dL_law_713 (by decide) ?_
  refine W.widen (k := c0 + 1) (n := s0 + 6) (by omega) (by omega) ?_
  exact kk _ _ _ (by cases hf; exact hw) (lv_sub hl [0, 1, 2, 3, 4] rfl)
noncomputable def fc_13 (fu : Nat) (a1 a2 a3 a4 a5 : Int32) (S : St) : Option (St × Int32) :=
  bd (fL_parsed fu a1 a2 S) fun S_730 r_730 =>
  bd (fX12_parsed fu a1 a2 S_730) fun S_748 r_748 =>
  some (S_748, (1 : Int32))
set_option maxHeartbeats 4000000 in
set_option maxRecDepth 100000 in
theorem lc_13 {p : Program} {l : Launch} {e : Env} {s : State} {m : MethodId} {below : List Frame} {meth : Method} {c : Code} {Q : State → Prop} {D : va_G} {cA : FieldType → ClassId} {ad : Nat → Nat} {base b L0 : Nat} {xs : Nat → Int32} (hlt : l.stackTraces = false) (C : CX D cA base RL cL_law 7 p s m #[Value.ref b] c) (hX : va_X b L0 xs s s.heap) (hbl : b < s.heap.size) (hbB : ¬ aB base b) {x4 a1 a2 a3 a4 a5 : Int32} (h_in1 : vp_in (x4 + 1) L0) (h_in2 : vp_in (x4 + 2) L0) (h_in3 : vp_in (x4 + 3) L0) (h_in4 : vp_in (x4 + 4) L0) (h_in5 : vp_in (x4 + 5) L0) (ha1 : xs (x4 + 1).toNatClampNeg = a1) (ha2 : xs (x4 + 2).toNatClampNeg = a2) (ha3 : xs (x4 + 3).toNatClampNeg = a3) (ha4 : xs (x4 + 4).toNatClampNeg = a4) (ha5 : xs (x4 + 5).toNatClampNeg = a5) {c0 s0 : Nat} (hc0 : c0 + 1 ≤ room_1.cells) (hs0 : s0 + 6 ≤ room_1.slots) {fu : Nat} {S S' : St} (hf : fc_13 fu a1 a2 a3 a4 a5 S = some (S', (1 : Int32)))
    (kk : ∀ (H : Heap) (locs : List Loc) (ls : Array Slot), WS D cA ad base s S' H locs → lv_has ls 7 [(0, .ref b), (1, .ref (ad 0)), (2, .ref (ad 63)), (3, .ref (ad 106)), (4, .int x4)] → W p l e room_1 s m #[Value.ref b] below meth c H locs (c0 + 1) (s0 + 6) Q (F0 m 1043 ls []))
    {H : Heap} {locs : List Loc} {ls : Array Slot} (hw : WS D cA ad base s S H locs) (hl : lv_has ls 7 [(0, .ref b), (1, .ref (ad 0)), (2, .ref (ad 63)), (3, .ref (ad 106)), (4, .int x4)]) : W p l e room_1 s m #[Value.ref b] below meth c H locs c0 s0 Q (F0 m 716 ls []) := by
  have hx := C.1
  have hb := C.2.1
  have hc1 : c0 ≤ room_1.cells := by omega
  have hs1 : s0 ≤ room_1.slots := by omega
  refine lv_aload_n hx hb dL_law_716 rfl (lv_at hl 1 rfl) ?_
  refine lv_aload_n hx hb dL_law_717 rfl (lv_at hl 0 rfl) ?_
  refine lv_iload hx hb dL_law_718 (lv_at hl 4 rfl) ?_
  refine lv_iconst (v := (1 : Int32)) hx hb dL_law_720 (by decide) ?_
  refine lv_iadd hx hb dL_law_721 ?_
  refine r_sld C hw hX hbl hbB h_in1 ha1 dL_law_722 ?_
  refine lv_aload_n hx hb dL_law_723 rfl (lv_at hl 0 rfl) ?_
  refine lv_iload hx hb dL_law_724 (lv_at hl 4 rfl) ?_
  refine lv_iconst (v := (2 : Int32)) hx hb dL_law_726 (by decide) ?_
  refine lv_iadd hx hb dL_law_727 ?_
  refine r_sld C hw hX hbl hbB h_in2 ha2 dL_law_728 ?_
  refine lv_aload_n hx hb dL_law_729 rfl (lv_at hl 3 rfl) ?_
  obtain ⟨S_730, r_730, h_730, hf⟩ := bd_some hf
  refine r_biW hw (r_runSW (rest := []) C hw (m_L_parsed l hlt D cA ad base fu h_730) msL_parsed gw5_40 ⟨rfl, rfl, Nat.le_of_ble_eq_true rfl, Nat.le_of_ble_eq_true rfl⟩ rfl hl.1 rfl (Nat.le_of_ble_eq_true rfl) dL_law_730 hc0 hs0) (fun H locs hw => ?_)
  refine lv_istore (lv' := [(5, .int r_730), (0, .ref b), (1, .ref (ad 0)), (2, .ref (ad 63)), (3, .ref (ad 106)), (4, .int x4)]) hx hb dL_law_733 hl (by decide) rfl (fun ls hl => ?_)
  refine lv_aload_n hx hb dL_law_735 rfl (lv_at hl 3 rfl) ?_
  refine lv_aload_n hx hb dL_law_736 rfl (lv_at hl 1 rfl) ?_
  refine lv_iload hx hb dL_law_737 (lv_at hl 5 rfl) ?_
  refine lv_iconst (v := (1 : Int32)) hx hb dL_law_739 (by decide) ?_
  refine lv_iadd hx hb dL_law_740 ?_
  refine r_sld C hw hX hbl hbB h_in1 ha1 dL_law_741 ?_
  refine lv_aload_n hx hb dL_law_742 rfl (lv_at hl 1 rfl) ?_
  refine lv_iload hx hb dL_law_743 (lv_at hl 5 rfl) ?_
  refine lv_iconst (v := (2 : Int32)) hx hb dL_law_745 (by decide) ?_
  refine lv_iadd hx hb dL_law_746 ?_
  refine r_sld C hw hX hbl hbB h_in2 ha2 dL_law_747 ?_
  obtain ⟨S_748, r_748, h_748, hf⟩ := bd_some hf
  refine r_bi hw (r_runV (rest := []) C hw (m_X12_parsed l D cA ad base fu h_748) mvX12_parsed gw8_144 ⟨rfl, rfl, Nat.le_of_ble_eq_true rfl, Nat.le_of_ble_eq_true rfl⟩ dq_63 ln_63 vc_12 rfl hl.1 rfl (Nat.le_of_ble_eq_true rfl) dL_law_748 hc0 hs0) (fun H locs hw => ?_)
  refine lv_istore (lv' := [(6, .int r_748), (5, .int r_730), (0, .ref b), (1, .ref (ad 0)), (2, .ref (ad 63)), (3, .ref (ad 106)), (4, .int x4)]) hx hb dL_law_751 hl (by decide) rfl (fun ls hl => ?_)
  refine lv_goto (tgt := 1043) hx hb dL_law_753 (by decide) ?_
  exact kk _ _ _ (by cases hf; exact hw) (lv_sub hl [2, 3, 4, 5, 6] rfl)
noncomputable def fc_14 (fu : Nat) (a1 a2 a3 a4 a5 : Int32) (S : St) : Option (St × Int32) :=
  bd (fX11_hint fu a1 S) fun S_763 r_763 =>
  bd (fX12_hint fu a1 S_763) fun S_773 r_773 =>
  if r_763 = r_773 then
    some (S_773, (1 : Int32))
  else
    some (S_773, (0 : Int32))
set_option maxHeartbeats 4000000 in
set_option maxRecDepth 100000 in
theorem lc_14 {p : Program} {l : Launch} {e : Env} {s : State} {m : MethodId} {below : List Frame} {meth : Method} {c : Code} {Q : State → Prop} {D : va_G} {cA : FieldType → ClassId} {ad : Nat → Nat} {base b L0 : Nat} {xs : Nat → Int32} (hlt : l.stackTraces = false) (C : CX D cA base RL cL_law 7 p s m #[Value.ref b] c) (hX : va_X b L0 xs s s.heap) (hbl : b < s.heap.size) (hbB : ¬ aB base b) {x4 a1 a2 a3 a4 a5 : Int32} (h_in1 : vp_in (x4 + 1) L0) (h_in2 : vp_in (x4 + 2) L0) (h_in3 : vp_in (x4 + 3) L0) (h_in4 : vp_in (x4 + 4) L0) (h_in5 : vp_in (x4 + 5) L0) (ha1 : xs (x4 + 1).toNatClampNeg = a1) (ha2 : xs (x4 + 2).toNatClampNeg = a2) (ha3 : xs (x4 + 3).toNatClampNeg = a3) (ha4 : xs (x4 + 4).toNatClampNeg = a4) (ha5 : xs (x4 + 5).toNatClampNeg = a5) {c0 s0 : Nat} (hc0 : c0 + 1 ≤ room_1.cells) (hs0 : s0 + 6 ≤ room_1.slots) {fu : Nat} {S S' : St} (hf : fc_14 fu a1 a2 a3 a4 a5 S = some (S', (1 : Int32)))
    (kk : ∀ (H : Heap) (locs : List Loc) (ls : Array Slot), WS D cA ad base s S' H locs → lv_has ls 7 [(0, .ref b), (1, .ref (ad 0)), (2, .ref (ad 63)), (3, .ref (ad 106)), (4, .int x4)] → W p l e room_1 s m #[Value.ref b] below meth c H locs (c0 + 1) (s0 + 6) Q (F0 m 1043 ls []))
    {H : Heap} {locs : List Loc} {ls : Array Slot} (hw : WS D cA ad base s S H locs) (hl : lv_has ls 7 [(0, .ref b), (1, .ref (ad 0)), (2, .ref (ad 63)), (3, .ref (ad 106)), (4, .int x4)]) : W p l e room_1 s m #[Value.ref b] below meth c H locs c0 s0 Q (F0 m 756 ls []) := by
  have hx := C.1
  have hb := C.2.1
  have hc1 : c0 ≤ room_1.cells := by omega
  have hs1 : s0 ≤ room_1.slots := by omega
  refine lv_aload_n hx hb dL_law_756 rfl (lv_at hl 1 rfl) ?_
  refine lv_aload_n hx hb dL_law_757 rfl (lv_at hl 0 rfl) ?_
  refine lv_iload hx hb dL_law_758 (lv_at hl 4 rfl) ?_
  refine lv_iconst (v := (1 : Int32)) hx hb dL_law_760 (by decide) ?_
  refine lv_iadd hx hb dL_law_761 ?_
  refine r_sld C hw hX hbl hbB h_in1 ha1 dL_law_762 ?_
  obtain ⟨S_763, r_763, h_763, hf⟩ := bd_some hf
  refine r_bi hw (r_runV (rest := []) C hw (m_X11_hint l D cA ad base fu h_763) mvX11_hint gw3_51 ⟨rfl, rfl, Nat.le_of_ble_eq_true rfl, Nat.le_of_ble_eq_true rfl⟩ dq_0 ln_0 vc_11 rfl hl.1 rfl (Nat.le_of_ble_eq_true rfl) dL_law_763 hc1 hs1) (fun H locs hw => ?_)
  refine lv_aload_n hx hb dL_law_766 rfl (lv_at hl 2 rfl) ?_
  refine lv_aload_n hx hb dL_law_767 rfl (lv_at hl 0 rfl) ?_
  refine lv_iload hx hb dL_law_768 (lv_at hl 4 rfl) ?_
  refine lv_iconst (v := (1 : Int32)) hx hb dL_law_770 (by decide) ?_
  refine lv_iadd hx hb dL_law_771 ?_
  refine r_sld C hw hX hbl hbB h_in1 ha1 dL_law_772 ?_
  obtain ⟨S_773, r_773, h_773, hf⟩ := bd_some hf
  refine r_bi hw (r_runV (rest := [.int r_763]) C hw (m_X12_hint l D cA ad base fu h_773) mvX12_hint gw8_32 ⟨rfl, rfl, Nat.le_of_ble_eq_true rfl, Nat.le_of_ble_eq_true rfl⟩ dq_63 ln_63 vc_12 rfl hl.1 rfl (Nat.le_of_ble_eq_true rfl) dL_law_773 hc1 hs1) (fun H locs hw => ?_)
  refine lv_icmp_eq (tgt := 1043) hx hb dL_law_776 (by decide) (fun c_776 => ?_) (fun c_776 => ?_)
  · have hf := if_t hf c_776
    refine W.widen (k := c0 + 1) (n := s0 + 6) (by omega) (by omega) ?_
    exact kk _ _ _ (by cases hf; exact hw) (lv_sub hl [0, 1, 2, 3, 4] rfl)
  · have hf := if_f hf c_776
    refine lv_iconst (v := (0 : Int32)) hx hb dL_law_779 (by decide) ?_
    exact absurd hf no01
noncomputable def fc_15 (fu : Nat) (a1 a2 a3 a4 a5 : Int32) (S : St) : Option (St × Int32) :=
  bd (fL_tick fu a1 S) fun S_789 r_789 =>
  bd (fX12_tick fu a1 S_789) fun S_801 r_801 =>
  some (S_801, (1 : Int32))
set_option maxHeartbeats 4000000 in
set_option maxRecDepth 100000 in
theorem lc_15 {p : Program} {l : Launch} {e : Env} {s : State} {m : MethodId} {below : List Frame} {meth : Method} {c : Code} {Q : State → Prop} {D : va_G} {cA : FieldType → ClassId} {ad : Nat → Nat} {base b L0 : Nat} {xs : Nat → Int32} (hlt : l.stackTraces = false) (C : CX D cA base RL cL_law 7 p s m #[Value.ref b] c) (hX : va_X b L0 xs s s.heap) (hbl : b < s.heap.size) (hbB : ¬ aB base b) {x4 a1 a2 a3 a4 a5 : Int32} (h_in1 : vp_in (x4 + 1) L0) (h_in2 : vp_in (x4 + 2) L0) (h_in3 : vp_in (x4 + 3) L0) (h_in4 : vp_in (x4 + 4) L0) (h_in5 : vp_in (x4 + 5) L0) (ha1 : xs (x4 + 1).toNatClampNeg = a1) (ha2 : xs (x4 + 2).toNatClampNeg = a2) (ha3 : xs (x4 + 3).toNatClampNeg = a3) (ha4 : xs (x4 + 4).toNatClampNeg = a4) (ha5 : xs (x4 + 5).toNatClampNeg = a5) {c0 s0 : Nat} (hc0 : c0 + 1 ≤ room_1.cells) (hs0 : s0 + 6 ≤ room_1.slots) {fu : Nat} {S S' : St} (hf : fc_15 fu a1 a2 a3 a4 a5 S = some (S', (1 : Int32)))
    (kk : ∀ (H : Heap) (locs : List Loc) (ls : Array Slot), WS D cA ad base s S' H locs → lv_has ls 7 [(0, .ref b), (1, .ref (ad 0)), (2, .ref (ad 63)), (3, .ref (ad 106)), (4, .int x4)] → W p l e room_1 s m #[Value.ref b] below meth c H locs (c0 + 1) (s0 + 6) Q (F0 m 1043 ls []))
    {H : Heap} {locs : List Loc} {ls : Array Slot} (hw : WS D cA ad base s S H locs) (hl : lv_has ls 7 [(0, .ref b), (1, .ref (ad 0)), (2, .ref (ad 63)), (3, .ref (ad 106)), (4, .int x4)]) : W p l e room_1 s m #[Value.ref b] below meth c H locs c0 s0 Q (F0 m 781 ls []) := by
  have hx := C.1
  have hb := C.2.1
  have hc1 : c0 ≤ room_1.cells := by omega
  have hs1 : s0 ≤ room_1.slots := by omega
  refine lv_aload_n hx hb dL_law_781 rfl (lv_at hl 1 rfl) ?_
  refine lv_aload_n hx hb dL_law_782 rfl (lv_at hl 0 rfl) ?_
  refine lv_iload hx hb dL_law_783 (lv_at hl 4 rfl) ?_
  refine lv_iconst (v := (1 : Int32)) hx hb dL_law_785 (by decide) ?_
  refine lv_iadd hx hb dL_law_786 ?_
  refine r_sld C hw hX hbl hbB h_in1 ha1 dL_law_787 ?_
  refine lv_aload_n hx hb dL_law_788 rfl (lv_at hl 3 rfl) ?_
  obtain ⟨S_789, r_789, h_789, hf⟩ := bd_some hf
  refine r_biW hw (r_runSW (rest := []) C hw (m_L_tick l hlt D cA ad base fu h_789) msL_tick gw5_74 ⟨rfl, rfl, Nat.le_of_ble_eq_true rfl, Nat.le_of_ble_eq_true rfl⟩ rfl hl.1 rfl (Nat.le_of_ble_eq_true rfl) dL_law_789 hc0 hs0) (fun H locs hw => ?_)
  refine lv_istore (lv' := [(5, .int r_789), (0, .ref b), (1, .ref (ad 0)), (2, .ref (ad 63)), (3, .ref (ad 106)), (4, .int x4)]) hx hb dL_law_792 hl (by decide) rfl (fun ls hl => ?_)
  refine lv_aload_n hx hb dL_law_794 rfl (lv_at hl 3 rfl) ?_
  refine lv_aload_n hx hb dL_law_795 rfl (lv_at hl 1 rfl) ?_
  refine lv_iload hx hb dL_law_796 (lv_at hl 5 rfl) ?_
  refine lv_iconst (v := (1 : Int32)) hx hb dL_law_798 (by decide) ?_
  refine lv_iadd hx hb dL_law_799 ?_
  refine r_sld C hw hX hbl hbB h_in1 ha1 dL_law_800 ?_
  obtain ⟨S_801, r_801, h_801, hf⟩ := bd_some hf
  refine r_bi hw (r_runV (rest := []) C hw (m_X12_tick l D cA ad base fu h_801) mvX12_tick gw8_156 ⟨rfl, rfl, Nat.le_of_ble_eq_true rfl, Nat.le_of_ble_eq_true rfl⟩ dq_63 ln_63 vc_12 rfl hl.1 rfl (Nat.le_of_ble_eq_true rfl) dL_law_801 hc0 hs0) (fun H locs hw => ?_)
  refine lv_istore (lv' := [(6, .int r_801), (5, .int r_789), (0, .ref b), (1, .ref (ad 0)), (2, .ref (ad 63)), (3, .ref (ad 106)), (4, .int x4)]) hx hb dL_law_804 hl (by decide) rfl (fun ls hl => ?_)
  refine lv_goto (tgt := 1043) hx hb dL_law_806 (by decide) ?_
  exact kk _ _ _ (by cases hf; exact hw) (lv_sub hl [2, 3, 4, 5, 6] rfl)
noncomputable def fc_16 (fu : Nat) (a1 a2 a3 a4 a5 : Int32) (S : St) : Option (St × Int32) :=
  bd (fL_ask fu a1 a2 S) fun S_823 r_823 =>
  bd (fX12_ask fu a1 a2 S_823) fun S_841 r_841 =>
  some (S_841, (1 : Int32))
set_option maxHeartbeats 4000000 in
set_option maxRecDepth 100000 in
theorem lc_16 {p : Program} {l : Launch} {e : Env} {s : State} {m : MethodId} {below : List Frame} {meth : Method} {c : Code} {Q : State → Prop} {D : va_G} {cA : FieldType → ClassId} {ad : Nat → Nat} {base b L0 : Nat} {xs : Nat → Int32} (hlt : l.stackTraces = false) (C : CX D cA base RL cL_law 7 p s m #[Value.ref b] c) (hX : va_X b L0 xs s s.heap) (hbl : b < s.heap.size) (hbB : ¬ aB base b) {x4 a1 a2 a3 a4 a5 : Int32} (h_in1 : vp_in (x4 + 1) L0) (h_in2 : vp_in (x4 + 2) L0) (h_in3 : vp_in (x4 + 3) L0) (h_in4 : vp_in (x4 + 4) L0) (h_in5 : vp_in (x4 + 5) L0) (ha1 : xs (x4 + 1).toNatClampNeg = a1) (ha2 : xs (x4 + 2).toNatClampNeg = a2) (ha3 : xs (x4 + 3).toNatClampNeg = a3) (ha4 : xs (x4 + 4).toNatClampNeg = a4) (ha5 : xs (x4 + 5).toNatClampNeg = a5) {c0 s0 : Nat} (hc0 : c0 + 1 ≤ room_1.cells) (hs0 : s0 + 6 ≤ room_1.slots) {fu : Nat} {S S' : St} (hf : fc_16 fu a1 a2 a3 a4 a5 S = some (S', (1 : Int32)))
    (kk : ∀ (H : Heap) (locs : List Loc) (ls : Array Slot), WS D cA ad base s S' H locs → lv_has ls 7 [(0, .ref b), (1, .ref (ad 0)), (2, .ref (ad 63)), (3, .ref (ad 106)), (4, .int x4)] → W p l e room_1 s m #[Value.ref b] below meth c H locs (c0 + 1) (s0 + 6) Q (F0 m 1043 ls []))
    {H : Heap} {locs : List Loc} {ls : Array Slot} (hw : WS D cA ad base s S H locs) (hl : lv_has ls 7 [(0, .ref b), (1, .ref (ad 0)), (2, .ref (ad 63)), (3, .ref (ad 106)), (4, .int x4)]) : W p l e room_1 s m #[Value.ref b] below meth c H locs c0 s0 Q (F0 m 809 ls []) := by
  have hx := C.1
  have hb := C.2.1
  have hc1 : c0 ≤ room_1.cells := by omega
  have hs1 : s0 ≤ room_1.slots := by omega
  refine lv_aload_n hx hb dL_law_809 rfl (lv_at hl 1 rfl) ?_
  refine lv_aload_n hx hb dL_law_810 rfl (lv_at hl 0 rfl) ?_
  refine lv_iload hx hb dL_law_811 (lv_at hl 4 rfl) ?_
  refine lv_iconst (v := (1 : Int32)) hx hb dL_law_813 (by decide) ?_
  refine lv_iadd hx hb dL_law_814 ?_
  refine r_sld C hw hX hbl hbB h_in1 ha1 dL_law_815 ?_
  refine lv_aload_n hx hb dL_law_816 rfl (lv_at hl 0 rfl) ?_
  refine lv_iload hx hb dL_law_817 (lv_at hl 4 rfl) ?_
  refine lv_iconst (v := (2 : Int32)) hx hb dL_law_819 (by decide) ?_
  refine lv_iadd hx hb dL_law_820 ?_
  refine r_sld C hw hX hbl hbB h_in2 ha2 dL_law_821 ?_
  refine lv_aload_n hx hb dL_law_822 rfl (lv_at hl 3 rfl) ?_
  obtain ⟨S_823, r_823, h_823, hf⟩ := bd_some hf
  refine r_biW hw (r_runSW (rest := []) C hw (m_L_ask l hlt D cA ad base fu h_823) msL_ask gw5_86 ⟨rfl, rfl, Nat.le_of_ble_eq_true rfl, Nat.le_of_ble_eq_true rfl⟩ rfl hl.1 rfl (Nat.le_of_ble_eq_true rfl) dL_law_823 hc0 hs0) (fun H locs hw => ?_)
  refine lv_istore (lv' := [(5, .int r_823), (0, .ref b), (1, .ref (ad 0)), (2, .ref (ad 63)), (3, .ref (ad 106)), (4, .int x4)]) hx hb dL_law_826 hl (by decide) rfl (fun ls hl => ?_)
  refine lv_aload_n hx hb dL_law_828 rfl (lv_at hl 3 rfl) ?_
  refine lv_aload_n hx hb dL_law_829 rfl (lv_at hl 1 rfl) ?_
  refine lv_iload hx hb dL_law_830 (lv_at hl 5 rfl) ?_
  refine lv_iconst (v := (1 : Int32)) hx hb dL_law_832 (by decide) ?_
  refine lv_iadd hx hb dL_law_833 ?_
  refine r_sld C hw hX hbl hbB h_in1 ha1 dL_law_834 ?_
  refine lv_aload_n hx hb dL_law_835 rfl (lv_at hl 1 rfl) ?_
  refine lv_iload hx hb dL_law_836 (lv_at hl 5 rfl) ?_
  refine lv_iconst (v := (2 : Int32)) hx hb dL_law_838 (by decide) ?_
  refine lv_iadd hx hb dL_law_839 ?_
  refine r_sld C hw hX hbl hbB h_in2 ha2 dL_law_840 ?_
  obtain ⟨S_841, r_841, h_841, hf⟩ := bd_some hf
  refine r_bi hw (r_runV (rest := []) C hw (m_X12_ask l D cA ad base fu h_841) mvX12_ask gw8_160 ⟨rfl, rfl, Nat.le_of_ble_eq_true rfl, Nat.le_of_ble_eq_true rfl⟩ dq_63 ln_63 vc_12 rfl hl.1 rfl (Nat.le_of_ble_eq_true rfl) dL_law_841 hc0 hs0) (fun H locs hw => ?_)
  refine lv_istore (lv' := [(6, .int r_841), (5, .int r_823), (0, .ref b), (1, .ref (ad 0)), (2, .ref (ad 63)), (3, .ref (ad 106)), (4, .int x4)]) hx hb dL_law_844 hl (by decide) rfl (fun ls hl => ?_)
  refine lv_goto (tgt := 1043) hx hb dL_law_846 (by decide) ?_
  exact kk _ _ _ (by cases hf; exact hw) (lv_sub hl [2, 3, 4, 5, 6] rfl)
noncomputable def fc_17 (fu : Nat) (a1 a2 a3 a4 a5 : Int32) (S : St) : Option (St × Int32) :=
  bd (fL_step fu S) fun S_851 r_851 =>
  bd (fX12_step fu S_851) fun S_857 r_857 =>
  some (S_857, (1 : Int32))
set_option maxHeartbeats 4000000 in
set_option maxRecDepth 100000 in
theorem lc_17 {p : Program} {l : Launch} {e : Env} {s : State} {m : MethodId} {below : List Frame} {meth : Method} {c : Code} {Q : State → Prop} {D : va_G} {cA : FieldType → ClassId} {ad : Nat → Nat} {base b L0 : Nat} {xs : Nat → Int32} (hlt : l.stackTraces = false) (C : CX D cA base RL cL_law 7 p s m #[Value.ref b] c) (hX : va_X b L0 xs s s.heap) (hbl : b < s.heap.size) (hbB : ¬ aB base b) {x4 a1 a2 a3 a4 a5 : Int32} (h_in1 : vp_in (x4 + 1) L0) (h_in2 : vp_in (x4 + 2) L0) (h_in3 : vp_in (x4 + 3) L0) (h_in4 : vp_in (x4 + 4) L0) (h_in5 : vp_in (x4 + 5) L0) (ha1 : xs (x4 + 1).toNatClampNeg = a1) (ha2 : xs (x4 + 2).toNatClampNeg = a2) (ha3 : xs (x4 + 3).toNatClampNeg = a3) (ha4 : xs (x4 + 4).toNatClampNeg = a4) (ha5 : xs (x4 + 5).toNatClampNeg = a5) {c0 s0 : Nat} (hc0 : c0 + 1 ≤ room_1.cells) (hs0 : s0 + 6 ≤ room_1.slots) {fu : Nat} {S S' : St} (hf : fc_17 fu a1 a2 a3 a4 a5 S = some (S', (1 : Int32)))
    (kk : ∀ (H : Heap) (locs : List Loc) (ls : Array Slot), WS D cA ad base s S' H locs → lv_has ls 7 [(0, .ref b), (1, .ref (ad 0)), (2, .ref (ad 63)), (3, .ref (ad 106)), (4, .int x4)] → W p l e room_1 s m #[Value.ref b] below meth c H locs (c0 + 1) (s0 + 6) Q (F0 m 1043 ls []))
    {H : Heap} {locs : List Loc} {ls : Array Slot} (hw : WS D cA ad base s S H locs) (hl : lv_has ls 7 [(0, .ref b), (1, .ref (ad 0)), (2, .ref (ad 63)), (3, .ref (ad 106)), (4, .int x4)]) : W p l e room_1 s m #[Value.ref b] below meth c H locs c0 s0 Q (F0 m 849 ls []) := by
  have hx := C.1
  have hb := C.2.1
  have hc1 : c0 ≤ room_1.cells := by omega
  have hs1 : s0 ≤ room_1.slots := by omega
  refine lv_aload_n hx hb dL_law_849 rfl (lv_at hl 1 rfl) ?_
  refine lv_aload_n hx hb dL_law_850 rfl (lv_at hl 3 rfl) ?_
  obtain ⟨S_851, r_851, h_851, hf⟩ := bd_some hf
  refine r_biW hw (r_runSW (rest := []) C hw (m_L_step l hlt D cA ad base fu h_851) msL_step gw5_238 ⟨rfl, rfl, Nat.le_of_ble_eq_true rfl, Nat.le_of_ble_eq_true rfl⟩ rfl hl.1 rfl (Nat.le_of_ble_eq_true rfl) dL_law_851 hc0 hs0) (fun H locs hw => ?_)
  refine lv_istore (lv' := [(5, .int r_851), (0, .ref b), (1, .ref (ad 0)), (2, .ref (ad 63)), (3, .ref (ad 106)), (4, .int x4)]) hx hb dL_law_854 hl (by decide) rfl (fun ls hl => ?_)
  refine lv_aload_n hx hb dL_law_856 rfl (lv_at hl 3 rfl) ?_
  obtain ⟨S_857, r_857, h_857, hf⟩ := bd_some hf
  refine r_bi hw (r_runV (rest := []) C hw (m_X12_step l D cA ad base fu h_857) mvX12_step gw8_209 ⟨rfl, rfl, Nat.le_of_ble_eq_true rfl, Nat.le_of_ble_eq_true rfl⟩ dq_63 ln_63 vc_12 rfl hl.1 rfl (Nat.le_of_ble_eq_true rfl) dL_law_857 hc0 hs0) (fun H locs hw => ?_)
  refine lv_istore (lv' := [(6, .int r_857), (5, .int r_851), (0, .ref b), (1, .ref (ad 0)), (2, .ref (ad 63)), (3, .ref (ad 106)), (4, .int x4)]) hx hb dL_law_860 hl (by decide) rfl (fun ls hl => ?_)
  refine lv_goto (tgt := 1043) hx hb dL_law_862 (by decide) ?_
  exact kk _ _ _ (by cases hf; exact hw) (lv_sub hl [2, 3, 4, 5, 6] rfl)
noncomputable def fc_18 (fu : Nat) (a1 a2 a3 a4 a5 : Int32) (S : St) : Option (St × Int32) :=
  bd (fL_lose fu S) fun S_867 r_867 =>
  bd (fX12_lose fu S_867) fun S_873 r_873 =>
  some (S_873, (1 : Int32))
set_option maxHeartbeats 4000000 in
set_option maxRecDepth 100000 in
theorem lc_18 {p : Program} {l : Launch} {e : Env} {s : State} {m : MethodId} {below : List Frame} {meth : Method} {c : Code} {Q : State → Prop} {D : va_G} {cA : FieldType → ClassId} {ad : Nat → Nat} {base b L0 : Nat} {xs : Nat → Int32} (hlt : l.stackTraces = false) (C : CX D cA base RL cL_law 7 p s m #[Value.ref b] c) (hX : va_X b L0 xs s s.heap) (hbl : b < s.heap.size) (hbB : ¬ aB base b) {x4 a1 a2 a3 a4 a5 : Int32} (h_in1 : vp_in (x4 + 1) L0) (h_in2 : vp_in (x4 + 2) L0) (h_in3 : vp_in (x4 + 3) L0) (h_in4 : vp_in (x4 + 4) L0) (h_in5 : vp_in (x4 + 5) L0) (ha1 : xs (x4 + 1).toNatClampNeg = a1) (ha2 : xs (x4 + 2).toNatClampNeg = a2) (ha3 : xs (x4 + 3).toNatClampNeg = a3) (ha4 : xs (x4 + 4).toNatClampNeg = a4) (ha5 : xs (x4 + 5).toNatClampNeg = a5) {c0 s0 : Nat} (hc0 : c0 + 1 ≤ room_1.cells) (hs0 : s0 + 6 ≤ room_1.slots) {fu : Nat} {S S' : St} (hf : fc_18 fu a1 a2 a3 a4 a5 S = some (S', (1 : Int32)))
    (kk : ∀ (H : Heap) (locs : List Loc) (ls : Array Slot), WS D cA ad base s S' H locs → lv_has ls 7 [(0, .ref b), (1, .ref (ad 0)), (2, .ref (ad 63)), (3, .ref (ad 106)), (4, .int x4)] → W p l e room_1 s m #[Value.ref b] below meth c H locs (c0 + 1) (s0 + 6) Q (F0 m 1043 ls []))
    {H : Heap} {locs : List Loc} {ls : Array Slot} (hw : WS D cA ad base s S H locs) (hl : lv_has ls 7 [(0, .ref b), (1, .ref (ad 0)), (2, .ref (ad 63)), (3, .ref (ad 106)), (4, .int x4)]) : W p l e room_1 s m #[Value.ref b] below meth c H locs c0 s0 Q (F0 m 865 ls []) := by
  have hx := C.1
  have hb := C.2.1
  have hc1 : c0 ≤ room_1.cells := by omega
  have hs1 : s0 ≤ room_1.slots := by omega
  refine lv_aload_n hx hb dL_law_865 rfl (lv_at hl 1 rfl) ?_
  refine lv_aload_n hx hb dL_law_866 rfl (lv_at hl 3 rfl) ?_
  obtain ⟨S_867, r_867, h_867, hf⟩ := bd_some hf
  refine r_biW hw (r_runSW (rest := []) C hw (m_L_lose l hlt D cA ad base fu h_867) msL_lose gw6_105 ⟨rfl, rfl, Nat.le_of_ble_eq_true rfl, Nat.le_of_ble_eq_true rfl⟩ rfl hl.1 rfl (Nat.le_of_ble_eq_true rfl) dL_law_867 hc0 hs0) (fun H locs hw => ?_)
  refine lv_istore (lv' := [(5, .int r_867), (0, .ref b), (1, .ref (ad 0)), (2, .ref (ad 63)), (3, .ref (ad 106)), (4, .int x4)]) hx hb dL_law_870 hl (by decide) rfl (fun ls hl => ?_)
  refine lv_aload_n hx hb dL_law_872 rfl (lv_at hl 3 rfl) ?_
  obtain ⟨S_873, r_873, h_873, hf⟩ := bd_some hf
  refine r_bi hw (r_runV (rest := []) C hw (m_X12_lose l D cA ad base fu h_873) mvX12_lose gw9_7 ⟨rfl, rfl, Nat.le_of_ble_eq_true rfl, Nat.le_of_ble_eq_true rfl⟩ dq_63 ln_63 vc_12 rfl hl.1 rfl (Nat.le_of_ble_eq_true rfl) dL_law_873 hc0 hs0) (fun H locs hw => ?_)
  refine lv_istore (lv' := [(6, .int r_873), (5, .int r_867), (0, .ref b), (1, .ref (ad 0)), (2, .ref (ad 63)), (3, .ref (ad 106)), (4, .int x4)]) hx hb dL_law_876 hl (by decide) rfl (fun ls hl => ?_)
  refine lv_goto (tgt := 1043) hx hb dL_law_878 (by decide) ?_
  exact kk _ _ _ (by cases hf; exact hw) (lv_sub hl [2, 3, 4, 5, 6] rfl)
noncomputable def fc_19 (fu : Nat) (a1 a2 a3 a4 a5 : Int32) (S : St) : Option (St × Int32) :=
  bd (fL_forge fu S) fun S_883 r_883 =>
  bd (fX12_forge fu S_883) fun S_889 r_889 =>
  some (S_889, (1 : Int32))
set_option maxHeartbeats 4000000 in
set_option maxRecDepth 100000 in
theorem lc_19 {p : Program} {l : Launch} {e : Env} {s : State} {m : MethodId} {below : List Frame} {meth : Method} {c : Code} {Q : State → Prop} {D : va_G} {cA : FieldType → ClassId} {ad : Nat → Nat} {base b L0 : Nat} {xs : Nat → Int32} (hlt : l.stackTraces = false) (C : CX D cA base RL cL_law 7 p s m #[Value.ref b] c) (hX : va_X b L0 xs s s.heap) (hbl : b < s.heap.size) (hbB : ¬ aB base b) {x4 a1 a2 a3 a4 a5 : Int32} (h_in1 : vp_in (x4 + 1) L0) (h_in2 : vp_in (x4 + 2) L0) (h_in3 : vp_in (x4 + 3) L0) (h_in4 : vp_in (x4 + 4) L0) (h_in5 : vp_in (x4 + 5) L0) (ha1 : xs (x4 + 1).toNatClampNeg = a1) (ha2 : xs (x4 + 2).toNatClampNeg = a2) (ha3 : xs (x4 + 3).toNatClampNeg = a3) (ha4 : xs (x4 + 4).toNatClampNeg = a4) (ha5 : xs (x4 + 5).toNatClampNeg = a5) {c0 s0 : Nat} (hc0 : c0 + 1 ≤ room_1.cells) (hs0 : s0 + 6 ≤ room_1.slots) {fu : Nat} {S S' : St} (hf : fc_19 fu a1 a2 a3 a4 a5 S = some (S', (1 : Int32)))
    (kk : ∀ (H : Heap) (locs : List Loc) (ls : Array Slot), WS D cA ad base s S' H locs → lv_has ls 7 [(0, .ref b), (1, .ref (ad 0)), (2, .ref (ad 63)), (3, .ref (ad 106)), (4, .int x4)] → W p l e room_1 s m #[Value.ref b] below meth c H locs (c0 + 1) (s0 + 6) Q (F0 m 1043 ls []))
    {H : Heap} {locs : List Loc} {ls : Array Slot} (hw : WS D cA ad base s S H locs) (hl : lv_has ls 7 [(0, .ref b), (1, .ref (ad 0)), (2, .ref (ad 63)), (3, .ref (ad 106)), (4, .int x4)]) : W p l e room_1 s m #[Value.ref b] below meth c H locs c0 s0 Q (F0 m 881 ls []) := by
  have hx := C.1
  have hb := C.2.1
  have hc1 : c0 ≤ room_1.cells := by omega
  have hs1 : s0 ≤ room_1.slots := by omega
  refine lv_aload_n hx hb dL_law_881 rfl (lv_at hl 1 rfl) ?_
  refine lv_aload_n hx hb dL_law_882 rfl (lv_at hl 3 rfl) ?_
  obtain ⟨S_883, r_883, h_883, hf⟩ := bd_some hf
  refine r_biW hw (r_runSW (rest := []) C hw (m_L_forge l hlt D cA ad base fu h_883) msL_forge gw6_112 ⟨rfl, rfl, Nat.le_of_ble_eq_true rfl, Nat.le_of_ble_eq_true rfl⟩ rfl hl.1 rfl (Nat.le_of_ble_eq_true rfl) dL_law_883 hc0 hs0) (fun H locs hw => ?_)
  refine lv_istore (lv' := [(5, .int r_883), (0, .ref b), (1, .ref (ad 0)), (2, .ref (ad 63)), (3, .ref (ad 106)), (4, .int x4)]) hx hb dL_law_886 hl (by decide) rfl (fun ls hl => ?_)
  refine lv_aload_n hx hb dL_law_888 rfl (lv_at hl 3 rfl) ?_
  obtain ⟨S_889, r_889, h_889, hf⟩ := bd_some hf
  refine r_bi hw (r_runV (rest := []) C hw (m_X12_forge l D cA ad base fu h_889) mvX12_forge gw9_11 ⟨rfl, rfl, Nat.le_of_ble_eq_true rfl, Nat.le_of_ble_eq_true rfl⟩ dq_63 ln_63 vc_12 rfl hl.1 rfl (Nat.le_of_ble_eq_true rfl) dL_law_889 hc0 hs0) (fun H locs hw => ?_)
  refine lv_istore (lv' := [(6, .int r_889), (5, .int r_883), (0, .ref b), (1, .ref (ad 0)), (2, .ref (ad 63)), (3, .ref (ad 106)), (4, .int x4)]) hx hb dL_law_892 hl (by decide) rfl (fun ls hl => ?_)
  refine lv_goto (tgt := 1043) hx hb dL_law_894 (by decide) ?_
  exact kk _ _ _ (by cases hf; exact hw) (lv_sub hl [2, 3, 4, 5, 6] rfl)
noncomputable def fc_20 (fu : Nat) (a1 a2 a3 a4 a5 : Int32) (S : St) : Option (St × Int32) :=
  bd (fL_query fu a1 S) fun S_905 r_905 =>
  bd (fX12_query fu a1 S_905) fun S_917 r_917 =>
  some (S_917, (1 : Int32))
set_option maxHeartbeats 4000000 in
set_option maxRecDepth 100000 in
theorem lc_20 {p : Program} {l : Launch} {e : Env} {s : State} {m : MethodId} {below : List Frame} {meth : Method} {c : Code} {Q : State → Prop} {D : va_G} {cA : FieldType → ClassId} {ad : Nat → Nat} {base b L0 : Nat} {xs : Nat → Int32} (hlt : l.stackTraces = false) (C : CX D cA base RL cL_law 7 p s m #[Value.ref b] c) (hX : va_X b L0 xs s s.heap) (hbl : b < s.heap.size) (hbB : ¬ aB base b) {x4 a1 a2 a3 a4 a5 : Int32} (h_in1 : vp_in (x4 + 1) L0) (h_in2 : vp_in (x4 + 2) L0) (h_in3 : vp_in (x4 + 3) L0) (h_in4 : vp_in (x4 + 4) L0) (h_in5 : vp_in (x4 + 5) L0) (ha1 : xs (x4 + 1).toNatClampNeg = a1) (ha2 : xs (x4 + 2).toNatClampNeg = a2) (ha3 : xs (x4 + 3).toNatClampNeg = a3) (ha4 : xs (x4 + 4).toNatClampNeg = a4) (ha5 : xs (x4 + 5).toNatClampNeg = a5) {c0 s0 : Nat} (hc0 : c0 + 1 ≤ room_1.cells) (hs0 : s0 + 6 ≤ room_1.slots) {fu : Nat} {S S' : St} (hf : fc_20 fu a1 a2 a3 a4 a5 S = some (S', (1 : Int32)))
    (kk : ∀ (H : Heap) (locs : List Loc) (ls : Array Slot), WS D cA ad base s S' H locs → lv_has ls 7 [(0, .ref b), (1, .ref (ad 0)), (2, .ref (ad 63)), (3, .ref (ad 106)), (4, .int x4)] → W p l e room_1 s m #[Value.ref b] below meth c H locs (c0 + 1) (s0 + 6) Q (F0 m 1043 ls []))
    {H : Heap} {locs : List Loc} {ls : Array Slot} (hw : WS D cA ad base s S H locs) (hl : lv_has ls 7 [(0, .ref b), (1, .ref (ad 0)), (2, .ref (ad 63)), (3, .ref (ad 106)), (4, .int x4)]) : W p l e room_1 s m #[Value.ref b] below meth c H locs c0 s0 Q (F0 m 897 ls []) := by
  have hx := C.1
  have hb := C.2.1
  have hc1 : c0 ≤ room_1.cells := by omega
  have hs1 : s0 ≤ room_1.slots := by omega
  refine lv_aload_n hx hb dL_law_897 rfl (lv_at hl 1 rfl) ?_
  refine lv_aload_n hx hb dL_law_898 rfl (lv_at hl 0 rfl) ?_
  refine lv_iload hx hb dL_law_899 (lv_at hl 4 rfl) ?_
  refine lv_iconst (v := (1 : Int32)) hx hb dL_law_901 (by decide) ?_
  refine lv_iadd hx hb dL_law_902 ?_
  refine r_sld C hw hX hbl hbB h_in1 ha1 dL_law_903 ?_
  refine lv_aload_n hx hb dL_law_904 rfl (lv_at hl 3 rfl) ?_
  obtain ⟨S_905, r_905, h_905, hf⟩ := bd_some hf
  refine r_biW hw (r_runSW (rest := []) C hw (m_L_query l hlt D cA ad base fu h_905) msL_query gw6_119 ⟨rfl, rfl, Nat.le_of_ble_eq_true rfl, Nat.le_of_ble_eq_true rfl⟩ rfl hl.1 rfl (Nat.le_of_ble_eq_true rfl) dL_law_905 hc0 hs0) (fun H locs hw => ?_)
  refine lv_istore (lv' := [(5, .int r_905), (0, .ref b), (1, .ref (ad 0)), (2, .ref (ad 63)), (3, .ref (ad 106)), (4, .int x4)]) hx hb dL_law_908 hl (by decide) rfl (fun ls hl => ?_)
  refine lv_aload_n hx hb dL_law_910 rfl (lv_at hl 3 rfl) ?_
  refine lv_aload_n hx hb dL_law_911 rfl (lv_at hl 1 rfl) ?_
  refine lv_iload hx hb dL_law_912 (lv_at hl 5 rfl) ?_
  refine lv_iconst (v := (1 : Int32)) hx hb dL_law_914 (by decide) ?_
  refine lv_iadd hx hb dL_law_915 ?_
  refine r_sld C hw hX hbl hbB h_in1 ha1 dL_law_916 ?_
  obtain ⟨S_917, r_917, h_917, hf⟩ := bd_some hf
  refine r_bi hw (r_runV (rest := []) C hw (m_X12_query l D cA ad base fu h_917) mvX12_query gw9_15 ⟨rfl, rfl, Nat.le_of_ble_eq_true rfl, Nat.le_of_ble_eq_true rfl⟩ dq_63 ln_63 vc_12 rfl hl.1 rfl (Nat.le_of_ble_eq_true rfl) dL_law_917 hc0 hs0) (fun H locs hw => ?_)
  refine lv_istore (lv' := [(6, .int r_917), (5, .int r_905), (0, .ref b), (1, .ref (ad 0)), (2, .ref (ad 63)), (3, .ref (ad 106)), (4, .int x4)]) hx hb dL_law_920 hl (by decide) rfl (fun ls hl => ?_)
  refine lv_goto (tgt := 1043) hx hb dL_law_922 (by decide) ?_
  exact kk _ _ _ (by cases hf; exact hw) (lv_sub hl [2, 3, 4, 5, 6] rfl)
noncomputable def fc_21 (fu : Nat) (a1 a2 a3 a4 a5 : Int32) (S : St) : Option (St × Int32) :=
  bd (fL_result fu a1 S) fun S_933 r_933 =>
  bd (fX12_result fu a1 S_933) fun S_945 r_945 =>
  some (S_945, (1 : Int32))
set_option maxHeartbeats 4000000 in
set_option maxRecDepth 100000 in
theorem lc_21 {p : Program} {l : Launch} {e : Env} {s : State} {m : MethodId} {below : List Frame} {meth : Method} {c : Code} {Q : State → Prop} {D : va_G} {cA : FieldType → ClassId} {ad : Nat → Nat} {base b L0 : Nat} {xs : Nat → Int32} (hlt : l.stackTraces = false) (C : CX D cA base RL cL_law 7 p s m #[Value.ref b] c) (hX : va_X b L0 xs s s.heap) (hbl : b < s.heap.size) (hbB : ¬ aB base b) {x4 a1 a2 a3 a4 a5 : Int32} (h_in1 : vp_in (x4 + 1) L0) (h_in2 : vp_in (x4 + 2) L0) (h_in3 : vp_in (x4 + 3) L0) (h_in4 : vp_in (x4 + 4) L0) (h_in5 : vp_in (x4 + 5) L0) (ha1 : xs (x4 + 1).toNatClampNeg = a1) (ha2 : xs (x4 + 2).toNatClampNeg = a2) (ha3 : xs (x4 + 3).toNatClampNeg = a3) (ha4 : xs (x4 + 4).toNatClampNeg = a4) (ha5 : xs (x4 + 5).toNatClampNeg = a5) {c0 s0 : Nat} (hc0 : c0 + 1 ≤ room_1.cells) (hs0 : s0 + 6 ≤ room_1.slots) {fu : Nat} {S S' : St} (hf : fc_21 fu a1 a2 a3 a4 a5 S = some (S', (1 : Int32)))
    (kk : ∀ (H : Heap) (locs : List Loc) (ls : Array Slot), WS D cA ad base s S' H locs → lv_has ls 7 [(0, .ref b), (1, .ref (ad 0)), (2, .ref (ad 63)), (3, .ref (ad 106)), (4, .int x4)] → W p l e room_1 s m #[Value.ref b] below meth c H locs (c0 + 1) (s0 + 6) Q (F0 m 1043 ls []))
    {H : Heap} {locs : List Loc} {ls : Array Slot} (hw : WS D cA ad base s S H locs) (hl : lv_has ls 7 [(0, .ref b), (1, .ref (ad 0)), (2, .ref (ad 63)), (3, .ref (ad 106)), (4, .int x4)]) : W p l e room_1 s m #[Value.ref b] below meth c H locs c0 s0 Q (F0 m 925 ls []) := by
  have hx := C.1
  have hb := C.2.1
  have hc1 : c0 ≤ room_1.cells := by omega
  have hs1 : s0 ≤ room_1.slots := by omega
  refine lv_aload_n hx hb dL_law_925 rfl (lv_at hl 1 rfl) ?_
  refine lv_aload_n hx hb dL_law_926 rfl (lv_at hl 0 rfl) ?_
  refine lv_iload hx hb dL_law_927 (lv_at hl 4 rfl) ?_
  refine lv_iconst (v := (1 : Int32)) hx hb dL_law_929 (by decide) ?_
  refine lv_iadd hx hb dL_law_930 ?_
  refine r_sld C hw hX hbl hbB h_in1 ha1 dL_law_931 ?_
  refine lv_aload_n hx hb dL_law_932 rfl (lv_at hl 3 rfl) ?_
  obtain ⟨S_933, r_933, h_933, hf⟩ := bd_some hf
  refine r_biW hw (r_runSW (rest := []) C hw (m_L_result l hlt D cA ad base fu h_933) msL_result gw6_135 ⟨rfl, rfl, Nat.le_of_ble_eq_true rfl, Nat.le_of_ble_eq_true rfl⟩ rfl hl.1 rfl (Nat.le_of_ble_eq_true rfl) dL_law_933 hc0 hs0) (fun H locs hw => ?_)
  refine lv_istore (lv' := [(5, .int r_933), (0, .ref b), (1, .ref (ad 0)), (2, .ref (ad 63)), (3, .ref (ad 106)), (4, .int x4)]) hx hb dL_law_936 hl (by decide) rfl (fun ls hl => ?_)
  refine lv_aload_n hx hb dL_law_938 rfl (lv_at hl 3 rfl) ?_
  refine lv_aload_n hx hb dL_law_939 rfl (lv_at hl 1 rfl) ?_
  refine lv_iload hx hb dL_law_940 (lv_at hl 5 rfl) ?_
  refine lv_iconst (v := (1 : Int32)) hx hb dL_law_942 (by decide) ?_
  refine lv_iadd hx hb dL_law_943 ?_
  refine r_sld C hw hX hbl hbB h_in1 ha1 dL_law_944 ?_
  obtain ⟨S_945, r_945, h_945, hf⟩ := bd_some hf
  refine r_bi hw (r_runV (rest := []) C hw (m_X12_result l D cA ad base fu h_945) mvX12_result gw9_19 ⟨rfl, rfl, Nat.le_of_ble_eq_true rfl, Nat.le_of_ble_eq_true rfl⟩ dq_63 ln_63 vc_12 rfl hl.1 rfl (Nat.le_of_ble_eq_true rfl) dL_law_945 hc0 hs0) (fun H locs hw => ?_)
  refine lv_istore (lv' := [(6, .int r_945), (5, .int r_933), (0, .ref b), (1, .ref (ad 0)), (2, .ref (ad 63)), (3, .ref (ad 106)), (4, .int x4)]) hx hb dL_law_948 hl (by decide) rfl (fun ls hl => ?_)
  refine lv_goto (tgt := 1043) hx hb dL_law_950 (by decide) ?_
  exact kk _ _ _ (by cases hf; exact hw) (lv_sub hl [2, 3, 4, 5, 6] rfl)
noncomputable def fc_22 (fu : Nat) (a1 a2 a3 a4 a5 : Int32) (S : St) : Option (St × Int32) :=
  bd (fX11_data fu a1 S) fun S_960 r_960 =>
  bd (fX12_data fu a1 S_960) fun S_971 r_971 =>
  some (S_971, (1 : Int32))
set_option maxHeartbeats 4000000 in
set_option maxRecDepth 100000 in
theorem lc_22 {p : Program} {l : Launch} {e : Env} {s : State} {m : MethodId} {below : List Frame} {meth : Method} {c : Code} {Q : State → Prop} {D : va_G} {cA : FieldType → ClassId} {ad : Nat → Nat} {base b L0 : Nat} {xs : Nat → Int32} (hlt : l.stackTraces = false) (C : CX D cA base RL cL_law 7 p s m #[Value.ref b] c) (hX : va_X b L0 xs s s.heap) (hbl : b < s.heap.size) (hbB : ¬ aB base b) {x4 a1 a2 a3 a4 a5 : Int32} (h_in1 : vp_in (x4 + 1) L0) (h_in2 : vp_in (x4 + 2) L0) (h_in3 : vp_in (x4 + 3) L0) (h_in4 : vp_in (x4 + 4) L0) (h_in5 : vp_in (x4 + 5) L0) (ha1 : xs (x4 + 1).toNatClampNeg = a1) (ha2 : xs (x4 + 2).toNatClampNeg = a2) (ha3 : xs (x4 + 3).toNatClampNeg = a3) (ha4 : xs (x4 + 4).toNatClampNeg = a4) (ha5 : xs (x4 + 5).toNatClampNeg = a5) {c0 s0 : Nat} (hc0 : c0 + 1 ≤ room_1.cells) (hs0 : s0 + 6 ≤ room_1.slots) {fu : Nat} {S S' : St} (hf : fc_22 fu a1 a2 a3 a4 a5 S = some (S', (1 : Int32)))
    (kk : ∀ (H : Heap) (locs : List Loc) (ls : Array Slot), WS D cA ad base s S' H locs → lv_has ls 7 [(0, .ref b), (1, .ref (ad 0)), (2, .ref (ad 63)), (3, .ref (ad 106)), (4, .int x4)] → W p l e room_1 s m #[Value.ref b] below meth c H locs (c0 + 1) (s0 + 6) Q (F0 m 1043 ls []))
    {H : Heap} {locs : List Loc} {ls : Array Slot} (hw : WS D cA ad base s S H locs) (hl : lv_has ls 7 [(0, .ref b), (1, .ref (ad 0)), (2, .ref (ad 63)), (3, .ref (ad 106)), (4, .int x4)]) : W p l e room_1 s m #[Value.ref b] below meth c H locs c0 s0 Q (F0 m 953 ls []) := by
  have hx := C.1
  have hb := C.2.1
  have hc1 : c0 ≤ room_1.cells := by omega
  have hs1 : s0 ≤ room_1.slots := by omega
  refine lv_aload_n hx hb dL_law_953 rfl (lv_at hl 1 rfl) ?_
  refine lv_aload_n hx hb dL_law_954 rfl (lv_at hl 0 rfl) ?_
  refine lv_iload hx hb dL_law_955 (lv_at hl 4 rfl) ?_
  refine lv_iconst (v := (1 : Int32)) hx hb dL_law_957 (by decide) ?_
  refine lv_iadd hx hb dL_law_958 ?_
  refine r_sld C hw hX hbl hbB h_in1 ha1 dL_law_959 ?_
  obtain ⟨S_960, r_960, h_960, hf⟩ := bd_some hf
  refine r_bi hw (r_runV (rest := []) C hw (m_X11_data l D cA ad base fu h_960) mvX11_data gw3_59 ⟨rfl, rfl, Nat.le_of_ble_eq_true rfl, Nat.le_of_ble_eq_true rfl⟩ dq_0 ln_0 vc_11 rfl hl.1 rfl (Nat.le_of_ble_eq_true rfl) dL_law_960 hc1 hs1) (fun H locs hw => ?_)
  refine lv_pop hx hb dL_law_963 rfl ?_
  refine lv_aload_n hx hb dL_law_964 rfl (lv_at hl 2 rfl) ?_
  refine lv_aload_n hx hb dL_law_965 rfl (lv_at hl 0 rfl) ?_
  refine lv_iload hx hb dL_law_966 (lv_at hl 4 rfl) ?_
  refine lv_iconst (v := (1 : Int32)) hx hb dL_law_968 (by decide) ?_
  refine lv_iadd hx hb dL_law_969 ?_
  refine r_sld C hw hX hbl hbB h_in1 ha1 dL_law_970 ?_
  obtain ⟨S_971, r_971, h_971, hf⟩ := bd_some hf
  refine r_bi hw (r_runV (rest := []) C hw (m_X12_data l D cA ad base fu h_971) mvX12_data gw9_23 ⟨rfl, rfl, Nat.le_of_ble_eq_true rfl, Nat.le_of_ble_eq_true rfl⟩ dq_63 ln_63 vc_12 rfl hl.1 rfl (Nat.le_of_ble_eq_true rfl) dL_law_971 hc1 hs1) (fun H locs hw => ?_)
  refine lv_pop hx hb dL_law_974 rfl ?_
  refine lv_goto (tgt := 1043) hx hb dL_law_975 (by decide) ?_
  refine W.widen (k := c0 + 1) (n := s0 + 6) (by omega) (by omega) ?_
  exact kk _ _ _ (by cases hf; exact hw) (lv_sub hl [0, 1, 2, 3, 4] rfl)
noncomputable def fc_23 (fu : Nat) (a1 a2 a3 a4 a5 : Int32) (S : St) : Option (St × Int32) :=
  bd (fL_cached fu a1 a2 S) fun S_992 r_992 =>
  bd (fX12_cached fu a1 a2 S_992) fun S_1010 r_1010 =>
  some (S_1010, (1 : Int32))
set_option maxHeartbeats 4000000 in
set_option maxRecDepth 100000 in
theorem lc_23 {p : Program} {l : Launch} {e : Env} {s : State} {m : MethodId} {below : List Frame} {meth : Method} {c : Code} {Q : State → Prop} {D : va_G} {cA : FieldType → ClassId} {ad : Nat → Nat} {base b L0 : Nat} {xs : Nat → Int32} (hlt : l.stackTraces = false) (C : CX D cA base RL cL_law 7 p s m #[Value.ref b] c) (hX : va_X b L0 xs s s.heap) (hbl : b < s.heap.size) (hbB : ¬ aB base b) {x4 a1 a2 a3 a4 a5 : Int32} (h_in1 : vp_in (x4 + 1) L0) (h_in2 : vp_in (x4 + 2) L0) (h_in3 : vp_in (x4 + 3) L0) (h_in4 : vp_in (x4 + 4) L0) (h_in5 : vp_in (x4 + 5) L0) (ha1 : xs (x4 + 1).toNatClampNeg = a1) (ha2 : xs (x4 + 2).toNatClampNeg = a2) (ha3 : xs (x4 + 3).toNatClampNeg = a3) (ha4 : xs (x4 + 4).toNatClampNeg = a4) (ha5 : xs (x4 + 5).toNatClampNeg = a5) {c0 s0 : Nat} (hc0 : c0 + 1 ≤ room_1.cells) (hs0 : s0 + 6 ≤ room_1.slots) {fu : Nat} {S S' : St} (hf : fc_23 fu a1 a2 a3 a4 a5 S = some (S', (1 : Int32)))
    (kk : ∀ (H : Heap) (locs : List Loc) (ls : Array Slot), WS D cA ad base s S' H locs → lv_has ls 7 [(0, .ref b), (1, .ref (ad 0)), (2, .ref (ad 63)), (3, .ref (ad 106)), (4, .int x4)] → W p l e room_1 s m #[Value.ref b] below meth c H locs (c0 + 1) (s0 + 6) Q (F0 m 1043 ls []))
    {H : Heap} {locs : List Loc} {ls : Array Slot} (hw : WS D cA ad base s S H locs) (hl : lv_has ls 7 [(0, .ref b), (1, .ref (ad 0)), (2, .ref (ad 63)), (3, .ref (ad 106)), (4, .int x4)]) : W p l e room_1 s m #[Value.ref b] below meth c H locs c0 s0 Q (F0 m 978 ls []) := by
  have hx := C.1
  have hb := C.2.1
  have hc1 : c0 ≤ room_1.cells := by omega
  have hs1 : s0 ≤ room_1.slots := by omega
  refine lv_aload_n hx hb dL_law_978 rfl (lv_at hl 1 rfl) ?_
  refine lv_aload_n hx hb dL_law_979 rfl (lv_at hl 0 rfl) ?_
  refine lv_iload hx hb dL_law_980 (lv_at hl 4 rfl) ?_
  refine lv_iconst (v := (1 : Int32)) hx hb dL_law_982 (by decide) ?_
  refine lv_iadd hx hb dL_law_983 ?_
  refine r_sld C hw hX hbl hbB h_in1 ha1 dL_law_984 ?_
  refine lv_aload_n hx hb dL_law_985 rfl (lv_at hl 0 rfl) ?_
  refine lv_iload hx hb dL_law_986 (lv_at hl 4 rfl) ?_
  refine lv_iconst (v := (2 : Int32)) hx hb dL_law_988 (by decide) ?_
  refine lv_iadd hx hb dL_law_989 ?_
  refine r_sld C hw hX hbl hbB h_in2 ha2 dL_law_990 ?_
  refine lv_aload_n hx hb dL_law_991 rfl (lv_at hl 3 rfl) ?_
  obtain ⟨S_992, r_992, h_992, hf⟩ := bd_some hf
  refine r_biW hw (r_runSW (rest := []) C hw (m_L_cached l hlt D cA ad base fu h_992) msL_cached gw6_167 ⟨rfl, rfl, Nat.le_of_ble_eq_true rfl, Nat.le_of_ble_eq_true rfl⟩ rfl hl.1 rfl (Nat.le_of_ble_eq_true rfl) dL_law_992 hc0 hs0) (fun H locs hw => ?_)
  refine lv_istore (lv' := [(5, .int r_992), (0, .ref b), (1, .ref (ad 0)), (2, .ref (ad 63)), (3, .ref (ad 106)), (4, .int x4)]) hx hb dL_law_995 hl (by decide) rfl (fun ls hl => ?_)
  refine lv_aload_n hx hb dL_law_997 rfl (lv_at hl 3 rfl) ?_
  refine lv_aload_n hx hb dL_law_998 rfl (lv_at hl 1 rfl) ?_
  refine lv_iload hx hb dL_law_999 (lv_at hl 5 rfl) ?_
  refine lv_iconst (v := (1 : Int32)) hx hb dL_law_1001 (by decide) ?_
  refine lv_iadd hx hb dL_law_1002 ?_
  refine r_sld C hw hX hbl hbB h_in1 ha1 dL_law_1003 ?_
  refine lv_aload_n hx hb dL_law_1004 rfl (lv_at hl 1 rfl) ?_
  refine lv_iload hx hb dL_law_1005 (lv_at hl 5 rfl) ?_
  refine lv_iconst (v := (2 : Int32)) hx hb dL_law_1007 (by decide) ?_
  refine lv_iadd hx hb dL_law_1008 ?_
  refine r_sld C hw hX hbl hbB h_in2 ha2 dL_law_1009 ?_
  obtain ⟨S_1010, r_1010, h_1010, hf⟩ := bd_some hf
  refine r_bi hw (r_runV (rest := []) C hw (m_X12_cached l D cA ad base fu h_1010) mvX12_cached gw8_148 ⟨rfl, rfl, Nat.le_of_ble_eq_true rfl, Nat.le_of_ble_eq_true rfl⟩ dq_63 ln_63 vc_12 rfl hl.1 rfl (Nat.le_of_ble_eq_true rfl) dL_law_1010 hc0 hs0) (fun H locs hw => ?_)
  refine lv_istore (lv' := [(6, .int r_1010), (5, .int r_992), (0, .ref b), (1, .ref (ad 0)), (2, .ref (ad 63)), (3, .ref (ad 106)), (4, .int x4)]) hx hb dL_law_1013 hl (by decide) rfl (fun ls hl => ?_)
  refine lv_goto (tgt := 1043) hx hb dL_law_1015 (by decide) ?_
  exact kk _ _ _ (by cases hf; exact hw) (lv_sub hl [2, 3, 4, 5, 6] rfl)
noncomputable def fc_24 (fu : Nat) (a1 a2 a3 a4 a5 : Int32) (S : St) : Option (St × Int32) :=
  bd (fX11_count fu a1 S) fun S_1025 r_1025 =>
  bd (fX12_count fu a1 S_1025) fun S_1036 r_1036 =>
  some (S_1036, (1 : Int32))
set_option maxHeartbeats 4000000 in
set_option maxRecDepth 100000 in
theorem lc_24 {p : Program} {l : Launch} {e : Env} {s : State} {m : MethodId} {below : List Frame} {meth : Method} {c : Code} {Q : State → Prop} {D : va_G} {cA : FieldType → ClassId} {ad : Nat → Nat} {base b L0 : Nat} {xs : Nat → Int32} (hlt : l.stackTraces = false) (C : CX D cA base RL cL_law 7 p s m #[Value.ref b] c) (hX : va_X b L0 xs s s.heap) (hbl : b < s.heap.size) (hbB : ¬ aB base b) {x4 a1 a2 a3 a4 a5 : Int32} (h_in1 : vp_in (x4 + 1) L0) (h_in2 : vp_in (x4 + 2) L0) (h_in3 : vp_in (x4 + 3) L0) (h_in4 : vp_in (x4 + 4) L0) (h_in5 : vp_in (x4 + 5) L0) (ha1 : xs (x4 + 1).toNatClampNeg = a1) (ha2 : xs (x4 + 2).toNatClampNeg = a2) (ha3 : xs (x4 + 3).toNatClampNeg = a3) (ha4 : xs (x4 + 4).toNatClampNeg = a4) (ha5 : xs (x4 + 5).toNatClampNeg = a5) {c0 s0 : Nat} (hc0 : c0 + 1 ≤ room_1.cells) (hs0 : s0 + 6 ≤ room_1.slots) {fu : Nat} {S S' : St} (hf : fc_24 fu a1 a2 a3 a4 a5 S = some (S', (1 : Int32)))
    (kk : ∀ (H : Heap) (locs : List Loc) (ls : Array Slot), WS D cA ad base s S' H locs → lv_has ls 7 [(0, .ref b), (1, .ref (ad 0)), (2, .ref (ad 63)), (3, .ref (ad 106)), (4, .int x4)] → W p l e room_1 s m #[Value.ref b] below meth c H locs (c0 + 1) (s0 + 6) Q (F0 m 1043 ls []))
    {H : Heap} {locs : List Loc} {ls : Array Slot} (hw : WS D cA ad base s S H locs) (hl : lv_has ls 7 [(0, .ref b), (1, .ref (ad 0)), (2, .ref (ad 63)), (3, .ref (ad 106)), (4, .int x4)]) : W p l e room_1 s m #[Value.ref b] below meth c H locs c0 s0 Q (F0 m 1018 ls []) := by
  have hx := C.1
  have hb := C.2.1
  have hc1 : c0 ≤ room_1.cells := by omega
  have hs1 : s0 ≤ room_1.slots := by omega
  refine lv_aload_n hx hb dL_law_1018 rfl (lv_at hl 1 rfl) ?_
  refine lv_aload_n hx hb dL_law_1019 rfl (lv_at hl 0 rfl) ?_
  refine lv_iload hx hb dL_law_1020 (lv_at hl 4 rfl) ?_
  refine lv_iconst (v := (1 : Int32)) hx hb dL_law_1022 (by decide) ?_
  refine lv_iadd hx hb dL_law_1023 ?_
  refine r_sld C hw hX hbl hbB h_in1 ha1 dL_law_1024 ?_
  obtain ⟨S_1025, r_1025, h_1025, hf⟩ := bd_some hf
  refine r_bi hw (r_runV (rest := []) C hw (m_X11_count l D cA ad base fu h_1025) mvX11_count gw3_67 ⟨rfl, rfl, Nat.le_of_ble_eq_true rfl, Nat.le_of_ble_eq_true rfl⟩ dq_0 ln_0 vc_11 rfl hl.1 rfl (Nat.le_of_ble_eq_true rfl) dL_law_1025 hc1 hs1) (fun H locs hw => ?_)
  refine lv_pop hx hb dL_law_1028 rfl ?_
  refine lv_aload_n hx hb dL_law_1029 rfl (lv_at hl 2 rfl) ?_
  refine lv_aload_n hx hb dL_law_1030 rfl (lv_at hl 0 rfl) ?_
  refine lv_iload hx hb dL_law_1031 (lv_at hl 4 rfl) ?_
  refine lv_iconst (v := (1 : Int32)) hx hb dL_law_1033 (by decide) ?_
  refine lv_iadd hx hb dL_law_1034 ?_
  refine r_sld C hw hX hbl hbB h_in1 ha1 dL_law_1035 ?_
  obtain ⟨S_1036, r_1036, h_1036, hf⟩ := bd_some hf
  refine r_bi hw (r_runV (rest := []) C hw (m_X12_count l D cA ad base fu h_1036) mvX12_count gw9_27 ⟨rfl, rfl, Nat.le_of_ble_eq_true rfl, Nat.le_of_ble_eq_true rfl⟩ dq_63 ln_63 vc_12 rfl hl.1 rfl (Nat.le_of_ble_eq_true rfl) dL_law_1036 hc1 hs1) (fun H locs hw => ?_)
  refine lv_pop hx hb dL_law_1039 rfl ?_
  refine lv_goto (tgt := 1043) hx hb dL_law_1040 (by decide) ?_
  refine W.widen (k := c0 + 1) (n := s0 + 6) (by omega) (by omega) ?_
  exact kk _ _ _ (by cases hf; exact hw) (lv_sub hl [0, 1, 2, 3, 4] rfl)
