/-! THE LAW's CASES: the class's call, the reference's, one answer -/
theorem lw_is1 {ro : Nat → Nat} {I : Nat → Nat → Int32} {F : Nat → Nat → Option Nat} {ad : Nat → Nat} (hS : ol_ST ro I F ad) : ol_is ro (ad 1) (.inl 0) := by
  obtain ⟨ta, pa, n, So, T, P, g, h, w, b, ra, rb, rc, fl, hL, -⟩ := hS
  exact hL.is 1 (by decide) (by decide) rfl
set_option maxRecDepth 100000 in
set_option maxHeartbeats 4000000 in
theorem lwc_0 {p : Program} {l : Launch} {e : Env} {s : State} {m : MethodId} {below : List Frame} {meth : Method} {c : Code} {D : va_G} {cA : Nat → ClassId} {A : Nat → Prop} {Q : State → Prop} {ro : Nat → Nat} {I : Nat → Nat → Int32} {F : Nat → Nat → Option Nat} {cells slots : Nat} {b L : Nat} {xs : Nat → Int32} {ad : Nat → Nat} (C : ol_Cx p s m #[Value.ref b] c cL_law 4 RL D cA A) (hX : va_X b L xs s s.heap) (hbl : b < s.heap.size) (hbA : ¬ A b) {i : Nat} (hi : i + 6 ≤ L) (hL : L < 2 ^ 31) (hS : ol_ST ro I F ad) (hc : cells + 2 ≤ 600000) (hs : slots + 13 ≤ 7302250) (kk : ∀ (ro' : Nat → Nat) (I' : Nat → Nat → Int32) (F' : Nat → Nat → Option Nat), ol_ST ro' I' F' ad → ol_W p l e room_1 s m #[Value.ref b] below meth c D cA A Q 4 ro' I' F' (cells + 2) (slots + 13) 807 [some (.ref b), some (.ref (ad 1)), some (.ref (ad 10)), some (.int (nI i))] []) : ol_W p l e room_1 s m #[Value.ref b] below meth c D cA A Q 4 ro I F cells slots 132 [some (.ref b), some (.ref (ad 1)), some (.ref (ad 10)), some (.int (nI i))] [] := by
  have hx : ol_is ro (ad 1) (.inl 0) := lw_is1 hS
  refine ol_aload_n C dL_law_132 rfl rfl (ol_isq_r _) ?_
  refine lw_arg 1 C hX hbl hbA hL (by omega) rfl rfl rfl dL_law_133 dL_law_134 dL_law_135 dL_law_136 dL_law_137 ?_
  refine lw_arg 2 C hX hbl hbA hL (by omega) rfl rfl rfl dL_law_138 dL_law_139 dL_law_140 dL_law_141 dL_law_142 ?_
  refine lw_arg 3 C hX hbl hbA hL (by omega) rfl rfl rfl dL_law_143 dL_law_144 dL_law_145 dL_law_146 dL_law_147 ?_
  refine ol_callV C (lw_thing l D cA hS (xs (i + 1)) (xs (i + 2)) (xs (i + 3))) hx.1 hx.2 rfl wd_114 wd_1 wd_111 wd_112 wd_113 mh_X10_thing ⟨⟨by decide, by decide⟩, ⟨by show cells + 2 ≤ 600000; omega, by show slots + 13 ≤ 7302250; omega⟩⟩ rfl (by first | exact Nat.le_of_ble_eq_true rfl | simp [ol_rfc, Value.category]) dL_law_148 (lw_k1 (fun z ro1 I1 F1 hm hM => ?_))
  refine ol_aload_n C dL_law_151 rfl rfl (ol_isq_r _) ?_
  refine lw_arg 1 C hX hbl hbA hL (by omega) rfl rfl rfl dL_law_152 dL_law_153 dL_law_154 dL_law_155 dL_law_156 ?_
  refine lw_arg 2 C hX hbl hbA hL (by omega) rfl rfl rfl dL_law_157 dL_law_158 dL_law_159 dL_law_160 dL_law_161 ?_
  refine lw_arg 3 C hX hbl hbA hL (by omega) rfl rfl rfl dL_law_162 dL_law_163 dL_law_164 dL_law_165 dL_law_166 ?_
  refine ol_callV C (hM l D cA) hm.1 hm.2 rfl wd_671 wd_4 wd_668 wd_669 wd_670 mh_X11_thing ⟨⟨by decide, by decide⟩, ⟨by show cells + 2 + 0 ≤ 600000; omega, by show slots + 13 + 0 ≤ 7302250; omega⟩⟩ rfl (by first | exact Nat.le_of_ble_eq_true rfl | simp [ol_rfc, Value.category]) dL_law_167 (lw_k2 (fun ro2 I2 F2 hS2 => ?_))
  refine ol_icmp_eq (tgt := 807) C dL_law_170 (by decide) (fun _ => ?_) (fun q => absurd rfl q)
  exact ol_widen (k := cells + 2) (n := slots + 13) (by show cells + 2 + 0 ≤ cells + 2; omega) (by show slots + 13 + 0 ≤ slots + 13; omega) (kk ro2 I2 F2 hS2)
set_option maxRecDepth 100000 in
set_option maxHeartbeats 4000000 in
theorem lwc_1 {p : Program} {l : Launch} {e : Env} {s : State} {m : MethodId} {below : List Frame} {meth : Method} {c : Code} {D : va_G} {cA : Nat → ClassId} {A : Nat → Prop} {Q : State → Prop} {ro : Nat → Nat} {I : Nat → Nat → Int32} {F : Nat → Nat → Option Nat} {cells slots : Nat} {b L : Nat} {xs : Nat → Int32} {ad : Nat → Nat} (C : ol_Cx p s m #[Value.ref b] c cL_law 4 RL D cA A) (hX : va_X b L xs s s.heap) (hbl : b < s.heap.size) (hbA : ¬ A b) {i : Nat} (hi : i + 6 ≤ L) (hL : L < 2 ^ 31) (hS : ol_ST ro I F ad) (hc : cells + 2 ≤ 600000) (hs : slots + 13 ≤ 7302250) (kk : ∀ (ro' : Nat → Nat) (I' : Nat → Nat → Int32) (F' : Nat → Nat → Option Nat), ol_ST ro' I' F' ad → ol_W p l e room_1 s m #[Value.ref b] below meth c D cA A Q 4 ro' I' F' (cells + 2) (slots + 13) 807 [some (.ref b), some (.ref (ad 1)), some (.ref (ad 10)), some (.int (nI i))] []) : ol_W p l e room_1 s m #[Value.ref b] below meth c D cA A Q 4 ro I F cells slots 175 [some (.ref b), some (.ref (ad 1)), some (.ref (ad 10)), some (.int (nI i))] [] := by
  have hx : ol_is ro (ad 1) (.inl 0) := lw_is1 hS
  refine ol_aload_n C dL_law_175 rfl rfl (ol_isq_r _) ?_
  refine lw_arg 1 C hX hbl hbA hL (by omega) rfl rfl rfl dL_law_176 dL_law_177 dL_law_178 dL_law_179 dL_law_180 ?_
  refine lw_arg 2 C hX hbl hbA hL (by omega) rfl rfl rfl dL_law_181 dL_law_182 dL_law_183 dL_law_184 dL_law_185 ?_
  refine ol_callV C (lw_value l D cA hS (xs (i + 1)) (xs (i + 2))) hx.1 hx.2 rfl wd_272 wd_1 wd_269 wd_270 wd_271 mh_X10_value ⟨⟨by decide, by decide⟩, ⟨by show cells + 0 ≤ 600000; omega, by show slots + 0 ≤ 7302250; omega⟩⟩ rfl (by first | exact Nat.le_of_ble_eq_true rfl | simp [ol_rfc, Value.category]) dL_law_186 (lw_k1 (fun z ro1 I1 F1 hm hM => ?_))
  refine ol_aload_n C dL_law_189 rfl rfl (ol_isq_r _) ?_
  refine lw_arg 1 C hX hbl hbA hL (by omega) rfl rfl rfl dL_law_190 dL_law_191 dL_law_192 dL_law_193 dL_law_194 ?_
  refine lw_arg 2 C hX hbl hbA hL (by omega) rfl rfl rfl dL_law_195 dL_law_196 dL_law_197 dL_law_198 dL_law_199 ?_
  refine ol_callV C (hM l D cA) hm.1 hm.2 rfl wd_681 wd_4 wd_678 wd_679 wd_680 mh_X11_value ⟨⟨by decide, by decide⟩, ⟨by show cells + 0 + 0 ≤ 600000; omega, by show slots + 0 + 0 ≤ 7302250; omega⟩⟩ rfl (by first | exact Nat.le_of_ble_eq_true rfl | simp [ol_rfc, Value.category]) dL_law_200 (lw_k2 (fun ro2 I2 F2 hS2 => ?_))
  refine ol_icmp_eq (tgt := 807) C dL_law_203 (by decide) (fun _ => ?_) (fun q => absurd rfl q)
  exact ol_widen (k := cells + 2) (n := slots + 13) (by show cells + 0 + 0 ≤ cells + 2; omega) (by show slots + 0 + 0 ≤ slots + 13; omega) (kk ro2 I2 F2 hS2)
set_option maxRecDepth 100000 in
set_option maxHeartbeats 4000000 in
theorem lwc_2 {p : Program} {l : Launch} {e : Env} {s : State} {m : MethodId} {below : List Frame} {meth : Method} {c : Code} {D : va_G} {cA : Nat → ClassId} {A : Nat → Prop} {Q : State → Prop} {ro : Nat → Nat} {I : Nat → Nat → Int32} {F : Nat → Nat → Option Nat} {cells slots : Nat} {b L : Nat} {xs : Nat → Int32} {ad : Nat → Nat} (C : ol_Cx p s m #[Value.ref b] c cL_law 4 RL D cA A) (hX : va_X b L xs s s.heap) (hbl : b < s.heap.size) (hbA : ¬ A b) {i : Nat} (hi : i + 6 ≤ L) (hL : L < 2 ^ 31) (hS : ol_ST ro I F ad) (hc : cells + 2 ≤ 600000) (hs : slots + 13 ≤ 7302250) (kk : ∀ (ro' : Nat → Nat) (I' : Nat → Nat → Int32) (F' : Nat → Nat → Option Nat), ol_ST ro' I' F' ad → ol_W p l e room_1 s m #[Value.ref b] below meth c D cA A Q 4 ro' I' F' (cells + 2) (slots + 13) 807 [some (.ref b), some (.ref (ad 1)), some (.ref (ad 10)), some (.int (nI i))] []) : ol_W p l e room_1 s m #[Value.ref b] below meth c D cA A Q 4 ro I F cells slots 208 [some (.ref b), some (.ref (ad 1)), some (.ref (ad 10)), some (.int (nI i))] [] := by
  have hx : ol_is ro (ad 1) (.inl 0) := lw_is1 hS
  refine ol_aload_n C dL_law_208 rfl rfl (ol_isq_r _) ?_
  refine lw_arg 1 C hX hbl hbA hL (by omega) rfl rfl rfl dL_law_209 dL_law_210 dL_law_211 dL_law_212 dL_law_213 ?_
  refine lw_arg 2 C hX hbl hbA hL (by omega) rfl rfl rfl dL_law_214 dL_law_215 dL_law_216 dL_law_217 dL_law_218 ?_
  refine ol_callV C (lw_key l D cA hS (xs (i + 1)) (xs (i + 2))) hx.1 hx.2 rfl wd_285 wd_1 wd_282 wd_283 wd_284 mh_X10_key ⟨⟨by decide, by decide⟩, ⟨by show cells + 0 ≤ 600000; omega, by show slots + 0 ≤ 7302250; omega⟩⟩ rfl (by first | exact Nat.le_of_ble_eq_true rfl | simp [ol_rfc, Value.category]) dL_law_219 (lw_k1 (fun z ro1 I1 F1 hm hM => ?_))
  refine ol_aload_n C dL_law_222 rfl rfl (ol_isq_r _) ?_
  refine lw_arg 1 C hX hbl hbA hL (by omega) rfl rfl rfl dL_law_223 dL_law_224 dL_law_225 dL_law_226 dL_law_227 ?_
  refine lw_arg 2 C hX hbl hbA hL (by omega) rfl rfl rfl dL_law_228 dL_law_229 dL_law_230 dL_law_231 dL_law_232 ?_
  refine ol_callV C (hM l D cA) hm.1 hm.2 rfl wd_690 wd_4 wd_687 wd_688 wd_689 mh_X11_key ⟨⟨by decide, by decide⟩, ⟨by show cells + 0 + 0 ≤ 600000; omega, by show slots + 0 + 0 ≤ 7302250; omega⟩⟩ rfl (by first | exact Nat.le_of_ble_eq_true rfl | simp [ol_rfc, Value.category]) dL_law_233 (lw_k2 (fun ro2 I2 F2 hS2 => ?_))
  refine ol_icmp_eq (tgt := 807) C dL_law_236 (by decide) (fun _ => ?_) (fun q => absurd rfl q)
  exact ol_widen (k := cells + 2) (n := slots + 13) (by show cells + 0 + 0 ≤ cells + 2; omega) (by show slots + 0 + 0 ≤ slots + 13; omega) (kk ro2 I2 F2 hS2)
set_option maxRecDepth 100000 in
set_option maxHeartbeats 4000000 in
theorem lwc_3 {p : Program} {l : Launch} {e : Env} {s : State} {m : MethodId} {below : List Frame} {meth : Method} {c : Code} {D : va_G} {cA : Nat → ClassId} {A : Nat → Prop} {Q : State → Prop} {ro : Nat → Nat} {I : Nat → Nat → Int32} {F : Nat → Nat → Option Nat} {cells slots : Nat} {b L : Nat} {xs : Nat → Int32} {ad : Nat → Nat} (C : ol_Cx p s m #[Value.ref b] c cL_law 4 RL D cA A) (hX : va_X b L xs s s.heap) (hbl : b < s.heap.size) (hbA : ¬ A b) {i : Nat} (hi : i + 6 ≤ L) (hL : L < 2 ^ 31) (hS : ol_ST ro I F ad) (hc : cells + 2 ≤ 600000) (hs : slots + 13 ≤ 7302250) (kk : ∀ (ro' : Nat → Nat) (I' : Nat → Nat → Int32) (F' : Nat → Nat → Option Nat), ol_ST ro' I' F' ad → ol_W p l e room_1 s m #[Value.ref b] below meth c D cA A Q 4 ro' I' F' (cells + 2) (slots + 13) 807 [some (.ref b), some (.ref (ad 1)), some (.ref (ad 10)), some (.int (nI i))] []) : ol_W p l e room_1 s m #[Value.ref b] below meth c D cA A Q 4 ro I F cells slots 241 [some (.ref b), some (.ref (ad 1)), some (.ref (ad 10)), some (.int (nI i))] [] := by
  have hx : ol_is ro (ad 1) (.inl 0) := lw_is1 hS
  refine ol_aload_n C dL_law_241 rfl rfl (ol_isq_r _) ?_
  refine lw_arg 1 C hX hbl hbA hL (by omega) rfl rfl rfl dL_law_242 dL_law_243 dL_law_244 dL_law_245 dL_law_246 ?_
  refine lw_arg 2 C hX hbl hbA hL (by omega) rfl rfl rfl dL_law_247 dL_law_248 dL_law_249 dL_law_250 dL_law_251 ?_
  refine ol_callV C (lw_next l D cA hS (xs (i + 1)) (xs (i + 2))) hx.1 hx.2 rfl wd_289 wd_1 wd_286 wd_287 wd_288 mh_X10_next ⟨⟨by decide, by decide⟩, ⟨by show cells + 0 ≤ 600000; omega, by show slots + 0 ≤ 7302250; omega⟩⟩ rfl (by first | exact Nat.le_of_ble_eq_true rfl | simp [ol_rfc, Value.category]) dL_law_252 (lw_k1 (fun z ro1 I1 F1 hm hM => ?_))
  refine ol_aload_n C dL_law_255 rfl rfl (ol_isq_r _) ?_
  refine lw_arg 1 C hX hbl hbA hL (by omega) rfl rfl rfl dL_law_256 dL_law_257 dL_law_258 dL_law_259 dL_law_260 ?_
  refine lw_arg 2 C hX hbl hbA hL (by omega) rfl rfl rfl dL_law_261 dL_law_262 dL_law_263 dL_law_264 dL_law_265 ?_
  refine ol_callV C (hM l D cA) hm.1 hm.2 rfl wd_694 wd_4 wd_691 wd_692 wd_693 mh_X11_next ⟨⟨by decide, by decide⟩, ⟨by show cells + 0 + 0 ≤ 600000; omega, by show slots + 0 + 0 ≤ 7302250; omega⟩⟩ rfl (by first | exact Nat.le_of_ble_eq_true rfl | simp [ol_rfc, Value.category]) dL_law_266 (lw_k2 (fun ro2 I2 F2 hS2 => ?_))
  refine ol_icmp_eq (tgt := 807) C dL_law_269 (by decide) (fun _ => ?_) (fun q => absurd rfl q)
  exact ol_widen (k := cells + 2) (n := slots + 13) (by show cells + 0 + 0 ≤ cells + 2; omega) (by show slots + 0 + 0 ≤ slots + 13; omega) (kk ro2 I2 F2 hS2)
set_option maxRecDepth 100000 in
set_option maxHeartbeats 4000000 in
theorem lwc_4 {p : Program} {l : Launch} {e : Env} {s : State} {m : MethodId} {below : List Frame} {meth : Method} {c : Code} {D : va_G} {cA : Nat → ClassId} {A : Nat → Prop} {Q : State → Prop} {ro : Nat → Nat} {I : Nat → Nat → Int32} {F : Nat → Nat → Option Nat} {cells slots : Nat} {b L : Nat} {xs : Nat → Int32} {ad : Nat → Nat} (C : ol_Cx p s m #[Value.ref b] c cL_law 4 RL D cA A) (hX : va_X b L xs s s.heap) (hbl : b < s.heap.size) (hbA : ¬ A b) {i : Nat} (hi : i + 6 ≤ L) (hL : L < 2 ^ 31) (hS : ol_ST ro I F ad) (hc : cells + 2 ≤ 600000) (hs : slots + 13 ≤ 7302250) (kk : ∀ (ro' : Nat → Nat) (I' : Nat → Nat → Int32) (F' : Nat → Nat → Option Nat), ol_ST ro' I' F' ad → ol_W p l e room_1 s m #[Value.ref b] below meth c D cA A Q 4 ro' I' F' (cells + 2) (slots + 13) 807 [some (.ref b), some (.ref (ad 1)), some (.ref (ad 10)), some (.int (nI i))] []) : ol_W p l e room_1 s m #[Value.ref b] below meth c D cA A Q 4 ro I F cells slots 274 [some (.ref b), some (.ref (ad 1)), some (.ref (ad 10)), some (.int (nI i))] [] := by
  have hx : ol_is ro (ad 1) (.inl 0) := lw_is1 hS
  refine ol_aload_n C dL_law_274 rfl rfl (ol_isq_r _) ?_
  refine lw_arg 1 C hX hbl hbA hL (by omega) rfl rfl rfl dL_law_275 dL_law_276 dL_law_277 dL_law_278 dL_law_279 ?_
  refine lw_arg 2 C hX hbl hbA hL (by omega) rfl rfl rfl dL_law_280 dL_law_281 dL_law_282 dL_law_283 dL_law_284 ?_
  refine lw_arg 3 C hX hbl hbA hL (by omega) rfl rfl rfl dL_law_285 dL_law_286 dL_law_287 dL_law_288 dL_law_289 ?_
  refine ol_callV C (lw_place l D cA hS (xs (i + 1)) (xs (i + 2)) (xs (i + 3))) hx.1 hx.2 rfl wd_297 wd_1 wd_294 wd_295 wd_296 mh_X10_place ⟨⟨by decide, by decide⟩, ⟨by show cells + 0 ≤ 600000; omega, by show slots + 0 ≤ 7302250; omega⟩⟩ rfl (by first | exact Nat.le_of_ble_eq_true rfl | simp [ol_rfc, Value.category]) dL_law_290 (lw_k1 (fun z ro1 I1 F1 hm hM => ?_))
  refine ol_aload_n C dL_law_293 rfl rfl (ol_isq_r _) ?_
  refine lw_arg 1 C hX hbl hbA hL (by omega) rfl rfl rfl dL_law_294 dL_law_295 dL_law_296 dL_law_297 dL_law_298 ?_
  refine lw_arg 2 C hX hbl hbA hL (by omega) rfl rfl rfl dL_law_299 dL_law_300 dL_law_301 dL_law_302 dL_law_303 ?_
  refine lw_arg 3 C hX hbl hbA hL (by omega) rfl rfl rfl dL_law_304 dL_law_305 dL_law_306 dL_law_307 dL_law_308 ?_
  refine ol_callV C (hM l D cA) hm.1 hm.2 rfl wd_698 wd_4 wd_695 wd_696 wd_697 mh_X11_place ⟨⟨by decide, by decide⟩, ⟨by show cells + 0 + 0 ≤ 600000; omega, by show slots + 0 + 0 ≤ 7302250; omega⟩⟩ rfl (by first | exact Nat.le_of_ble_eq_true rfl | simp [ol_rfc, Value.category]) dL_law_309 (lw_k2 (fun ro2 I2 F2 hS2 => ?_))
  refine ol_icmp_eq (tgt := 807) C dL_law_312 (by decide) (fun _ => ?_) (fun q => absurd rfl q)
  exact ol_widen (k := cells + 2) (n := slots + 13) (by show cells + 0 + 0 ≤ cells + 2; omega) (by show slots + 0 + 0 ≤ slots + 13; omega) (kk ro2 I2 F2 hS2)
set_option maxRecDepth 100000 in
set_option maxHeartbeats 4000000 in
theorem lwc_5 {p : Program} {l : Launch} {e : Env} {s : State} {m : MethodId} {below : List Frame} {meth : Method} {c : Code} {D : va_G} {cA : Nat → ClassId} {A : Nat → Prop} {Q : State → Prop} {ro : Nat → Nat} {I : Nat → Nat → Int32} {F : Nat → Nat → Option Nat} {cells slots : Nat} {b L : Nat} {xs : Nat → Int32} {ad : Nat → Nat} (C : ol_Cx p s m #[Value.ref b] c cL_law 4 RL D cA A) (hX : va_X b L xs s s.heap) (hbl : b < s.heap.size) (hbA : ¬ A b) {i : Nat} (hi : i + 6 ≤ L) (hL : L < 2 ^ 31) (hS : ol_ST ro I F ad) (hc : cells + 2 ≤ 600000) (hs : slots + 13 ≤ 7302250) (kk : ∀ (ro' : Nat → Nat) (I' : Nat → Nat → Int32) (F' : Nat → Nat → Option Nat), ol_ST ro' I' F' ad → ol_W p l e room_1 s m #[Value.ref b] below meth c D cA A Q 4 ro' I' F' (cells + 2) (slots + 13) 807 [some (.ref b), some (.ref (ad 1)), some (.ref (ad 10)), some (.int (nI i))] []) : ol_W p l e room_1 s m #[Value.ref b] below meth c D cA A Q 4 ro I F cells slots 317 [some (.ref b), some (.ref (ad 1)), some (.ref (ad 10)), some (.int (nI i))] [] := by
  have hx : ol_is ro (ad 1) (.inl 0) := lw_is1 hS
  refine ol_aload_n C dL_law_317 rfl rfl (ol_isq_r _) ?_
  refine lw_arg 1 C hX hbl hbA hL (by omega) rfl rfl rfl dL_law_318 dL_law_319 dL_law_320 dL_law_321 dL_law_322 ?_
  refine lw_arg 2 C hX hbl hbA hL (by omega) rfl rfl rfl dL_law_323 dL_law_324 dL_law_325 dL_law_326 dL_law_327 ?_
  refine lw_bool (t1 := 335) (t2 := 336) C dL_law_328 (by decide) dL_law_331 dL_law_332 (by decide) dL_law_335 rfl ?_
  refine ol_callV C (lw_hold l D cA hS (xs (i + 1)) (ol_p (¬ xs (i + 2) = 0)) (lw_p01 _)) hx.1 hx.2 rfl wd_304 wd_1 wd_301 wd_302 wd_303 mh_X10_hold ⟨⟨by decide, by decide⟩, ⟨by show cells + 0 ≤ 600000; omega, by show slots + 0 ≤ 7302250; omega⟩⟩ rfl (by first | exact Nat.le_of_ble_eq_true rfl | simp [ol_rfc, Value.category]) dL_law_336 (lw_k1 (fun z ro1 I1 F1 hm hM => ?_))
  refine ol_aload_n C dL_law_339 rfl rfl (ol_isq_r _) ?_
  refine lw_arg 1 C hX hbl hbA hL (by omega) rfl rfl rfl dL_law_340 dL_law_341 dL_law_342 dL_law_343 dL_law_344 ?_
  refine lw_arg 2 C hX hbl hbA hL (by omega) rfl rfl rfl dL_law_345 dL_law_346 dL_law_347 dL_law_348 dL_law_349 ?_
  refine lw_bool (t1 := 357) (t2 := 358) C dL_law_350 (by decide) dL_law_353 dL_law_354 (by decide) dL_law_357 rfl ?_
  refine ol_callV C (hM l D cA) hm.1 hm.2 rfl wd_702 wd_4 wd_699 wd_700 wd_701 mh_X11_hold ⟨⟨by decide, by decide⟩, ⟨by show cells + 0 + 0 ≤ 600000; omega, by show slots + 0 + 0 ≤ 7302250; omega⟩⟩ rfl (by first | exact Nat.le_of_ble_eq_true rfl | simp [ol_rfc, Value.category]) dL_law_358 (lw_k2 (fun ro2 I2 F2 hS2 => ?_))
  refine ol_icmp_eq (tgt := 807) C dL_law_361 (by decide) (fun _ => ?_) (fun q => absurd rfl q)
  exact ol_widen (k := cells + 2) (n := slots + 13) (by show cells + 0 + 0 ≤ cells + 2; omega) (by show slots + 0 + 0 ≤ slots + 13; omega) (kk ro2 I2 F2 hS2)
set_option maxRecDepth 100000 in
set_option maxHeartbeats 4000000 in
theorem lwc_6 {p : Program} {l : Launch} {e : Env} {s : State} {m : MethodId} {below : List Frame} {meth : Method} {c : Code} {D : va_G} {cA : Nat → ClassId} {A : Nat → Prop} {Q : State → Prop} {ro : Nat → Nat} {I : Nat → Nat → Int32} {F : Nat → Nat → Option Nat} {cells slots : Nat} {b L : Nat} {xs : Nat → Int32} {ad : Nat → Nat} (C : ol_Cx p s m #[Value.ref b] c cL_law 4 RL D cA A) (hX : va_X b L xs s s.heap) (hbl : b < s.heap.size) (hbA : ¬ A b) {i : Nat} (hi : i + 6 ≤ L) (hL : L < 2 ^ 31) (hS : ol_ST ro I F ad) (hc : cells + 2 ≤ 600000) (hs : slots + 13 ≤ 7302250) (kk : ∀ (ro' : Nat → Nat) (I' : Nat → Nat → Int32) (F' : Nat → Nat → Option Nat), ol_ST ro' I' F' ad → ol_W p l e room_1 s m #[Value.ref b] below meth c D cA A Q 4 ro' I' F' (cells + 2) (slots + 13) 807 [some (.ref b), some (.ref (ad 1)), some (.ref (ad 10)), some (.int (nI i))] []) : ol_W p l e room_1 s m #[Value.ref b] below meth c D cA A Q 4 ro I F cells slots 366 [some (.ref b), some (.ref (ad 1)), some (.ref (ad 10)), some (.int (nI i))] [] := by
  have hx : ol_is ro (ad 1) (.inl 0) := lw_is1 hS
  refine ol_aload_n C dL_law_366 rfl rfl (ol_isq_r _) ?_
  refine lw_arg 1 C hX hbl hbA hL (by omega) rfl rfl rfl dL_law_367 dL_law_368 dL_law_369 dL_law_370 dL_law_371 ?_
  refine lw_arg 2 C hX hbl hbA hL (by omega) rfl rfl rfl dL_law_372 dL_law_373 dL_law_374 dL_law_375 dL_law_376 ?_
  refine lw_arg 3 C hX hbl hbA hL (by omega) rfl rfl rfl dL_law_377 dL_law_378 dL_law_379 dL_law_380 dL_law_381 ?_
  refine lw_arg 4 C hX hbl hbA hL (by omega) rfl rfl rfl dL_law_382 dL_law_383 dL_law_384 dL_law_385 dL_law_386 ?_
  refine lw_arg 5 C hX hbl hbA hL (by omega) rfl rfl rfl dL_law_387 dL_law_388 dL_law_389 dL_law_390 dL_law_391 ?_
  refine ol_callV C (lw_copy l D cA hS (xs (i + 1)) (xs (i + 2)) (xs (i + 3)) (xs (i + 4)) (xs (i + 5))) hx.1 hx.2 rfl wd_311 wd_1 wd_308 wd_309 wd_310 mh_X10_copy ⟨⟨by decide, by decide⟩, ⟨by show cells + 0 ≤ 600000; omega, by show slots + 0 ≤ 7302250; omega⟩⟩ rfl (by first | exact Nat.le_of_ble_eq_true rfl | simp [ol_rfc, Value.category]) dL_law_392 (lw_k1 (fun z ro1 I1 F1 hm hM => ?_))
  refine ol_aload_n C dL_law_395 rfl rfl (ol_isq_r _) ?_
  refine lw_arg 1 C hX hbl hbA hL (by omega) rfl rfl rfl dL_law_396 dL_law_397 dL_law_398 dL_law_399 dL_law_400 ?_
  refine lw_arg 2 C hX hbl hbA hL (by omega) rfl rfl rfl dL_law_401 dL_law_402 dL_law_403 dL_law_404 dL_law_405 ?_
  refine lw_arg 3 C hX hbl hbA hL (by omega) rfl rfl rfl dL_law_406 dL_law_407 dL_law_408 dL_law_409 dL_law_410 ?_
  refine lw_arg 4 C hX hbl hbA hL (by omega) rfl rfl rfl dL_law_411 dL_law_412 dL_law_413 dL_law_414 dL_law_415 ?_
  refine lw_arg 5 C hX hbl hbA hL (by omega) rfl rfl rfl dL_law_416 dL_law_417 dL_law_418 dL_law_419 dL_law_420 ?_
  refine ol_callV C (hM l D cA) hm.1 hm.2 rfl wd_706 wd_4 wd_703 wd_704 wd_705 mh_X11_copy ⟨⟨by decide, by decide⟩, ⟨by show cells + 0 + 0 ≤ 600000; omega, by show slots + 0 + 0 ≤ 7302250; omega⟩⟩ rfl (by first | exact Nat.le_of_ble_eq_true rfl | simp [ol_rfc, Value.category]) dL_law_421 (lw_k2 (fun ro2 I2 F2 hS2 => ?_))
  refine ol_icmp_eq (tgt := 807) C dL_law_424 (by decide) (fun _ => ?_) (fun q => absurd rfl q)
  exact ol_widen (k := cells + 2) (n := slots + 13) (by show cells + 0 + 0 ≤ cells + 2; omega) (by show slots + 0 + 0 ≤ slots + 13; omega) (kk ro2 I2 F2 hS2)
set_option maxRecDepth 100000 in
set_option maxHeartbeats 4000000 in
theorem lwc_7 {p : Program} {l : Launch} {e : Env} {s : State} {m : MethodId} {below : List Frame} {meth : Method} {c : Code} {D : va_G} {cA : Nat → ClassId} {A : Nat → Prop} {Q : State → Prop} {ro : Nat → Nat} {I : Nat → Nat → Int32} {F : Nat → Nat → Option Nat} {cells slots : Nat} {b L : Nat} {xs : Nat → Int32} {ad : Nat → Nat} (C : ol_Cx p s m #[Value.ref b] c cL_law 4 RL D cA A) (hX : va_X b L xs s s.heap) (hbl : b < s.heap.size) (hbA : ¬ A b) {i : Nat} (hi : i + 6 ≤ L) (hL : L < 2 ^ 31) (hS : ol_ST ro I F ad) (hc : cells + 2 ≤ 600000) (hs : slots + 13 ≤ 7302250) (kk : ∀ (ro' : Nat → Nat) (I' : Nat → Nat → Int32) (F' : Nat → Nat → Option Nat), ol_ST ro' I' F' ad → ol_W p l e room_1 s m #[Value.ref b] below meth c D cA A Q 4 ro' I' F' (cells + 2) (slots + 13) 807 [some (.ref b), some (.ref (ad 1)), some (.ref (ad 10)), some (.int (nI i))] []) : ol_W p l e room_1 s m #[Value.ref b] below meth c D cA A Q 4 ro I F cells slots 429 [some (.ref b), some (.ref (ad 1)), some (.ref (ad 10)), some (.int (nI i))] [] := by
  have hx : ol_is ro (ad 1) (.inl 0) := lw_is1 hS
  refine ol_aload_n C dL_law_429 rfl rfl (ol_isq_r _) ?_
  refine lw_arg 1 C hX hbl hbA hL (by omega) rfl rfl rfl dL_law_430 dL_law_431 dL_law_432 dL_law_433 dL_law_434 ?_
  refine lw_arg 2 C hX hbl hbA hL (by omega) rfl rfl rfl dL_law_435 dL_law_436 dL_law_437 dL_law_438 dL_law_439 ?_
  refine lw_bool (t1 := 447) (t2 := 448) C dL_law_440 (by decide) dL_law_443 dL_law_444 (by decide) dL_law_447 rfl ?_
  refine ol_callV C (lw_load l D cA hS (xs (i + 1)) (ol_p (¬ xs (i + 2) = 0))) hx.1 hx.2 rfl wd_326 wd_1 wd_323 wd_324 wd_325 mh_X10_load ⟨⟨by decide, by decide⟩, ⟨by show cells + 0 ≤ 600000; omega, by show slots + 0 ≤ 7302250; omega⟩⟩ rfl (by first | exact Nat.le_of_ble_eq_true rfl | simp [ol_rfc, Value.category]) dL_law_448 (lw_k1 (fun z ro1 I1 F1 hm hM => ?_))
  refine ol_aload_n C dL_law_451 rfl rfl (ol_isq_r _) ?_
  refine lw_arg 1 C hX hbl hbA hL (by omega) rfl rfl rfl dL_law_452 dL_law_453 dL_law_454 dL_law_455 dL_law_456 ?_
  refine lw_arg 2 C hX hbl hbA hL (by omega) rfl rfl rfl dL_law_457 dL_law_458 dL_law_459 dL_law_460 dL_law_461 ?_
  refine lw_bool (t1 := 469) (t2 := 470) C dL_law_462 (by decide) dL_law_465 dL_law_466 (by decide) dL_law_469 rfl ?_
  refine ol_callV C (hM l D cA) hm.1 hm.2 rfl wd_716 wd_4 wd_713 wd_714 wd_715 mh_X11_load ⟨⟨by decide, by decide⟩, ⟨by show cells + 0 + 0 ≤ 600000; omega, by show slots + 0 + 0 ≤ 7302250; omega⟩⟩ rfl (by first | exact Nat.le_of_ble_eq_true rfl | simp [ol_rfc, Value.category]) dL_law_470 (lw_k2 (fun ro2 I2 F2 hS2 => ?_))
  refine ol_icmp_eq (tgt := 807) C dL_law_473 (by decide) (fun _ => ?_) (fun q => absurd rfl q)
  exact ol_widen (k := cells + 2) (n := slots + 13) (by show cells + 0 + 0 ≤ cells + 2; omega) (by show slots + 0 + 0 ≤ slots + 13; omega) (kk ro2 I2 F2 hS2)
set_option maxRecDepth 100000 in
set_option maxHeartbeats 4000000 in
theorem lwc_8 {p : Program} {l : Launch} {e : Env} {s : State} {m : MethodId} {below : List Frame} {meth : Method} {c : Code} {D : va_G} {cA : Nat → ClassId} {A : Nat → Prop} {Q : State → Prop} {ro : Nat → Nat} {I : Nat → Nat → Int32} {F : Nat → Nat → Option Nat} {cells slots : Nat} {b L : Nat} {xs : Nat → Int32} {ad : Nat → Nat} (C : ol_Cx p s m #[Value.ref b] c cL_law 4 RL D cA A) (hX : va_X b L xs s s.heap) (hbl : b < s.heap.size) (hbA : ¬ A b) {i : Nat} (hi : i + 6 ≤ L) (hL : L < 2 ^ 31) (hS : ol_ST ro I F ad) (hc : cells + 2 ≤ 600000) (hs : slots + 13 ≤ 7302250) (kk : ∀ (ro' : Nat → Nat) (I' : Nat → Nat → Int32) (F' : Nat → Nat → Option Nat), ol_ST ro' I' F' ad → ol_W p l e room_1 s m #[Value.ref b] below meth c D cA A Q 4 ro' I' F' (cells + 2) (slots + 13) 807 [some (.ref b), some (.ref (ad 1)), some (.ref (ad 10)), some (.int (nI i))] []) : ol_W p l e room_1 s m #[Value.ref b] below meth c D cA A Q 4 ro I F cells slots 478 [some (.ref b), some (.ref (ad 1)), some (.ref (ad 10)), some (.int (nI i))] [] := by
  have hx : ol_is ro (ad 1) (.inl 0) := lw_is1 hS
  refine ol_aload_n C dL_law_478 rfl rfl (ol_isq_r _) ?_
  refine lw_arg 1 C hX hbl hbA hL (by omega) rfl rfl rfl dL_law_479 dL_law_480 dL_law_481 dL_law_482 dL_law_483 ?_
  refine ol_callV C (lw_refused l D cA hS (xs (i + 1))) hx.1 hx.2 rfl wd_498 wd_1 wd_495 wd_496 wd_497 mh_X10_refused ⟨⟨by decide, by decide⟩, ⟨by show cells + 0 ≤ 600000; omega, by show slots + 0 ≤ 7302250; omega⟩⟩ rfl (by first | exact Nat.le_of_ble_eq_true rfl | simp [ol_rfc, Value.category]) dL_law_484 (lw_k1 (fun z ro1 I1 F1 hm hM => ?_))
  refine ol_aload_n C dL_law_487 rfl rfl (ol_isq_r _) ?_
  refine lw_arg 1 C hX hbl hbA hL (by omega) rfl rfl rfl dL_law_488 dL_law_489 dL_law_490 dL_law_491 dL_law_492 ?_
  refine ol_callV C (hM l D cA) hm.1 hm.2 rfl wd_754 wd_4 wd_751 wd_752 wd_753 mh_X11_refused ⟨⟨by decide, by decide⟩, ⟨by show cells + 0 + 0 ≤ 600000; omega, by show slots + 0 + 0 ≤ 7302250; omega⟩⟩ rfl (by first | exact Nat.le_of_ble_eq_true rfl | simp [ol_rfc, Value.category]) dL_law_493 (lw_k2 (fun ro2 I2 F2 hS2 => ?_))
  refine ol_icmp_eq (tgt := 807) C dL_law_496 (by decide) (fun _ => ?_) (fun q => absurd rfl q)
  exact ol_widen (k := cells + 2) (n := slots + 13) (by show cells + 0 + 0 ≤ cells + 2; omega) (by show slots + 0 + 0 ≤ slots + 13; omega) (kk ro2 I2 F2 hS2)
set_option maxRecDepth 100000 in
set_option maxHeartbeats 4000000 in
theorem lwc_9 {p : Program} {l : Launch} {e : Env} {s : State} {m : MethodId} {below : List Frame} {meth : Method} {c : Code} {D : va_G} {cA : Nat → ClassId} {A : Nat → Prop} {Q : State → Prop} {ro : Nat → Nat} {I : Nat → Nat → Int32} {F : Nat → Nat → Option Nat} {cells slots : Nat} {b L : Nat} {xs : Nat → Int32} {ad : Nat → Nat} (C : ol_Cx p s m #[Value.ref b] c cL_law 4 RL D cA A) (hX : va_X b L xs s s.heap) (hbl : b < s.heap.size) (hbA : ¬ A b) {i : Nat} (hi : i + 6 ≤ L) (hL : L < 2 ^ 31) (hS : ol_ST ro I F ad) (hc : cells + 2 ≤ 600000) (hs : slots + 13 ≤ 7302250) (kk : ∀ (ro' : Nat → Nat) (I' : Nat → Nat → Int32) (F' : Nat → Nat → Option Nat), ol_ST ro' I' F' ad → ol_W p l e room_1 s m #[Value.ref b] below meth c D cA A Q 4 ro' I' F' (cells + 2) (slots + 13) 807 [some (.ref b), some (.ref (ad 1)), some (.ref (ad 10)), some (.int (nI i))] []) : ol_W p l e room_1 s m #[Value.ref b] below meth c D cA A Q 4 ro I F cells slots 501 [some (.ref b), some (.ref (ad 1)), some (.ref (ad 10)), some (.int (nI i))] [] := by
  have hx : ol_is ro (ad 1) (.inl 0) := lw_is1 hS
  refine ol_aload_n C dL_law_501 rfl rfl (ol_isq_r _) ?_
  refine lw_arg 1 C hX hbl hbA hL (by omega) rfl rfl rfl dL_law_502 dL_law_503 dL_law_504 dL_law_505 dL_law_506 ?_
  refine ol_callV C (lw_node l D cA hS (xs (i + 1))) hx.1 hx.2 rfl wd_502 wd_1 wd_499 wd_500 wd_501 mh_X10_node ⟨⟨by decide, by decide⟩, ⟨by show cells + 0 ≤ 600000; omega, by show slots + 0 ≤ 7302250; omega⟩⟩ rfl (by first | exact Nat.le_of_ble_eq_true rfl | simp [ol_rfc, Value.category]) dL_law_507 (lw_k1 (fun z ro1 I1 F1 hm hM => ?_))
  refine ol_aload_n C dL_law_510 rfl rfl (ol_isq_r _) ?_
  refine lw_arg 1 C hX hbl hbA hL (by omega) rfl rfl rfl dL_law_511 dL_law_512 dL_law_513 dL_law_514 dL_law_515 ?_
  refine ol_callV C (hM l D cA) hm.1 hm.2 rfl wd_758 wd_4 wd_755 wd_756 wd_757 mh_X11_node ⟨⟨by decide, by decide⟩, ⟨by show cells + 0 + 0 ≤ 600000; omega, by show slots + 0 + 0 ≤ 7302250; omega⟩⟩ rfl (by first | exact Nat.le_of_ble_eq_true rfl | simp [ol_rfc, Value.category]) dL_law_516 (lw_k2 (fun ro2 I2 F2 hS2 => ?_))
  refine ol_icmp_eq (tgt := 807) C dL_law_519 (by decide) (fun _ => ?_) (fun q => absurd rfl q)
  exact ol_widen (k := cells + 2) (n := slots + 13) (by show cells + 0 + 0 ≤ cells + 2; omega) (by show slots + 0 + 0 ≤ slots + 13; omega) (kk ro2 I2 F2 hS2)
set_option maxRecDepth 100000 in
set_option maxHeartbeats 4000000 in
theorem lwc_10 {p : Program} {l : Launch} {e : Env} {s : State} {m : MethodId} {below : List Frame} {meth : Method} {c : Code} {D : va_G} {cA : Nat → ClassId} {A : Nat → Prop} {Q : State → Prop} {ro : Nat → Nat} {I : Nat → Nat → Int32} {F : Nat → Nat → Option Nat} {cells slots : Nat} {b L : Nat} {xs : Nat → Int32} {ad : Nat → Nat} (C : ol_Cx p s m #[Value.ref b] c cL_law 4 RL D cA A) (hX : va_X b L xs s s.heap) (hbl : b < s.heap.size) (hbA : ¬ A b) {i : Nat} (hi : i + 6 ≤ L) (hL : L < 2 ^ 31) (hS : ol_ST ro I F ad) (hc : cells + 2 ≤ 600000) (hs : slots + 13 ≤ 7302250) (kk : ∀ (ro' : Nat → Nat) (I' : Nat → Nat → Int32) (F' : Nat → Nat → Option Nat), ol_ST ro' I' F' ad → ol_W p l e room_1 s m #[Value.ref b] below meth c D cA A Q 4 ro' I' F' (cells + 2) (slots + 13) 807 [some (.ref b), some (.ref (ad 1)), some (.ref (ad 10)), some (.int (nI i))] []) : ol_W p l e room_1 s m #[Value.ref b] below meth c D cA A Q 4 ro I F cells slots 524 [some (.ref b), some (.ref (ad 1)), some (.ref (ad 10)), some (.int (nI i))] [] := by
  have hx : ol_is ro (ad 1) (.inl 0) := lw_is1 hS
  refine ol_aload_n C dL_law_524 rfl rfl (ol_isq_r _) ?_
  refine lw_arg 1 C hX hbl hbA hL (by omega) rfl rfl rfl dL_law_525 dL_law_526 dL_law_527 dL_law_528 dL_law_529 ?_
  refine ol_callV C (lw_of l D cA hS (xs (i + 1))) hx.1 hx.2 rfl wd_506 wd_1 wd_503 wd_504 wd_505 mh_X10_of ⟨⟨by decide, by decide⟩, ⟨by show cells + 0 ≤ 600000; omega, by show slots + 0 ≤ 7302250; omega⟩⟩ rfl (by first | exact Nat.le_of_ble_eq_true rfl | simp [ol_rfc, Value.category]) dL_law_530 (lw_k1 (fun z ro1 I1 F1 hm hM => ?_))
  refine ol_aload_n C dL_law_533 rfl rfl (ol_isq_r _) ?_
  refine lw_arg 1 C hX hbl hbA hL (by omega) rfl rfl rfl dL_law_534 dL_law_535 dL_law_536 dL_law_537 dL_law_538 ?_
  refine ol_callV C (hM l D cA) hm.1 hm.2 rfl wd_762 wd_4 wd_759 wd_760 wd_761 mh_X11_of ⟨⟨by decide, by decide⟩, ⟨by show cells + 0 + 0 ≤ 600000; omega, by show slots + 0 + 0 ≤ 7302250; omega⟩⟩ rfl (by first | exact Nat.le_of_ble_eq_true rfl | simp [ol_rfc, Value.category]) dL_law_539 (lw_k2 (fun ro2 I2 F2 hS2 => ?_))
  refine ol_icmp_eq (tgt := 807) C dL_law_542 (by decide) (fun _ => ?_) (fun q => absurd rfl q)
  exact ol_widen (k := cells + 2) (n := slots + 13) (by show cells + 0 + 0 ≤ cells + 2; omega) (by show slots + 0 + 0 ≤ slots + 13; omega) (kk ro2 I2 F2 hS2)
set_option maxRecDepth 100000 in
set_option maxHeartbeats 4000000 in
theorem lwc_11 {p : Program} {l : Launch} {e : Env} {s : State} {m : MethodId} {below : List Frame} {meth : Method} {c : Code} {D : va_G} {cA : Nat → ClassId} {A : Nat → Prop} {Q : State → Prop} {ro : Nat → Nat} {I : Nat → Nat → Int32} {F : Nat → Nat → Option Nat} {cells slots : Nat} {b L : Nat} {xs : Nat → Int32} {ad : Nat → Nat} (C : ol_Cx p s m #[Value.ref b] c cL_law 4 RL D cA A) (hX : va_X b L xs s s.heap) (hbl : b < s.heap.size) (hbA : ¬ A b) {i : Nat} (hi : i + 6 ≤ L) (hL : L < 2 ^ 31) (hS : ol_ST ro I F ad) (hc : cells + 2 ≤ 600000) (hs : slots + 13 ≤ 7302250) (kk : ∀ (ro' : Nat → Nat) (I' : Nat → Nat → Int32) (F' : Nat → Nat → Option Nat), ol_ST ro' I' F' ad → ol_W p l e room_1 s m #[Value.ref b] below meth c D cA A Q 4 ro' I' F' (cells + 2) (slots + 13) 807 [some (.ref b), some (.ref (ad 1)), some (.ref (ad 10)), some (.int (nI i))] []) : ol_W p l e room_1 s m #[Value.ref b] below meth c D cA A Q 4 ro I F cells slots 547 [some (.ref b), some (.ref (ad 1)), some (.ref (ad 10)), some (.int (nI i))] [] := by
  have hx : ol_is ro (ad 1) (.inl 0) := lw_is1 hS
  refine ol_aload_n C dL_law_547 rfl rfl (ol_isq_r _) ?_
  refine lw_arg 1 C hX hbl hbA hL (by omega) rfl rfl rfl dL_law_548 dL_law_549 dL_law_550 dL_law_551 dL_law_552 ?_
  refine ol_callV C (lw_column l D cA hS (xs (i + 1))) hx.1 hx.2 rfl wd_514 wd_1 wd_511 wd_512 wd_513 mh_X10_column ⟨⟨by decide, by decide⟩, ⟨by show cells + 0 ≤ 600000; omega, by show slots + 0 ≤ 7302250; omega⟩⟩ rfl (by first | exact Nat.le_of_ble_eq_true rfl | simp [ol_rfc, Value.category]) dL_law_553 (lw_k1 (fun z ro1 I1 F1 hm hM => ?_))
  refine ol_aload_n C dL_law_556 rfl rfl (ol_isq_r _) ?_
  refine lw_arg 1 C hX hbl hbA hL (by omega) rfl rfl rfl dL_law_557 dL_law_558 dL_law_559 dL_law_560 dL_law_561 ?_
  refine ol_callV C (hM l D cA) hm.1 hm.2 rfl wd_770 wd_4 wd_767 wd_768 wd_769 mh_X11_column ⟨⟨by decide, by decide⟩, ⟨by show cells + 0 + 0 ≤ 600000; omega, by show slots + 0 + 0 ≤ 7302250; omega⟩⟩ rfl (by first | exact Nat.le_of_ble_eq_true rfl | simp [ol_rfc, Value.category]) dL_law_562 (lw_k2 (fun ro2 I2 F2 hS2 => ?_))
  refine ol_icmp_eq (tgt := 807) C dL_law_565 (by decide) (fun _ => ?_) (fun q => absurd rfl q)
  exact ol_widen (k := cells + 2) (n := slots + 13) (by show cells + 0 + 0 ≤ cells + 2; omega) (by show slots + 0 + 0 ≤ slots + 13; omega) (kk ro2 I2 F2 hS2)
set_option maxRecDepth 100000 in
set_option maxHeartbeats 4000000 in
theorem lwc_12 {p : Program} {l : Launch} {e : Env} {s : State} {m : MethodId} {below : List Frame} {meth : Method} {c : Code} {D : va_G} {cA : Nat → ClassId} {A : Nat → Prop} {Q : State → Prop} {ro : Nat → Nat} {I : Nat → Nat → Int32} {F : Nat → Nat → Option Nat} {cells slots : Nat} {b L : Nat} {xs : Nat → Int32} {ad : Nat → Nat} (C : ol_Cx p s m #[Value.ref b] c cL_law 4 RL D cA A) (hX : va_X b L xs s s.heap) (hbl : b < s.heap.size) (hbA : ¬ A b) {i : Nat} (hi : i + 6 ≤ L) (hL : L < 2 ^ 31) (hS : ol_ST ro I F ad) (hc : cells + 2 ≤ 600000) (hs : slots + 13 ≤ 7302250) (kk : ∀ (ro' : Nat → Nat) (I' : Nat → Nat → Int32) (F' : Nat → Nat → Option Nat), ol_ST ro' I' F' ad → ol_W p l e room_1 s m #[Value.ref b] below meth c D cA A Q 4 ro' I' F' (cells + 2) (slots + 13) 807 [some (.ref b), some (.ref (ad 1)), some (.ref (ad 10)), some (.int (nI i))] []) : ol_W p l e room_1 s m #[Value.ref b] below meth c D cA A Q 4 ro I F cells slots 570 [some (.ref b), some (.ref (ad 1)), some (.ref (ad 10)), some (.int (nI i))] [] := by
  have hx : ol_is ro (ad 1) (.inl 0) := lw_is1 hS
  refine ol_aload_n C dL_law_570 rfl rfl (ol_isq_r _) ?_
  refine lw_arg 1 C hX hbl hbA hL (by omega) rfl rfl rfl dL_law_571 dL_law_572 dL_law_573 dL_law_574 dL_law_575 ?_
  refine ol_callV C (lw_arcs l D cA hS (xs (i + 1))) hx.1 hx.2 rfl wd_518 wd_1 wd_515 wd_516 wd_517 mh_X10_arcs ⟨⟨by decide, by decide⟩, ⟨by show cells + 0 ≤ 600000; omega, by show slots + 0 ≤ 7302250; omega⟩⟩ rfl (by first | exact Nat.le_of_ble_eq_true rfl | simp [ol_rfc, Value.category]) dL_law_576 (lw_k1 (fun z ro1 I1 F1 hm hM => ?_))
  refine ol_aload_n C dL_law_579 rfl rfl (ol_isq_r _) ?_
  refine lw_arg 1 C hX hbl hbA hL (by omega) rfl rfl rfl dL_law_580 dL_law_581 dL_law_582 dL_law_583 dL_law_584 ?_
  refine ol_callV C (hM l D cA) hm.1 hm.2 rfl wd_774 wd_4 wd_771 wd_772 wd_773 mh_X11_arcs ⟨⟨by decide, by decide⟩, ⟨by show cells + 0 + 0 ≤ 600000; omega, by show slots + 0 + 0 ≤ 7302250; omega⟩⟩ rfl (by first | exact Nat.le_of_ble_eq_true rfl | simp [ol_rfc, Value.category]) dL_law_585 (lw_k2 (fun ro2 I2 F2 hS2 => ?_))
  refine ol_icmp_eq (tgt := 807) C dL_law_588 (by decide) (fun _ => ?_) (fun q => absurd rfl q)
  exact ol_widen (k := cells + 2) (n := slots + 13) (by show cells + 0 + 0 ≤ cells + 2; omega) (by show slots + 0 + 0 ≤ slots + 13; omega) (kk ro2 I2 F2 hS2)
set_option maxRecDepth 100000 in
set_option maxHeartbeats 4000000 in
theorem lwc_13 {p : Program} {l : Launch} {e : Env} {s : State} {m : MethodId} {below : List Frame} {meth : Method} {c : Code} {D : va_G} {cA : Nat → ClassId} {A : Nat → Prop} {Q : State → Prop} {ro : Nat → Nat} {I : Nat → Nat → Int32} {F : Nat → Nat → Option Nat} {cells slots : Nat} {b L : Nat} {xs : Nat → Int32} {ad : Nat → Nat} (C : ol_Cx p s m #[Value.ref b] c cL_law 4 RL D cA A) (hX : va_X b L xs s s.heap) (hbl : b < s.heap.size) (hbA : ¬ A b) {i : Nat} (hi : i + 6 ≤ L) (hL : L < 2 ^ 31) (hS : ol_ST ro I F ad) (hc : cells + 2 ≤ 600000) (hs : slots + 13 ≤ 7302250) (kk : ∀ (ro' : Nat → Nat) (I' : Nat → Nat → Int32) (F' : Nat → Nat → Option Nat), ol_ST ro' I' F' ad → ol_W p l e room_1 s m #[Value.ref b] below meth c D cA A Q 4 ro' I' F' (cells + 2) (slots + 13) 807 [some (.ref b), some (.ref (ad 1)), some (.ref (ad 10)), some (.int (nI i))] []) : ol_W p l e room_1 s m #[Value.ref b] below meth c D cA A Q 4 ro I F cells slots 593 [some (.ref b), some (.ref (ad 1)), some (.ref (ad 10)), some (.int (nI i))] [] := by
  have hx : ol_is ro (ad 1) (.inl 0) := lw_is1 hS
  refine ol_aload_n C dL_law_593 rfl rfl (ol_isq_r _) ?_
  refine lw_arg 1 C hX hbl hbA hL (by omega) rfl rfl rfl dL_law_594 dL_law_595 dL_law_596 dL_law_597 dL_law_598 ?_
  refine lw_arg 2 C hX hbl hbA hL (by omega) rfl rfl rfl dL_law_599 dL_law_600 dL_law_601 dL_law_602 dL_law_603 ?_
  refine lw_arg 3 C hX hbl hbA hL (by omega) rfl rfl rfl dL_law_604 dL_law_605 dL_law_606 dL_law_607 dL_law_608 ?_
  refine ol_callV C (lw_arc l D cA hS (xs (i + 1)) (xs (i + 2)) (xs (i + 3))) hx.1 hx.2 rfl wd_526 wd_1 wd_523 wd_524 wd_525 mh_X10_arc ⟨⟨by decide, by decide⟩, ⟨by show cells + 0 ≤ 600000; omega, by show slots + 0 ≤ 7302250; omega⟩⟩ rfl (by first | exact Nat.le_of_ble_eq_true rfl | simp [ol_rfc, Value.category]) dL_law_609 (lw_k1 (fun z ro1 I1 F1 hm hM => ?_))
  refine ol_aload_n C dL_law_612 rfl rfl (ol_isq_r _) ?_
  refine lw_arg 1 C hX hbl hbA hL (by omega) rfl rfl rfl dL_law_613 dL_law_614 dL_law_615 dL_law_616 dL_law_617 ?_
  refine lw_arg 2 C hX hbl hbA hL (by omega) rfl rfl rfl dL_law_618 dL_law_619 dL_law_620 dL_law_621 dL_law_622 ?_
  refine lw_arg 3 C hX hbl hbA hL (by omega) rfl rfl rfl dL_law_623 dL_law_624 dL_law_625 dL_law_626 dL_law_627 ?_
  refine ol_callV C (hM l D cA) hm.1 hm.2 rfl wd_778 wd_4 wd_775 wd_776 wd_777 mh_X11_arc ⟨⟨by decide, by decide⟩, ⟨by show cells + 0 + 0 ≤ 600000; omega, by show slots + 0 + 0 ≤ 7302250; omega⟩⟩ rfl (by first | exact Nat.le_of_ble_eq_true rfl | simp [ol_rfc, Value.category]) dL_law_628 (lw_k2 (fun ro2 I2 F2 hS2 => ?_))
  refine ol_icmp_eq (tgt := 807) C dL_law_631 (by decide) (fun _ => ?_) (fun q => absurd rfl q)
  exact ol_widen (k := cells + 2) (n := slots + 13) (by show cells + 0 + 0 ≤ cells + 2; omega) (by show slots + 0 + 0 ≤ slots + 13; omega) (kk ro2 I2 F2 hS2)
set_option maxRecDepth 100000 in
set_option maxHeartbeats 4000000 in
theorem lwc_14 {p : Program} {l : Launch} {e : Env} {s : State} {m : MethodId} {below : List Frame} {meth : Method} {c : Code} {D : va_G} {cA : Nat → ClassId} {A : Nat → Prop} {Q : State → Prop} {ro : Nat → Nat} {I : Nat → Nat → Int32} {F : Nat → Nat → Option Nat} {cells slots : Nat} {b L : Nat} {xs : Nat → Int32} {ad : Nat → Nat} (C : ol_Cx p s m #[Value.ref b] c cL_law 4 RL D cA A) (hX : va_X b L xs s s.heap) (hbl : b < s.heap.size) (hbA : ¬ A b) {i : Nat} (hi : i + 6 ≤ L) (hL : L < 2 ^ 31) (hS : ol_ST ro I F ad) (hc : cells + 2 ≤ 600000) (hs : slots + 13 ≤ 7302250) (kk : ∀ (ro' : Nat → Nat) (I' : Nat → Nat → Int32) (F' : Nat → Nat → Option Nat), ol_ST ro' I' F' ad → ol_W p l e room_1 s m #[Value.ref b] below meth c D cA A Q 4 ro' I' F' (cells + 2) (slots + 13) 807 [some (.ref b), some (.ref (ad 1)), some (.ref (ad 10)), some (.int (nI i))] []) : ol_W p l e room_1 s m #[Value.ref b] below meth c D cA A Q 4 ro I F cells slots 636 [some (.ref b), some (.ref (ad 1)), some (.ref (ad 10)), some (.int (nI i))] [] := by
  have hx : ol_is ro (ad 1) (.inl 0) := lw_is1 hS
  refine ol_aload_n C dL_law_636 rfl rfl (ol_isq_r _) ?_
  refine lw_arg 1 C hX hbl hbA hL (by omega) rfl rfl rfl dL_law_637 dL_law_638 dL_law_639 dL_law_640 dL_law_641 ?_
  refine lw_arg 2 C hX hbl hbA hL (by omega) rfl rfl rfl dL_law_642 dL_law_643 dL_law_644 dL_law_645 dL_law_646 ?_
  refine ol_callV C (lw_way l D cA hS (xs (i + 1)) (xs (i + 2))) hx.1 hx.2 rfl wd_530 wd_1 wd_527 wd_528 wd_529 mh_X10_way ⟨⟨by decide, by decide⟩, ⟨by show cells + 0 ≤ 600000; omega, by show slots + 0 ≤ 7302250; omega⟩⟩ rfl (by first | exact Nat.le_of_ble_eq_true rfl | simp [ol_rfc, Value.category]) dL_law_647 (lw_k1 (fun z ro1 I1 F1 hm hM => ?_))
  refine ol_aload_n C dL_law_650 rfl rfl (ol_isq_r _) ?_
  refine lw_arg 1 C hX hbl hbA hL (by omega) rfl rfl rfl dL_law_651 dL_law_652 dL_law_653 dL_law_654 dL_law_655 ?_
  refine lw_arg 2 C hX hbl hbA hL (by omega) rfl rfl rfl dL_law_656 dL_law_657 dL_law_658 dL_law_659 dL_law_660 ?_
  refine ol_callV C (hM l D cA) hm.1 hm.2 rfl wd_783 wd_4 wd_780 wd_781 wd_782 mh_X11_way ⟨⟨by decide, by decide⟩, ⟨by show cells + 0 + 0 ≤ 600000; omega, by show slots + 0 + 0 ≤ 7302250; omega⟩⟩ rfl (by first | exact Nat.le_of_ble_eq_true rfl | simp [ol_rfc, Value.category]) dL_law_661 (lw_k2 (fun ro2 I2 F2 hS2 => ?_))
  refine ol_icmp_eq (tgt := 807) C dL_law_664 (by decide) (fun _ => ?_) (fun q => absurd rfl q)
  exact ol_widen (k := cells + 2) (n := slots + 13) (by show cells + 0 + 0 ≤ cells + 2; omega) (by show slots + 0 + 0 ≤ slots + 13; omega) (kk ro2 I2 F2 hS2)
set_option maxRecDepth 100000 in
set_option maxHeartbeats 4000000 in
theorem lwc_15 {p : Program} {l : Launch} {e : Env} {s : State} {m : MethodId} {below : List Frame} {meth : Method} {c : Code} {D : va_G} {cA : Nat → ClassId} {A : Nat → Prop} {Q : State → Prop} {ro : Nat → Nat} {I : Nat → Nat → Int32} {F : Nat → Nat → Option Nat} {cells slots : Nat} {b L : Nat} {xs : Nat → Int32} {ad : Nat → Nat} (C : ol_Cx p s m #[Value.ref b] c cL_law 4 RL D cA A) (hX : va_X b L xs s s.heap) (hbl : b < s.heap.size) (hbA : ¬ A b) {i : Nat} (hi : i + 6 ≤ L) (hL : L < 2 ^ 31) (hS : ol_ST ro I F ad) (hc : cells + 2 ≤ 600000) (hs : slots + 13 ≤ 7302250) (kk : ∀ (ro' : Nat → Nat) (I' : Nat → Nat → Int32) (F' : Nat → Nat → Option Nat), ol_ST ro' I' F' ad → ol_W p l e room_1 s m #[Value.ref b] below meth c D cA A Q 4 ro' I' F' (cells + 2) (slots + 13) 807 [some (.ref b), some (.ref (ad 1)), some (.ref (ad 10)), some (.int (nI i))] []) : ol_W p l e room_1 s m #[Value.ref b] below meth c D cA A Q 4 ro I F cells slots 669 [some (.ref b), some (.ref (ad 1)), some (.ref (ad 10)), some (.int (nI i))] [] := by
  have hx : ol_is ro (ad 1) (.inl 0) := lw_is1 hS
  refine ol_aload_n C dL_law_669 rfl rfl (ol_isq_r _) ?_
  refine ol_callV C (lw_holes l D cA hS) hx.1 hx.2 rfl wd_538 wd_1 wd_535 wd_536 wd_537 mh_X10_holes ⟨⟨by decide, by decide⟩, ⟨by show cells + 0 ≤ 600000; omega, by show slots + 0 ≤ 7302250; omega⟩⟩ rfl (by first | exact Nat.le_of_ble_eq_true rfl | simp [ol_rfc, Value.category]) dL_law_670 (lw_k1 (fun z ro1 I1 F1 hm hM => ?_))
  refine ol_aload_n C dL_law_673 rfl rfl (ol_isq_r _) ?_
  refine ol_callV C (hM l D cA) hm.1 hm.2 rfl wd_787 wd_4 wd_784 wd_785 wd_786 mh_X11_holes ⟨⟨by decide, by decide⟩, ⟨by show cells + 0 + 0 ≤ 600000; omega, by show slots + 0 + 0 ≤ 7302250; omega⟩⟩ rfl (by first | exact Nat.le_of_ble_eq_true rfl | simp [ol_rfc, Value.category]) dL_law_674 (lw_k2 (fun ro2 I2 F2 hS2 => ?_))
  refine ol_icmp_eq (tgt := 807) C dL_law_677 (by decide) (fun _ => ?_) (fun q => absurd rfl q)
  exact ol_widen (k := cells + 2) (n := slots + 13) (by show cells + 0 + 0 ≤ cells + 2; omega) (by show slots + 0 + 0 ≤ slots + 13; omega) (kk ro2 I2 F2 hS2)
set_option maxRecDepth 100000 in
set_option maxHeartbeats 4000000 in
theorem lwc_16 {p : Program} {l : Launch} {e : Env} {s : State} {m : MethodId} {below : List Frame} {meth : Method} {c : Code} {D : va_G} {cA : Nat → ClassId} {A : Nat → Prop} {Q : State → Prop} {ro : Nat → Nat} {I : Nat → Nat → Int32} {F : Nat → Nat → Option Nat} {cells slots : Nat} {b L : Nat} {xs : Nat → Int32} {ad : Nat → Nat} (C : ol_Cx p s m #[Value.ref b] c cL_law 4 RL D cA A) (hX : va_X b L xs s s.heap) (hbl : b < s.heap.size) (hbA : ¬ A b) {i : Nat} (hi : i + 6 ≤ L) (hL : L < 2 ^ 31) (hS : ol_ST ro I F ad) (hc : cells + 2 ≤ 600000) (hs : slots + 13 ≤ 7302250) (kk : ∀ (ro' : Nat → Nat) (I' : Nat → Nat → Int32) (F' : Nat → Nat → Option Nat), ol_ST ro' I' F' ad → ol_W p l e room_1 s m #[Value.ref b] below meth c D cA A Q 4 ro' I' F' (cells + 2) (slots + 13) 807 [some (.ref b), some (.ref (ad 1)), some (.ref (ad 10)), some (.int (nI i))] []) : ol_W p l e room_1 s m #[Value.ref b] below meth c D cA A Q 4 ro I F cells slots 682 [some (.ref b), some (.ref (ad 1)), some (.ref (ad 10)), some (.int (nI i))] [] := by
  have hx : ol_is ro (ad 1) (.inl 0) := lw_is1 hS
  refine ol_aload_n C dL_law_682 rfl rfl (ol_isq_r _) ?_
  refine lw_arg 1 C hX hbl hbA hL (by omega) rfl rfl rfl dL_law_683 dL_law_684 dL_law_685 dL_law_686 dL_law_687 ?_
  refine ol_callV C (lw_asked l D cA hS (xs (i + 1))) hx.1 hx.2 rfl wd_542 wd_1 wd_539 wd_540 wd_541 mh_X10_asked ⟨⟨by decide, by decide⟩, ⟨by show cells + 0 ≤ 600000; omega, by show slots + 0 ≤ 7302250; omega⟩⟩ rfl (by first | exact Nat.le_of_ble_eq_true rfl | simp [ol_rfc, Value.category]) dL_law_688 (lw_k1 (fun z ro1 I1 F1 hm hM => ?_))
  refine ol_aload_n C dL_law_691 rfl rfl (ol_isq_r _) ?_
  refine lw_arg 1 C hX hbl hbA hL (by omega) rfl rfl rfl dL_law_692 dL_law_693 dL_law_694 dL_law_695 dL_law_696 ?_
  refine ol_callV C (hM l D cA) hm.1 hm.2 rfl wd_791 wd_4 wd_788 wd_789 wd_790 mh_X11_asked ⟨⟨by decide, by decide⟩, ⟨by show cells + 0 + 0 ≤ 600000; omega, by show slots + 0 + 0 ≤ 7302250; omega⟩⟩ rfl (by first | exact Nat.le_of_ble_eq_true rfl | simp [ol_rfc, Value.category]) dL_law_697 (lw_k2 (fun ro2 I2 F2 hS2 => ?_))
  refine ol_icmp_eq (tgt := 807) C dL_law_700 (by decide) (fun _ => ?_) (fun q => absurd rfl q)
  exact ol_widen (k := cells + 2) (n := slots + 13) (by show cells + 0 + 0 ≤ cells + 2; omega) (by show slots + 0 + 0 ≤ slots + 13; omega) (kk ro2 I2 F2 hS2)
set_option maxRecDepth 100000 in
set_option maxHeartbeats 4000000 in
theorem lwc_17 {p : Program} {l : Launch} {e : Env} {s : State} {m : MethodId} {below : List Frame} {meth : Method} {c : Code} {D : va_G} {cA : Nat → ClassId} {A : Nat → Prop} {Q : State → Prop} {ro : Nat → Nat} {I : Nat → Nat → Int32} {F : Nat → Nat → Option Nat} {cells slots : Nat} {b L : Nat} {xs : Nat → Int32} {ad : Nat → Nat} (C : ol_Cx p s m #[Value.ref b] c cL_law 4 RL D cA A) (hX : va_X b L xs s s.heap) (hbl : b < s.heap.size) (hbA : ¬ A b) {i : Nat} (hi : i + 6 ≤ L) (hL : L < 2 ^ 31) (hS : ol_ST ro I F ad) (hc : cells + 2 ≤ 600000) (hs : slots + 13 ≤ 7302250) (kk : ∀ (ro' : Nat → Nat) (I' : Nat → Nat → Int32) (F' : Nat → Nat → Option Nat), ol_ST ro' I' F' ad → ol_W p l e room_1 s m #[Value.ref b] below meth c D cA A Q 4 ro' I' F' (cells + 2) (slots + 13) 807 [some (.ref b), some (.ref (ad 1)), some (.ref (ad 10)), some (.int (nI i))] []) : ol_W p l e room_1 s m #[Value.ref b] below meth c D cA A Q 4 ro I F cells slots 705 [some (.ref b), some (.ref (ad 1)), some (.ref (ad 10)), some (.int (nI i))] [] := by
  have hx : ol_is ro (ad 1) (.inl 0) := lw_is1 hS
  refine ol_aload_n C dL_law_705 rfl rfl (ol_isq_r _) ?_
  refine lw_arg 1 C hX hbl hbA hL (by omega) rfl rfl rfl dL_law_706 dL_law_707 dL_law_708 dL_law_709 dL_law_710 ?_
  refine lw_arg 2 C hX hbl hbA hL (by omega) rfl rfl rfl dL_law_711 dL_law_712 dL_law_713 dL_law_714 dL_law_715 ?_
  refine ol_callV C (lw_tells l D cA hS (xs (i + 1)) (xs (i + 2))) hx.1 hx.2 rfl wd_546 wd_1 wd_543 wd_544 wd_545 mh_X10_tells ⟨⟨by decide, by decide⟩, ⟨by show cells + 0 ≤ 600000; omega, by show slots + 0 ≤ 7302250; omega⟩⟩ rfl (by first | exact Nat.le_of_ble_eq_true rfl | simp [ol_rfc, Value.category]) dL_law_716 (lw_k1 (fun z ro1 I1 F1 hm hM => ?_))
  refine ol_aload_n C dL_law_719 rfl rfl (ol_isq_r _) ?_
  refine lw_arg 1 C hX hbl hbA hL (by omega) rfl rfl rfl dL_law_720 dL_law_721 dL_law_722 dL_law_723 dL_law_724 ?_
  refine lw_arg 2 C hX hbl hbA hL (by omega) rfl rfl rfl dL_law_725 dL_law_726 dL_law_727 dL_law_728 dL_law_729 ?_
  refine ol_callV C (hM l D cA) hm.1 hm.2 rfl wd_795 wd_4 wd_792 wd_793 wd_794 mh_X11_tells ⟨⟨by decide, by decide⟩, ⟨by show cells + 0 + 0 ≤ 600000; omega, by show slots + 0 + 0 ≤ 7302250; omega⟩⟩ rfl (by first | exact Nat.le_of_ble_eq_true rfl | simp [ol_rfc, Value.category]) dL_law_730 (lw_k2 (fun ro2 I2 F2 hS2 => ?_))
  refine ol_icmp_eq (tgt := 807) C dL_law_733 (by decide) (fun _ => ?_) (fun q => absurd rfl q)
  exact ol_widen (k := cells + 2) (n := slots + 13) (by show cells + 0 + 0 ≤ cells + 2; omega) (by show slots + 0 + 0 ≤ slots + 13; omega) (kk ro2 I2 F2 hS2)
set_option maxRecDepth 100000 in
set_option maxHeartbeats 4000000 in
theorem lwc_18 {p : Program} {l : Launch} {e : Env} {s : State} {m : MethodId} {below : List Frame} {meth : Method} {c : Code} {D : va_G} {cA : Nat → ClassId} {A : Nat → Prop} {Q : State → Prop} {ro : Nat → Nat} {I : Nat → Nat → Int32} {F : Nat → Nat → Option Nat} {cells slots : Nat} {b L : Nat} {xs : Nat → Int32} {ad : Nat → Nat} (C : ol_Cx p s m #[Value.ref b] c cL_law 4 RL D cA A) (hX : va_X b L xs s s.heap) (hbl : b < s.heap.size) (hbA : ¬ A b) {i : Nat} (hi : i + 6 ≤ L) (hL : L < 2 ^ 31) (hS : ol_ST ro I F ad) (hc : cells + 2 ≤ 600000) (hs : slots + 13 ≤ 7302250) (kk : ∀ (ro' : Nat → Nat) (I' : Nat → Nat → Int32) (F' : Nat → Nat → Option Nat), ol_ST ro' I' F' ad → ol_W p l e room_1 s m #[Value.ref b] below meth c D cA A Q 4 ro' I' F' (cells + 2) (slots + 13) 807 [some (.ref b), some (.ref (ad 1)), some (.ref (ad 10)), some (.int (nI i))] []) : ol_W p l e room_1 s m #[Value.ref b] below meth c D cA A Q 4 ro I F cells slots 738 [some (.ref b), some (.ref (ad 1)), some (.ref (ad 10)), some (.int (nI i))] [] := by
  have hx : ol_is ro (ad 1) (.inl 0) := lw_is1 hS
  refine ol_aload_n C dL_law_738 rfl rfl (ol_isq_r _) ?_
  refine lw_arg 1 C hX hbl hbA hL (by omega) rfl rfl rfl dL_law_739 dL_law_740 dL_law_741 dL_law_742 dL_law_743 ?_
  refine lw_arg 2 C hX hbl hbA hL (by omega) rfl rfl rfl dL_law_744 dL_law_745 dL_law_746 dL_law_747 dL_law_748 ?_
  refine ol_callV C (lw_is l D cA hS (xs (i + 1)) (xs (i + 2))) hx.1 hx.2 rfl wd_561 wd_1 wd_558 wd_559 wd_560 mh_X10_is ⟨⟨by decide, by decide⟩, ⟨by show cells + 0 ≤ 600000; omega, by show slots + 0 ≤ 7302250; omega⟩⟩ rfl (by first | exact Nat.le_of_ble_eq_true rfl | simp [ol_rfc, Value.category]) dL_law_749 (lw_k1 (fun z ro1 I1 F1 hm hM => ?_))
  refine ol_aload_n C dL_law_752 rfl rfl (ol_isq_r _) ?_
  refine lw_arg 1 C hX hbl hbA hL (by omega) rfl rfl rfl dL_law_753 dL_law_754 dL_law_755 dL_law_756 dL_law_757 ?_
  refine lw_arg 2 C hX hbl hbA hL (by omega) rfl rfl rfl dL_law_758 dL_law_759 dL_law_760 dL_law_761 dL_law_762 ?_
  refine ol_callV C (hM l D cA) hm.1 hm.2 rfl wd_799 wd_4 wd_796 wd_797 wd_798 mh_X11_is ⟨⟨by decide, by decide⟩, ⟨by show cells + 0 + 0 ≤ 600000; omega, by show slots + 0 + 0 ≤ 7302250; omega⟩⟩ rfl (by first | exact Nat.le_of_ble_eq_true rfl | simp [ol_rfc, Value.category]) dL_law_763 (lw_k2 (fun ro2 I2 F2 hS2 => ?_))
  refine ol_icmp_eq (tgt := 807) C dL_law_766 (by decide) (fun _ => ?_) (fun q => absurd rfl q)
  exact ol_widen (k := cells + 2) (n := slots + 13) (by show cells + 0 + 0 ≤ cells + 2; omega) (by show slots + 0 + 0 ≤ slots + 13; omega) (kk ro2 I2 F2 hS2)
set_option maxRecDepth 100000 in
set_option maxHeartbeats 4000000 in
theorem lwc_19 {p : Program} {l : Launch} {e : Env} {s : State} {m : MethodId} {below : List Frame} {meth : Method} {c : Code} {D : va_G} {cA : Nat → ClassId} {A : Nat → Prop} {Q : State → Prop} {ro : Nat → Nat} {I : Nat → Nat → Int32} {F : Nat → Nat → Option Nat} {cells slots : Nat} {b L : Nat} {xs : Nat → Int32} {ad : Nat → Nat} (C : ol_Cx p s m #[Value.ref b] c cL_law 4 RL D cA A) (hX : va_X b L xs s s.heap) (hbl : b < s.heap.size) (hbA : ¬ A b) {i : Nat} (hi : i + 6 ≤ L) (hL : L < 2 ^ 31) (hS : ol_ST ro I F ad) (hc : cells + 2 ≤ 600000) (hs : slots + 13 ≤ 7302250) (kk : ∀ (ro' : Nat → Nat) (I' : Nat → Nat → Int32) (F' : Nat → Nat → Option Nat), ol_ST ro' I' F' ad → ol_W p l e room_1 s m #[Value.ref b] below meth c D cA A Q 4 ro' I' F' (cells + 2) (slots + 13) 807 [some (.ref b), some (.ref (ad 1)), some (.ref (ad 10)), some (.int (nI i))] []) : ol_W p l e room_1 s m #[Value.ref b] below meth c D cA A Q 4 ro I F cells slots 771 [some (.ref b), some (.ref (ad 1)), some (.ref (ad 10)), some (.int (nI i))] [] := by
  have hx : ol_is ro (ad 1) (.inl 0) := lw_is1 hS
  refine ol_aload_n C dL_law_771 rfl rfl (ol_isq_r _) ?_
  refine lw_arg 1 C hX hbl hbA hL (by omega) rfl rfl rfl dL_law_772 dL_law_773 dL_law_774 dL_law_775 dL_law_776 ?_
  refine ol_callV C (lw_count l D cA hS (xs (i + 1))) hx.1 hx.2 rfl wd_565 wd_1 wd_562 wd_563 wd_564 mh_X10_count ⟨⟨by decide, by decide⟩, ⟨by show cells + 0 ≤ 600000; omega, by show slots + 0 ≤ 7302250; omega⟩⟩ rfl (by first | exact Nat.le_of_ble_eq_true rfl | simp [ol_rfc, Value.category]) dL_law_777 (lw_k1 (fun z ro1 I1 F1 hm hM => ?_))
  refine ol_aload_n C dL_law_780 rfl rfl (ol_isq_r _) ?_
  refine lw_arg 1 C hX hbl hbA hL (by omega) rfl rfl rfl dL_law_781 dL_law_782 dL_law_783 dL_law_784 dL_law_785 ?_
  refine ol_callV C (hM l D cA) hm.1 hm.2 rfl wd_803 wd_4 wd_800 wd_801 wd_802 mh_X11_count ⟨⟨by decide, by decide⟩, ⟨by show cells + 0 + 0 ≤ 600000; omega, by show slots + 0 + 0 ≤ 7302250; omega⟩⟩ rfl (by first | exact Nat.le_of_ble_eq_true rfl | simp [ol_rfc, Value.category]) dL_law_786 (lw_k2 (fun ro2 I2 F2 hS2 => ?_))
  refine ol_icmp_eq (tgt := 807) C dL_law_789 (by decide) (fun _ => ?_) (fun q => absurd rfl q)
  exact ol_widen (k := cells + 2) (n := slots + 13) (by show cells + 0 + 0 ≤ cells + 2; omega) (by show slots + 0 + 0 ≤ slots + 13; omega) (kk ro2 I2 F2 hS2)
set_option maxRecDepth 100000 in
set_option maxHeartbeats 4000000 in
theorem lwc_20 {p : Program} {l : Launch} {e : Env} {s : State} {m : MethodId} {below : List Frame} {meth : Method} {c : Code} {D : va_G} {cA : Nat → ClassId} {A : Nat → Prop} {Q : State → Prop} {ro : Nat → Nat} {I : Nat → Nat → Int32} {F : Nat → Nat → Option Nat} {cells slots : Nat} {b L : Nat} {xs : Nat → Int32} {ad : Nat → Nat} (C : ol_Cx p s m #[Value.ref b] c cL_law 4 RL D cA A) (hX : va_X b L xs s s.heap) (hbl : b < s.heap.size) (hbA : ¬ A b) {i : Nat} (hi : i + 6 ≤ L) (hL : L < 2 ^ 31) (hS : ol_ST ro I F ad) (hc : cells + 2 ≤ 600000) (hs : slots + 13 ≤ 7302250) (kk : ∀ (ro' : Nat → Nat) (I' : Nat → Nat → Int32) (F' : Nat → Nat → Option Nat), ol_ST ro' I' F' ad → ol_W p l e room_1 s m #[Value.ref b] below meth c D cA A Q 4 ro' I' F' (cells + 2) (slots + 13) 807 [some (.ref b), some (.ref (ad 1)), some (.ref (ad 10)), some (.int (nI i))] []) : ol_W p l e room_1 s m #[Value.ref b] below meth c D cA A Q 4 ro I F cells slots 794 [some (.ref b), some (.ref (ad 1)), some (.ref (ad 10)), some (.int (nI i))] [] := by
  have hx : ol_is ro (ad 1) (.inl 0) := lw_is1 hS
  refine ol_aload_n C dL_law_794 rfl rfl (ol_isq_r _) ?_
  refine ol_callV C (lw_clear l D cA hS) hx.1 hx.2 rfl wd_569 wd_1 wd_566 wd_567 wd_568 mh_X10_clear ⟨⟨by decide, by decide⟩, ⟨by show cells + 0 ≤ 600000; omega, by show slots + 0 ≤ 7302250; omega⟩⟩ rfl (by first | exact Nat.le_of_ble_eq_true rfl | simp [ol_rfc, Value.category]) dL_law_795 (lw_k1 (fun z ro1 I1 F1 hm hM => ?_))
  refine ol_aload_n C dL_law_798 rfl rfl (ol_isq_r _) ?_
  refine ol_callV C (hM l D cA) hm.1 hm.2 rfl wd_807 wd_4 wd_804 wd_805 wd_806 mh_X11_clear ⟨⟨by decide, by decide⟩, ⟨by show cells + 0 + 0 ≤ 600000; omega, by show slots + 0 + 0 ≤ 7302250; omega⟩⟩ rfl (by first | exact Nat.le_of_ble_eq_true rfl | simp [ol_rfc, Value.category]) dL_law_799 (lw_k2 (fun ro2 I2 F2 hS2 => ?_))
  refine ol_icmp_eq (tgt := 807) C dL_law_802 (by decide) (fun _ => ?_) (fun q => absurd rfl q)
  exact ol_widen (k := cells + 2) (n := slots + 13) (by show cells + 0 + 0 ≤ cells + 2; omega) (by show slots + 0 + 0 ≤ slots + 13; omega) (kk ro2 I2 F2 hS2)
