/-! what holds at the head of the law's loop -/
abbrev nA (s : State) : Nat → Prop := fun q => s.heap.size ≤ q
def LI (dC : Nat → ClassId) (dI : Nat → Nat → Nat) (cI cJ : ClassId) (ad am : Nat → Nat) (ou : Nat) (H : Heap) : Prop :=
  ∃ (d K T G B : Nat) (Bc : Nat → Int64) (Bl Pk Pr Pl : Nat → Int32) (Pc : Nat → Int64) (Gf Gt Gx Ek Er Ea Ex : Nat → Int32) (Eb : Int32) (Ss : Nat → Int32) (Sm : Int32) (Wg Wr Md : Nat → Int64) (Th : Int32) (Ce : Nat → Int64) (Le : Nat → Int32) (Kc : Nat → Int64) (Ko Kl Kd : Nat → Int32) (Ug Ur Va : Nat → Int64) (Tt Td Gg Ga Bt : Nat → Int32) (Si : Int32) (Te : Nat → Int32) (Bz : Int32) (Bk : Nat → Int32) (Ou : Nat → Int64),
    Rel2 d K T G B Bc Bl Pk Pr Pl Pc Gf Gt Gx Ek Er Ea Ex Wg Wr Ce Le Kc Ko Kl Kd Ug Ur Tt Td Gg Ga Bt ∧ va_P (dC, dI) vwCl (wC ad cI cJ Bc Bl Pk Pr Pl Pc (nI K) Gf Gt Gx (nI d) (nI T) Ek Er Ea Ex (nI G) Eb (nI B) Ss Sm Wg Wr Md) H ∧ va_P (dC, dI) vwCl (wM am cI cJ Th Ce Le (nI d) (nI K) Kc Ko Kl Kd Ug Ur Va (nI T) Tt Td (nI G) Gg Ga (nI B) Bt Si Te Bz Bk) H ∧ va_P (dC, dI) vwCl [(ou, .inl (cJ, 1, .inr (.inl Ou)))] H
def LX (dC : Nat → ClassId) (dI : Nat → Nat → Nat) (cI cJ : ClassId) (ad am : Nat → Nat) (ou : Nat) (p : Program) (l : Launch) (s : State) (m : MethodId) (args : Array Value) (c : Code) (b L : Nat) (xs : Nat → Int32) : Prop :=
  l.stackTraces = false ∧ p.tables.exec = Jvm.exec ∧ c.code = cL_law ∧ c.maxLocals = 8 ∧ s.vm.findClass RL = some m.cls ∧ (∀ w ∈ bigW, w.before args s = true) ∧ (va_X b L xs s s.heap ∧ b < s.heap.size ∧ L ≤ 4608) ∧ cxt (nA s) s s.heap ∧ va_K (dC, dI) vwCl [(cI, .int), (cJ, .long)] s ∧ fI 23 ad ∧ fI 17 am ∧ (∀ k, k < 23 → s.heap.size ≤ ad k) ∧ (∀ k, k < 17 → s.heap.size ≤ am k) ∧ s.heap.size ≤ ou ∧ (∀ k j, k < 23 → j < 17 → ad k ≠ am j) ∧ (∀ k, k < 23 → ou ≠ ad k) ∧ ∀ j, j < 17 → ou ≠ am j
theorem in_fO {s : State} {H : Heap} {ad : Nat → Nat} {ou : Nat} (ha : ∀ k, k < 23 → s.heap.size ≤ ad k) (ho : s.heap.size ≤ ou) (hz : s.heap.size ≤ H.size) : ∀ q, fO 23 ad ou H.size q → nA s q := by
  rintro q ((⟨k, hk, rfl⟩ | h) | rfl)
  · exact ha k hk
  · exact Nat.le_trans hz h
  · exact ho
theorem in_fA {s : State} {H : Heap} {n : Nat} {ad : Nat → Nat} (ha : ∀ k, k < n → s.heap.size ≤ ad k) (hz : s.heap.size ≤ H.size) : ∀ q, fA n ad H.size q → nA s q := by
  rintro q (⟨k, hk, rfl⟩ | h)
  · exact ha k hk
  · exact Nat.le_trans hz h
theorem no_fO {ad am : Nat → Nat} {ou n : Nat} (h1 : ∀ k j, k < 23 → j < 17 → ad k ≠ am j) (h2 : ∀ j, j < 17 → ou ≠ am j) : ∀ j, j < 17 → am j < n → ¬ fO 23 ad ou n (am j) := by
  rintro j hj hlt ((⟨k, hk, h⟩ | h) | h)
  · exact h1 k j hk hj h.symm
  · omega
  · exact h2 j hj h.symm
theorem no_fA {ad am : Nat → Nat} {n : Nat} (h1 : ∀ k j, k < 23 → j < 17 → ad k ≠ am j) : ∀ j, j < 17 → am j < n → ¬ fA 23 ad n (am j) := by
  rintro j hj hlt (⟨k, hk, h⟩ | h)
  · exact h1 k j hk hj h.symm
  · omega
theorem no_fM {ad am : Nat → Nat} {n : Nat} (h1 : ∀ k j, k < 23 → j < 17 → ad k ≠ am j) : ∀ k, k < 23 → ad k < n → ¬ fA 17 am n (ad k) := by
  rintro k hk hlt (⟨j, hj, h⟩ | h)
  · exact h1 k j hk hj h
  · omega
theorem no_fC {am : Nat → Nat} {ou n k : Nat} (h2 : ∀ j, j < k → ou ≠ am j) : ∀ j, j < 1 → ou < n → ¬ fA k am n ou := by
  rintro _ _ hlt (⟨j, hj, h⟩ | h)
  · exact h2 j hj h
  · omega

set_option maxHeartbeats 4000000 in
set_option maxRecDepth 100000 in
theorem cs_token {p : Program} {l : Launch} {e : Env} {s : State} {m : MethodId} {args : Array Value} {below : List Frame} {meth : Method} {c : Code} {dC : Nat → ClassId} {dI : Nat → Nat → Nat} {cI cJ : ClassId} {ad am : Nat → Nat} {ou b L : Nat} {xs : Nat → Int32} (C0 : LX dC dI cI cJ ad am ou p l s m args c b L xs) {Q : State → Prop} {i : Nat} (hi9 : i + 9 ≤ L) {H : Heap} {locs : List Loc} {cells slots : Nat} {ls : Array Slot} (I : LI dC dI cI cJ ad am ou H) (hS : va_S (nA s) s.heap H locs) (hl : lv_has ls 8 [(4, .int (nI i)), (3, .ref ou), (2, .ref (am 0)), (1, .ref (ad 0)), (0, .ref b)]) (hc : cells + 6 ≤ room_1.cells ∧ slots + 36 ≤ room_1.slots) (k : ∀ (H1 : Heap) (locs1 : List Loc) (ls1 : Array Slot), LI dC dI cI cJ ad am ou H1 → va_S (nA s) s.heap H1 locs1 → lv_has ls1 8 [(4, .int (nI i)), (3, .ref ou), (2, .ref (am 0)), (1, .ref (ad 0)), (0, .ref b)] → W p l e room_1 s m args below meth c H1 locs1 (cells + 6) (slots + 36) Q (F0 m 1268 ls1 [])) : W p l e room_1 s m args below meth c H locs cells slots Q (F0 m 132 ls []) := by
  obtain ⟨hst, hx, hb, hml, hown, hts, ⟨hX, hbl, hL⟩, hC, hK, hi, hi', had, ham, hao, hdis, hou, hom⟩ := C0
  have hbA : ¬ nA s b := Nat.not_le.mpr hbl
  obtain ⟨d, K, T, G, B, Bc, Bl, Pk, Pr, Pl, Pc, Gf, Gt, Gx, Ek, Er, Ea, Ex, Eb, Ss, Sm, Wg, Wr, Md, Th, Ce, Le, Kc, Ko, Kl, Kd, Ug, Ur, Va, Tt, Td, Gg, Ga, Bt, Si, Te, Bz, Bk, Ou, hR, hP, hM, hO⟩ := I
  obtain ⟨⟨b1, b2, b3, b4, b5⟩, rV, rL, rP, rQ, rD, rW, rX, rE, rY, rG, rR⟩ := hR
  obtain ⟨s5, s6, o, y, y', th, Wr', Ur', e5, e6, ho, hth, hr, rR'⟩ := r_token rR (xs (i + 1)) Th
  refine lv_aload_n hx hb dL_law_132 rfl (lv_at hl 3 rfl) ?_
  refine rdI hx hb hX hbl hbA hS hl 4 0 rfl rfl (k := 1) (by decide) (by omega) hL dL_law_133 dL_law_134 dL_law_136 dL_law_137 dL_law_138 ?_
  refine lv_aload_n hx hb dL_law_139 rfl (lv_at hl 1 rfl) ?_
  refine qL_token hst hx hb hml hown hts mM_RL_85 ⟨Nat.le_of_ble_eq_true rfl, Nat.le_of_ble_eq_true rfl⟩ ⟨Nat.le_trans (by omega) hc.1, Nat.le_trans (by omega) hc.2⟩ hl.1 (Nat.le_of_ble_eq_true rfl) hS dL_law_140 (in_fO had hao hS.1) hi hou hK hP hO hC (xs (i + 1)) s5 (o, y, Wr') e5.symm ho (fun H1 locs1 hP hO hS hk9 hz9 => ?_)
  have hM := keepW hM fs_M (no_fO hdis hom) hk9
  refine lv_istore (lv' := [(5, .int (k_L_token o)), (4, .int (nI i)), (3, .ref ou), (2, .ref (am 0)), (1, .ref (ad 0)), (0, .ref b)]) hx hb dL_law_143 hl (by decide) rfl (fun ls hl => ?_)
  refine lv_aload_n hx hb dL_law_145 rfl (lv_at hl 3 rfl) ?_
  refine rdI hx hb hX hbl hbA hS hl 5 1 rfl rfl (k := 1) (by decide) (by omega) hL dL_law_146 dL_law_147 dL_law_149 dL_law_150 dL_law_151 ?_
  refine qf_X6_token hx hb hml hown hts mM_RL_90 ⟨Nat.le_of_ble_eq_true rfl, Nat.le_of_ble_eq_true rfl⟩ ⟨Nat.le_trans (by omega) hc.1, Nat.le_trans (by omega) hc.2⟩ hl.1 (Nat.le_of_ble_eq_true rfl) hS dL_law_152 (in_fA ham hS.1) hi' hK hM (xs (i + 1)) s6 (y', th, Ur') e6.symm (fun H1 locs1 hM hS hk9 hz9 => ?_)
  have hP := keepW hP fs_C (no_fM hdis) hk9
  have hO := keepW hO fs_O (no_fC hom) hk9
  refine lv_istore (lv' := [(6, .int y'), (5, .int (k_L_token o)), (4, .int (nI i)), (3, .ref ou), (2, .ref (am 0)), (1, .ref (ad 0)), (0, .ref b)]) hx hb dL_law_155 hl (by decide) rfl (fun ls hl => ?_)
  refine lv_goto (tgt := 1268) hx hb dL_law_157 (by decide) ?_
  refine W.widen (k := cells + 6) (n := slots + 36) (by omega) (by omega) ?_
  exact k _ _ _ ⟨d, K, T, G, B, Bc, Bl, Pk, Pr, Pl, Pc, Gf, Gt, Gx, Ek, Er, Ea, Ex, Eb, Ss, Sm, Wg, Wr', Md, th, Ce, Le, Kc, Ko, Kl, Kd, Ug, Ur', Va, Tt, Td, Gg, Ga, Bt, Si, Te, Bz, Bk, _, ⟨⟨b1, b2, b3, b4, b5⟩, rV, rL, rP, rQ, rD, rW, rX, rE, rY, rG, rR'⟩, hP, hM, hO⟩ hS (lv_sub hl [2, 3, 4, 5, 6] rfl)

set_option maxHeartbeats 4000000 in
set_option maxRecDepth 100000 in
theorem cs_glue {p : Program} {l : Launch} {e : Env} {s : State} {m : MethodId} {args : Array Value} {below : List Frame} {meth : Method} {c : Code} {dC : Nat → ClassId} {dI : Nat → Nat → Nat} {cI cJ : ClassId} {ad am : Nat → Nat} {ou b L : Nat} {xs : Nat → Int32} (C0 : LX dC dI cI cJ ad am ou p l s m args c b L xs) {Q : State → Prop} {i : Nat} (hi9 : i + 9 ≤ L) {H : Heap} {locs : List Loc} {cells slots : Nat} {ls : Array Slot} (I : LI dC dI cI cJ ad am ou H) (hS : va_S (nA s) s.heap H locs) (hl : lv_has ls 8 [(4, .int (nI i)), (3, .ref ou), (2, .ref (am 0)), (1, .ref (ad 0)), (0, .ref b)]) (hc : cells + 6 ≤ room_1.cells ∧ slots + 36 ≤ room_1.slots) (k : ∀ (H1 : Heap) (locs1 : List Loc) (ls1 : Array Slot), LI dC dI cI cJ ad am ou H1 → va_S (nA s) s.heap H1 locs1 → lv_has ls1 8 [(4, .int (nI i)), (3, .ref ou), (2, .ref (am 0)), (1, .ref (ad 0)), (0, .ref b)] → W p l e room_1 s m args below meth c H1 locs1 (cells + 6) (slots + 36) Q (F0 m 1268 ls1 [])) : W p l e room_1 s m args below meth c H locs cells slots Q (F0 m 160 ls []) := by
  obtain ⟨hst, hx, hb, hml, hown, hts, ⟨hX, hbl, hL⟩, hC, hK, hi, hi', had, ham, hao, hdis, hou, hom⟩ := C0
  have hbA : ¬ nA s b := Nat.not_le.mpr hbl
  obtain ⟨d, K, T, G, B, Bc, Bl, Pk, Pr, Pl, Pc, Gf, Gt, Gx, Ek, Er, Ea, Ex, Eb, Ss, Sm, Wg, Wr, Md, Th, Ce, Le, Kc, Ko, Kl, Kd, Ug, Ur, Va, Tt, Td, Gg, Ga, Bt, Si, Te, Bz, Bk, Ou, hR, hP, hM, hO⟩ := I
  obtain ⟨⟨b1, b2, b3, b4, b5⟩, rV, rL, rP, rQ, rD, rW, rX, rE, rY, rG, rR⟩ := hR
  obtain ⟨s5, s6, o, th, Wg', Ug', e5, e6, ho, hth, rG'⟩ := r_glue rG (w64 (xs (i + 1)) (xs (i + 2))) (w64 (xs (i + 3)) (xs (i + 4))) (xs (i + 5)) (w64 (xs (i + 6)) (xs (i + 7))) (xs (i + 8)) Th
  refine lv_aload_n hx hb dL_law_160 rfl (lv_at hl 3 rfl) ?_
  refine rdI hx hb hX hbl hbA hS hl 4 0 rfl rfl (k := 1) (by decide) (by omega) hL dL_law_161 dL_law_162 dL_law_164 dL_law_165 dL_law_166 ?_
  refine lv_i2l hx hb dL_law_167 rfl ?_
  refine lv_bipush (v := 32) hx hb dL_law_168 (by decide) ?_
  refine lv_lshl hx hb dL_law_170 rfl ?_
  refine rdI hx hb hX hbl hbA hS hl 4 0 rfl rfl (k := 2) (by decide) (by omega) hL dL_law_171 dL_law_172 dL_law_174 dL_law_175 dL_law_176 ?_
  refine lv_i2l hx hb dL_law_177 rfl ?_
  refine lv_ldc2 hx hb hown (hts _ mK_RL_91) dL_law_178 ?_
  refine lv_land hx hb dL_law_181 ?_
  refine lv_lor hx hb dL_law_182 ?_
  refine rdw ?_
  refine rdI hx hb hX hbl hbA hS hl 4 0 rfl rfl (k := 3) (by decide) (by omega) hL dL_law_183 dL_law_184 dL_law_186 dL_law_187 dL_law_188 ?_
  refine lv_i2l hx hb dL_law_189 rfl ?_
  refine lv_bipush (v := 32) hx hb dL_law_190 (by decide) ?_
  refine lv_lshl hx hb dL_law_192 rfl ?_
  refine rdI hx hb hX hbl hbA hS hl 4 0 rfl rfl (k := 4) (by decide) (by omega) hL dL_law_193 dL_law_194 dL_law_196 dL_law_197 dL_law_198 ?_
  refine lv_i2l hx hb dL_law_199 rfl ?_
  refine lv_ldc2 hx hb hown (hts _ mK_RL_91) dL_law_200 ?_
  refine lv_land hx hb dL_law_203 ?_
  refine lv_lor hx hb dL_law_204 ?_
  refine rdw ?_
  refine rdI hx hb hX hbl hbA hS hl 4 0 rfl rfl (k := 5) (by decide) (by omega) hL dL_law_205 dL_law_206 dL_law_208 dL_law_209 dL_law_210 ?_
  refine rdB hx hb hX hbl hbA hS hl 4 0 rfl rfl (k := 6) (by decide) (by omega) hL dL_law_211 dL_law_212 dL_law_214 dL_law_216 dL_law_217 ?_
  refine lv_i2l hx hb dL_law_218 rfl ?_
  refine lv_bipush (v := 32) hx hb dL_law_219 (by decide) ?_
  refine lv_lshl hx hb dL_law_221 rfl ?_
  refine rdB hx hb hX hbl hbA hS hl 4 0 rfl rfl (k := 7) (by decide) (by omega) hL dL_law_222 dL_law_223 dL_law_225 dL_law_227 dL_law_228 ?_
  refine lv_i2l hx hb dL_law_229 rfl ?_
  refine lv_ldc2 hx hb hown (hts _ mK_RL_91) dL_law_230 ?_
  refine lv_land hx hb dL_law_233 ?_
  refine lv_lor hx hb dL_law_234 ?_
  refine rdw ?_
  refine rdB hx hb hX hbl hbA hS hl 4 0 rfl rfl (k := 8) (by decide) (by omega) hL dL_law_235 dL_law_236 dL_law_238 dL_law_240 dL_law_241 ?_
  refine qL_glue hst hx hb hml hown hts mM_RL_93 ⟨Nat.le_of_ble_eq_true rfl, Nat.le_of_ble_eq_true rfl⟩ ⟨Nat.le_trans (by omega) hc.1, Nat.le_trans (by omega) hc.2⟩ hl.1 (Nat.le_of_ble_eq_true rfl) hS dL_law_242 (in_fA had hS.1) hi hK hP hC (w64 (xs (i + 1)) (xs (i + 2))) (w64 (xs (i + 3)) (xs (i + 4))) (xs (i + 5)) (w64 (xs (i + 6)) (xs (i + 7))) (xs (i + 8)) s5 (o, Wg') e5.symm ho (fun H1 locs1 hP hS hk9 hz9 => ?_)
  have hM := keepW hM fs_M (no_fA hdis) hk9
  have hO := keepW hO fs_O (no_fC hou) hk9
  refine lv_istore (lv' := [(5, .int (k_L_glue o)), (4, .int (nI i)), (3, .ref ou), (2, .ref (am 0)), (1, .ref (ad 0)), (0, .ref b)]) hx hb dL_law_245 hl (by decide) rfl (fun ls hl => ?_)
  refine lv_aload_n hx hb dL_law_247 rfl (lv_at hl 3 rfl) ?_
  refine rdI hx hb hX hbl hbA hS hl 5 1 rfl rfl (k := 1) (by decide) (by omega) hL dL_law_248 dL_law_249 dL_law_251 dL_law_252 dL_law_253 ?_
  refine lv_i2l hx hb dL_law_254 rfl ?_
  refine lv_bipush (v := 32) hx hb dL_law_255 (by decide) ?_
  refine lv_lshl hx hb dL_law_257 rfl ?_
  refine rdI hx hb hX hbl hbA hS hl 5 1 rfl rfl (k := 2) (by decide) (by omega) hL dL_law_258 dL_law_259 dL_law_261 dL_law_262 dL_law_263 ?_
  refine lv_i2l hx hb dL_law_264 rfl ?_
  refine lv_ldc2 hx hb hown (hts _ mK_RL_91) dL_law_265 ?_
  refine lv_land hx hb dL_law_268 ?_
  refine lv_lor hx hb dL_law_269 ?_
  refine rdw ?_
  refine rdI hx hb hX hbl hbA hS hl 5 1 rfl rfl (k := 3) (by decide) (by omega) hL dL_law_270 dL_law_271 dL_law_273 dL_law_274 dL_law_275 ?_
  refine lv_i2l hx hb dL_law_276 rfl ?_
  refine lv_bipush (v := 32) hx hb dL_law_277 (by decide) ?_
  refine lv_lshl hx hb dL_law_279 rfl ?_
  refine rdI hx hb hX hbl hbA hS hl 5 1 rfl rfl (k := 4) (by decide) (by omega) hL dL_law_280 dL_law_281 dL_law_283 dL_law_284 dL_law_285 ?_
  refine lv_i2l hx hb dL_law_286 rfl ?_
  refine lv_ldc2 hx hb hown (hts _ mK_RL_91) dL_law_287 ?_
  refine lv_land hx hb dL_law_290 ?_
  refine lv_lor hx hb dL_law_291 ?_
  refine rdw ?_
  refine rdI hx hb hX hbl hbA hS hl 5 1 rfl rfl (k := 5) (by decide) (by omega) hL dL_law_292 dL_law_293 dL_law_295 dL_law_296 dL_law_297 ?_
  refine rdB hx hb hX hbl hbA hS hl 5 1 rfl rfl (k := 6) (by decide) (by omega) hL dL_law_298 dL_law_299 dL_law_301 dL_law_303 dL_law_304 ?_
  refine lv_i2l hx hb dL_law_305 rfl ?_
  refine lv_bipush (v := 32) hx hb dL_law_306 (by decide) ?_
  refine lv_lshl hx hb dL_law_308 rfl ?_
  refine rdB hx hb hX hbl hbA hS hl 5 1 rfl rfl (k := 7) (by decide) (by omega) hL dL_law_309 dL_law_310 dL_law_312 dL_law_314 dL_law_315 ?_
  refine lv_i2l hx hb dL_law_316 rfl ?_
  refine lv_ldc2 hx hb hown (hts _ mK_RL_91) dL_law_317 ?_
  refine lv_land hx hb dL_law_320 ?_
  refine lv_lor hx hb dL_law_321 ?_
  refine rdw ?_
  refine rdB hx hb hX hbl hbA hS hl 5 1 rfl rfl (k := 8) (by decide) (by omega) hL dL_law_322 dL_law_323 dL_law_325 dL_law_327 dL_law_328 ?_
  refine qf_X6_glue hx hb hml hown hts mM_RL_96 ⟨Nat.le_of_ble_eq_true rfl, Nat.le_of_ble_eq_true rfl⟩ ⟨Nat.le_trans (by omega) hc.1, Nat.le_trans (by omega) hc.2⟩ hl.1 (Nat.le_of_ble_eq_true rfl) hS dL_law_329 (in_fA ham hS.1) hi' hK hM (w64 (xs (i + 1)) (xs (i + 2))) (w64 (xs (i + 3)) (xs (i + 4))) (xs (i + 5)) (w64 (xs (i + 6)) (xs (i + 7))) (xs (i + 8)) s6 (th, Ug') e6.symm (fun H1 locs1 hM hS hk9 hz9 => ?_)
  have hP := keepW hP fs_C (no_fM hdis) hk9
  have hO := keepW hO fs_O (no_fC hom) hk9
  refine lv_goto (tgt := 1268) hx hb dL_law_332 (by decide) ?_
  refine W.widen (k := cells + 6) (n := slots + 36) (by omega) (by omega) ?_
  exact k _ _ _ ⟨d, K, T, G, B, Bc, Bl, Pk, Pr, Pl, Pc, Gf, Gt, Gx, Ek, Er, Ea, Ex, Eb, Ss, Sm, Wg', Wr, Md, th, Ce, Le, Kc, Ko, Kl, Kd, Ug', Ur, Va, Tt, Td, Gg, Ga, Bt, Si, Te, Bz, Bk, _, ⟨⟨b1, b2, b3, b4, b5⟩, rV, rL, rP, rQ, rD, rW, rX, rE, rY, rG', rR⟩, hP, hM, hO⟩ hS (lv_sub hl [1, 2, 3, 4, 5] rfl)

set_option maxHeartbeats 4000000 in
set_option maxRecDepth 100000 in
theorem cs_set {p : Program} {l : Launch} {e : Env} {s : State} {m : MethodId} {args : Array Value} {below : List Frame} {meth : Method} {c : Code} {dC : Nat → ClassId} {dI : Nat → Nat → Nat} {cI cJ : ClassId} {ad am : Nat → Nat} {ou b L : Nat} {xs : Nat → Int32} (C0 : LX dC dI cI cJ ad am ou p l s m args c b L xs) {Q : State → Prop} {i : Nat} (hi9 : i + 9 ≤ L) {H : Heap} {locs : List Loc} {cells slots : Nat} {ls : Array Slot} (I : LI dC dI cI cJ ad am ou H) (hS : va_S (nA s) s.heap H locs) (hl : lv_has ls 8 [(4, .int (nI i)), (3, .ref ou), (2, .ref (am 0)), (1, .ref (ad 0)), (0, .ref b)]) (hc : cells + 6 ≤ room_1.cells ∧ slots + 36 ≤ room_1.slots) (k : ∀ (H1 : Heap) (locs1 : List Loc) (ls1 : Array Slot), LI dC dI cI cJ ad am ou H1 → va_S (nA s) s.heap H1 locs1 → lv_has ls1 8 [(4, .int (nI i)), (3, .ref ou), (2, .ref (am 0)), (1, .ref (ad 0)), (0, .ref b)] → W p l e room_1 s m args below meth c H1 locs1 (cells + 6) (slots + 36) Q (F0 m 1268 ls1 [])) : W p l e room_1 s m args below meth c H locs cells slots Q (F0 m 335 ls []) := by
  obtain ⟨hst, hx, hb, hml, hown, hts, ⟨hX, hbl, hL⟩, hC, hK, hi, hi', had, ham, hao, hdis, hou, hom⟩ := C0
  have hbA : ¬ nA s b := Nat.not_le.mpr hbl
  obtain ⟨d, K, T, G, B, Bc, Bl, Pk, Pr, Pl, Pc, Gf, Gt, Gx, Ek, Er, Ea, Ex, Eb, Ss, Sm, Wg, Wr, Md, Th, Ce, Le, Kc, Ko, Kl, Kd, Ug, Ur, Va, Tt, Td, Gg, Ga, Bt, Si, Te, Bz, Bk, Ou, hR, hP, hM, hO⟩ := I
  obtain ⟨⟨b1, b2, b3, b4, b5⟩, rV, rL, rP, rQ, rD, rW, rX, rE, rY, rG, rR⟩ := hR
  obtain ⟨s5, s6, o, y, y', th, Bc', Bl', Pk', Pr', Pl', Pc', K', Wr', Md', Ce', Le', Kc', Ko', Kl', Kd', Ur', Va', e5, e6, ho, hth, hr, b2', rV', rL', rP', rQ', rD', rR'⟩ := r_set b1 b2 rV rL rP rQ rD rG rR (xs (i + 1)) (xs (i + 2)) (w64 (xs (i + 3)) (xs (i + 4))) (bz (xs (i + 5))) Th Md Va
  refine lv_aload_n hx hb dL_law_335 rfl (lv_at hl 3 rfl) ?_
  refine rdI hx hb hX hbl hbA hS hl 4 0 rfl rfl (k := 1) (by decide) (by omega) hL dL_law_336 dL_law_337 dL_law_339 dL_law_340 dL_law_341 ?_
  refine rdI hx hb hX hbl hbA hS hl 4 0 rfl rfl (k := 2) (by decide) (by omega) hL dL_law_342 dL_law_343 dL_law_345 dL_law_346 dL_law_347 ?_
  refine rdI hx hb hX hbl hbA hS hl 4 0 rfl rfl (k := 3) (by decide) (by omega) hL dL_law_348 dL_law_349 dL_law_351 dL_law_352 dL_law_353 ?_
  refine lv_i2l hx hb dL_law_354 rfl ?_
  refine lv_bipush (v := 32) hx hb dL_law_355 (by decide) ?_
  refine lv_lshl hx hb dL_law_357 rfl ?_
  refine rdI hx hb hX hbl hbA hS hl 4 0 rfl rfl (k := 4) (by decide) (by omega) hL dL_law_358 dL_law_359 dL_law_361 dL_law_362 dL_law_363 ?_
  refine lv_i2l hx hb dL_law_364 rfl ?_
  refine lv_ldc2 hx hb hown (hts _ mK_RL_91) dL_law_365 ?_
  refine lv_land hx hb dL_law_368 ?_
  refine lv_lor hx hb dL_law_369 ?_
  refine rdw ?_
  refine rdI hx hb hX hbl hbA hS hl 4 0 rfl rfl (k := 5) (by decide) (by omega) hL dL_law_370 dL_law_371 dL_law_373 dL_law_374 dL_law_375 ?_
  refine rdZ hx hb dL_law_376 dL_law_379 dL_law_380 dL_law_383 ?_
  refine lv_aload_n hx hb dL_law_384 rfl (lv_at hl 1 rfl) ?_
  refine qL_set hst hx hb hml hown hts mM_RL_97 ⟨Nat.le_of_ble_eq_true rfl, Nat.le_of_ble_eq_true rfl⟩ ⟨Nat.le_trans (by omega) hc.1, Nat.le_trans (by omega) hc.2⟩ hl.1 (Nat.le_of_ble_eq_true rfl) hS dL_law_385 (in_fO had hao hS.1) hi hou hK hP hO hC (xs (i + 1)) (xs (i + 2)) (w64 (xs (i + 3)) (xs (i + 4))) (bz (xs (i + 5))) s5 (o, y, Bc', Bl', Pk', Pr', Pl', Pc', nI K', Wr', Md') e5.symm ho (fun H1 locs1 hP hO hS hk9 hz9 => ?_)
  have hM := keepW hM fs_M (no_fO hdis hom) hk9
  refine lv_istore (lv' := [(5, .int (k_L_set o)), (4, .int (nI i)), (3, .ref ou), (2, .ref (am 0)), (1, .ref (ad 0)), (0, .ref b)]) hx hb dL_law_388 hl (by decide) rfl (fun ls hl => ?_)
  refine lv_aload_n hx hb dL_law_390 rfl (lv_at hl 3 rfl) ?_
  refine rdI hx hb hX hbl hbA hS hl 5 1 rfl rfl (k := 1) (by decide) (by omega) hL dL_law_391 dL_law_392 dL_law_394 dL_law_395 dL_law_396 ?_
  refine rdI hx hb hX hbl hbA hS hl 5 1 rfl rfl (k := 2) (by decide) (by omega) hL dL_law_397 dL_law_398 dL_law_400 dL_law_401 dL_law_402 ?_
  refine rdI hx hb hX hbl hbA hS hl 5 1 rfl rfl (k := 3) (by decide) (by omega) hL dL_law_403 dL_law_404 dL_law_406 dL_law_407 dL_law_408 ?_
  refine lv_i2l hx hb dL_law_409 rfl ?_
  refine lv_bipush (v := 32) hx hb dL_law_410 (by decide) ?_
  refine lv_lshl hx hb dL_law_412 rfl ?_
  refine rdI hx hb hX hbl hbA hS hl 5 1 rfl rfl (k := 4) (by decide) (by omega) hL dL_law_413 dL_law_414 dL_law_416 dL_law_417 dL_law_418 ?_
  refine lv_i2l hx hb dL_law_419 rfl ?_
  refine lv_ldc2 hx hb hown (hts _ mK_RL_91) dL_law_420 ?_
  refine lv_land hx hb dL_law_423 ?_
  refine lv_lor hx hb dL_law_424 ?_
  refine rdw ?_
  refine rdI hx hb hX hbl hbA hS hl 5 1 rfl rfl (k := 5) (by decide) (by omega) hL dL_law_425 dL_law_426 dL_law_428 dL_law_429 dL_law_430 ?_
  refine rdZ hx hb dL_law_431 dL_law_434 dL_law_435 dL_law_438 ?_
  refine qf_X6_set hx hb hml hown hts mM_RL_100 ⟨Nat.le_of_ble_eq_true rfl, Nat.le_of_ble_eq_true rfl⟩ ⟨Nat.le_trans (by omega) hc.1, Nat.le_trans (by omega) hc.2⟩ hl.1 (Nat.le_of_ble_eq_true rfl) hS dL_law_439 (in_fA ham hS.1) hi' hK hM (xs (i + 1)) (xs (i + 2)) (w64 (xs (i + 3)) (xs (i + 4))) (bz (xs (i + 5))) s6 (y', th, Ce', Le', nI K', Kc', Ko', Kl', Kd', Ur', Va') e6.symm (fun H1 locs1 hM hS hk9 hz9 => ?_)
  have hP := keepW hP fs_C (no_fM hdis) hk9
  have hO := keepW hO fs_O (no_fC hom) hk9
  refine lv_istore (lv' := [(6, .int y'), (5, .int (k_L_set o)), (4, .int (nI i)), (3, .ref ou), (2, .ref (am 0)), (1, .ref (ad 0)), (0, .ref b)]) hx hb dL_law_442 hl (by decide) rfl (fun ls hl => ?_)
  refine lv_goto (tgt := 1268) hx hb dL_law_444 (by decide) ?_
  refine W.widen (k := cells + 6) (n := slots + 36) (by omega) (by omega) ?_
  exact k _ _ _ ⟨d, K', T, G, B, Bc', Bl', Pk', Pr', Pl', Pc', Gf, Gt, Gx, Ek, Er, Ea, Ex, Eb, Ss, Sm, Wg, Wr', Md', th, Ce', Le', Kc', Ko', Kl', Kd', Ug, Ur', Va', Tt, Td, Gg, Ga, Bt, Si, Te, Bz, Bk, _, ⟨⟨b1, b2', b3, b4, b5⟩, rV', rL', rP', rQ', rD', rW, rX, rE, rY, rG, rR'⟩, hP, hM, hO⟩ hS (lv_sub hl [2, 3, 4, 5, 6] rfl)

set_option maxHeartbeats 4000000 in
set_option maxRecDepth 100000 in
theorem cs_get {p : Program} {l : Launch} {e : Env} {s : State} {m : MethodId} {args : Array Value} {below : List Frame} {meth : Method} {c : Code} {dC : Nat → ClassId} {dI : Nat → Nat → Nat} {cI cJ : ClassId} {ad am : Nat → Nat} {ou b L : Nat} {xs : Nat → Int32} (C0 : LX dC dI cI cJ ad am ou p l s m args c b L xs) {Q : State → Prop} {i : Nat} (hi9 : i + 9 ≤ L) {H : Heap} {locs : List Loc} {cells slots : Nat} {ls : Array Slot} (I : LI dC dI cI cJ ad am ou H) (hS : va_S (nA s) s.heap H locs) (hl : lv_has ls 8 [(4, .int (nI i)), (3, .ref ou), (2, .ref (am 0)), (1, .ref (ad 0)), (0, .ref b)]) (hc : cells + 6 ≤ room_1.cells ∧ slots + 36 ≤ room_1.slots) (k : ∀ (H1 : Heap) (locs1 : List Loc) (ls1 : Array Slot), LI dC dI cI cJ ad am ou H1 → va_S (nA s) s.heap H1 locs1 → lv_has ls1 8 [(4, .int (nI i)), (3, .ref ou), (2, .ref (am 0)), (1, .ref (ad 0)), (0, .ref b)] → W p l e room_1 s m args below meth c H1 locs1 (cells + 6) (slots + 36) Q (F0 m 1268 ls1 [])) : W p l e room_1 s m args below meth c H locs cells slots Q (F0 m 447 ls []) := by
  obtain ⟨hst, hx, hb, hml, hown, hts, ⟨hX, hbl, hL⟩, hC, hK, hi, hi', had, ham, hao, hdis, hou, hom⟩ := C0
  have hbA : ¬ nA s b := Nat.not_le.mpr hbl
  obtain ⟨d, K, T, G, B, Bc, Bl, Pk, Pr, Pl, Pc, Gf, Gt, Gx, Ek, Er, Ea, Ex, Eb, Ss, Sm, Wg, Wr, Md, Th, Ce, Le, Kc, Ko, Kl, Kd, Ug, Ur, Va, Tt, Td, Gg, Ga, Bt, Si, Te, Bz, Bk, Ou, hR, hP, hM, hO⟩ := I
  obtain ⟨⟨b1, b2, b3, b4, b5⟩, rV, rL, rP, rQ, rD, rW, rX, rE, rY, rG, rR⟩ := hR
  obtain ⟨s5, s6, o, y, y', th, e5, e6, ho, hth, hr⟩ := r_get rV (xs (i + 1)) (xs (i + 2)) Th
  refine lv_aload_n hx hb dL_law_447 rfl (lv_at hl 3 rfl) ?_
  refine rdI hx hb hX hbl hbA hS hl 4 0 rfl rfl (k := 1) (by decide) (by omega) hL dL_law_448 dL_law_449 dL_law_451 dL_law_452 dL_law_453 ?_
  refine rdI hx hb hX hbl hbA hS hl 4 0 rfl rfl (k := 2) (by decide) (by omega) hL dL_law_454 dL_law_455 dL_law_457 dL_law_458 dL_law_459 ?_
  refine lv_aload_n hx hb dL_law_460 rfl (lv_at hl 1 rfl) ?_
  refine qL_get hst hx hb hml hown hts mM_RL_101 ⟨Nat.le_of_ble_eq_true rfl, Nat.le_of_ble_eq_true rfl⟩ ⟨Nat.le_trans (by omega) hc.1, Nat.le_trans (by omega) hc.2⟩ hl.1 (Nat.le_of_ble_eq_true rfl) hS dL_law_461 (in_fO had hao hS.1) hi hou hK hP hO hC (xs (i + 1)) (xs (i + 2)) s5 (o, y) e5.symm ho (fun H1 locs1 hP hO hS hk9 hz9 => ?_)
  have hM := keepW hM fs_M (no_fO hdis hom) hk9
  refine lv_istore (lv' := [(5, .int (k_L_get o)), (4, .int (nI i)), (3, .ref ou), (2, .ref (am 0)), (1, .ref (ad 0)), (0, .ref b)]) hx hb dL_law_464 hl (by decide) rfl (fun ls hl => ?_)
  refine lv_aload_n hx hb dL_law_466 rfl (lv_at hl 3 rfl) ?_
  refine rdI hx hb hX hbl hbA hS hl 5 1 rfl rfl (k := 1) (by decide) (by omega) hL dL_law_467 dL_law_468 dL_law_470 dL_law_471 dL_law_472 ?_
  refine rdI hx hb hX hbl hbA hS hl 5 1 rfl rfl (k := 2) (by decide) (by omega) hL dL_law_473 dL_law_474 dL_law_476 dL_law_477 dL_law_478 ?_
  refine qf_X6_get hx hb hml hown hts mM_RL_104 ⟨Nat.le_of_ble_eq_true rfl, Nat.le_of_ble_eq_true rfl⟩ ⟨Nat.le_trans (by omega) hc.1, Nat.le_trans (by omega) hc.2⟩ hl.1 (Nat.le_of_ble_eq_true rfl) hS dL_law_479 (in_fA ham hS.1) hi' hK hM (xs (i + 1)) (xs (i + 2)) s6 (y', th) e6.symm (fun H1 locs1 hM hS hk9 hz9 => ?_)
  have hP := keepW hP fs_C (no_fM hdis) hk9
  have hO := keepW hO fs_O (no_fC hom) hk9
  refine lv_lstore (lv' := [(6, .long y'), (5, .int (k_L_get o)), (4, .int (nI i)), (3, .ref ou), (2, .ref (am 0)), (1, .ref (ad 0)), (0, .ref b)]) hx hb dL_law_482 hl (by decide) rfl (fun ls hl => ?_)
  refine lv_goto (tgt := 1268) hx hb dL_law_484 (by decide) ?_
  refine W.widen (k := cells + 6) (n := slots + 36) (by omega) (by omega) ?_
  exact k _ _ _ ⟨d, K, T, G, B, Bc, Bl, Pk, Pr, Pl, Pc, Gf, Gt, Gx, Ek, Er, Ea, Ex, Eb, Ss, Sm, Wg, Wr, Md, th, Ce, Le, Kc, Ko, Kl, Kd, Ug, Ur, Va, Tt, Td, Gg, Ga, Bt, Si, Te, Bz, Bk, _, ⟨⟨b1, b2, b3, b4, b5⟩, rV, rL, rP, rQ, rD, rW, rX, rE, rY, rG, rR⟩, hP, hM, hO⟩ hS (lv_sub hl [2, 3, 4, 5, 6] rfl)

set_option maxHeartbeats 4000000 in
set_option maxRecDepth 100000 in
theorem cs_part {p : Program} {l : Launch} {e : Env} {s : State} {m : MethodId} {args : Array Value} {below : List Frame} {meth : Method} {c : Code} {dC : Nat → ClassId} {dI : Nat → Nat → Nat} {cI cJ : ClassId} {ad am : Nat → Nat} {ou b L : Nat} {xs : Nat → Int32} (C0 : LX dC dI cI cJ ad am ou p l s m args c b L xs) {Q : State → Prop} {i : Nat} (hi9 : i + 9 ≤ L) {H : Heap} {locs : List Loc} {cells slots : Nat} {ls : Array Slot} (I : LI dC dI cI cJ ad am ou H) (hS : va_S (nA s) s.heap H locs) (hl : lv_has ls 8 [(4, .int (nI i)), (3, .ref ou), (2, .ref (am 0)), (1, .ref (ad 0)), (0, .ref b)]) (hc : cells + 6 ≤ room_1.cells ∧ slots + 36 ≤ room_1.slots) (k : ∀ (H1 : Heap) (locs1 : List Loc) (ls1 : Array Slot), LI dC dI cI cJ ad am ou H1 → va_S (nA s) s.heap H1 locs1 → lv_has ls1 8 [(4, .int (nI i)), (3, .ref ou), (2, .ref (am 0)), (1, .ref (ad 0)), (0, .ref b)] → W p l e room_1 s m args below meth c H1 locs1 (cells + 6) (slots + 36) Q (F0 m 1268 ls1 [])) : W p l e room_1 s m args below meth c H locs cells slots Q (F0 m 487 ls []) := by
  obtain ⟨hst, hx, hb, hml, hown, hts, ⟨hX, hbl, hL⟩, hC, hK, hi, hi', had, ham, hao, hdis, hou, hom⟩ := C0
  have hbA : ¬ nA s b := Nat.not_le.mpr hbl
  obtain ⟨d, K, T, G, B, Bc, Bl, Pk, Pr, Pl, Pc, Gf, Gt, Gx, Ek, Er, Ea, Ex, Eb, Ss, Sm, Wg, Wr, Md, Th, Ce, Le, Kc, Ko, Kl, Kd, Ug, Ur, Va, Tt, Td, Gg, Ga, Bt, Si, Te, Bz, Bk, Ou, hR, hP, hM, hO⟩ := I
  obtain ⟨⟨b1, b2, b3, b4, b5⟩, rV, rL, rP, rQ, rD, rW, rX, rE, rY, rG, rR⟩ := hR
  obtain ⟨s5, s6, o, y, y', th, e5, e6, ho, hth, hr⟩ := r_part rV (xs (i + 1)) (xs (i + 2)) Th
  refine lv_aload_n hx hb dL_law_487 rfl (lv_at hl 3 rfl) ?_
  refine rdI hx hb hX hbl hbA hS hl 4 0 rfl rfl (k := 1) (by decide) (by omega) hL dL_law_488 dL_law_489 dL_law_491 dL_law_492 dL_law_493 ?_
  refine rdI hx hb hX hbl hbA hS hl 4 0 rfl rfl (k := 2) (by decide) (by omega) hL dL_law_494 dL_law_495 dL_law_497 dL_law_498 dL_law_499 ?_
  refine lv_aload_n hx hb dL_law_500 rfl (lv_at hl 1 rfl) ?_
  refine qL_part hst hx hb hml hown hts mM_RL_105 ⟨Nat.le_of_ble_eq_true rfl, Nat.le_of_ble_eq_true rfl⟩ ⟨Nat.le_trans (by omega) hc.1, Nat.le_trans (by omega) hc.2⟩ hl.1 (Nat.le_of_ble_eq_true rfl) hS dL_law_501 (in_fO had hao hS.1) hi hou hK hP hO hC (xs (i + 1)) (xs (i + 2)) s5 (o, y) e5.symm ho (fun H1 locs1 hP hO hS hk9 hz9 => ?_)
  have hM := keepW hM fs_M (no_fO hdis hom) hk9
  refine lv_istore (lv' := [(5, .int (k_L_part o)), (4, .int (nI i)), (3, .ref ou), (2, .ref (am 0)), (1, .ref (ad 0)), (0, .ref b)]) hx hb dL_law_504 hl (by decide) rfl (fun ls hl => ?_)
  refine lv_aload_n hx hb dL_law_506 rfl (lv_at hl 3 rfl) ?_
  refine rdI hx hb hX hbl hbA hS hl 5 1 rfl rfl (k := 1) (by decide) (by omega) hL dL_law_507 dL_law_508 dL_law_510 dL_law_511 dL_law_512 ?_
  refine rdI hx hb hX hbl hbA hS hl 5 1 rfl rfl (k := 2) (by decide) (by omega) hL dL_law_513 dL_law_514 dL_law_516 dL_law_517 dL_law_518 ?_
  refine qf_X6_part hx hb hml hown hts mM_RL_107 ⟨Nat.le_of_ble_eq_true rfl, Nat.le_of_ble_eq_true rfl⟩ ⟨Nat.le_trans (by omega) hc.1, Nat.le_trans (by omega) hc.2⟩ hl.1 (Nat.le_of_ble_eq_true rfl) hS dL_law_519 (in_fA ham hS.1) hi' hK hM (xs (i + 1)) (xs (i + 2)) s6 (y', th) e6.symm (fun H1 locs1 hM hS hk9 hz9 => ?_)
  have hP := keepW hP fs_C (no_fM hdis) hk9
  have hO := keepW hO fs_O (no_fC hom) hk9
  refine lv_lstore (lv' := [(6, .long y'), (5, .int (k_L_part o)), (4, .int (nI i)), (3, .ref ou), (2, .ref (am 0)), (1, .ref (ad 0)), (0, .ref b)]) hx hb dL_law_522 hl (by decide) rfl (fun ls hl => ?_)
  refine lv_goto (tgt := 1268) hx hb dL_law_524 (by decide) ?_
  refine W.widen (k := cells + 6) (n := slots + 36) (by omega) (by omega) ?_
  exact k _ _ _ ⟨d, K, T, G, B, Bc, Bl, Pk, Pr, Pl, Pc, Gf, Gt, Gx, Ek, Er, Ea, Ex, Eb, Ss, Sm, Wg, Wr, Md, th, Ce, Le, Kc, Ko, Kl, Kd, Ug, Ur, Va, Tt, Td, Gg, Ga, Bt, Si, Te, Bz, Bk, _, ⟨⟨b1, b2, b3, b4, b5⟩, rV, rL, rP, rQ, rD, rW, rX, rE, rY, rG, rR⟩, hP, hM, hO⟩ hS (lv_sub hl [2, 3, 4, 5, 6] rfl)

set_option maxHeartbeats 4000000 in
set_option maxRecDepth 100000 in
theorem cs_at {p : Program} {l : Launch} {e : Env} {s : State} {m : MethodId} {args : Array Value} {below : List Frame} {meth : Method} {c : Code} {dC : Nat → ClassId} {dI : Nat → Nat → Nat} {cI cJ : ClassId} {ad am : Nat → Nat} {ou b L : Nat} {xs : Nat → Int32} (C0 : LX dC dI cI cJ ad am ou p l s m args c b L xs) {Q : State → Prop} {i : Nat} (hi9 : i + 9 ≤ L) {H : Heap} {locs : List Loc} {cells slots : Nat} {ls : Array Slot} (I : LI dC dI cI cJ ad am ou H) (hS : va_S (nA s) s.heap H locs) (hl : lv_has ls 8 [(4, .int (nI i)), (3, .ref ou), (2, .ref (am 0)), (1, .ref (ad 0)), (0, .ref b)]) (hc : cells + 6 ≤ room_1.cells ∧ slots + 36 ≤ room_1.slots) (k : ∀ (H1 : Heap) (locs1 : List Loc) (ls1 : Array Slot), LI dC dI cI cJ ad am ou H1 → va_S (nA s) s.heap H1 locs1 → lv_has ls1 8 [(4, .int (nI i)), (3, .ref ou), (2, .ref (am 0)), (1, .ref (ad 0)), (0, .ref b)] → W p l e room_1 s m args below meth c H1 locs1 (cells + 6) (slots + 36) Q (F0 m 1268 ls1 [])) : W p l e room_1 s m args below meth c H locs cells slots Q (F0 m 527 ls []) := by
  obtain ⟨hst, hx, hb, hml, hown, hts, ⟨hX, hbl, hL⟩, hC, hK, hi, hi', had, ham, hao, hdis, hou, hom⟩ := C0
  have hbA : ¬ nA s b := Nat.not_le.mpr hbl
  obtain ⟨d, K, T, G, B, Bc, Bl, Pk, Pr, Pl, Pc, Gf, Gt, Gx, Ek, Er, Ea, Ex, Eb, Ss, Sm, Wg, Wr, Md, Th, Ce, Le, Kc, Ko, Kl, Kd, Ug, Ur, Va, Tt, Td, Gg, Ga, Bt, Si, Te, Bz, Bk, Ou, hR, hP, hM, hO⟩ := I
  obtain ⟨⟨b1, b2, b3, b4, b5⟩, rV, rL, rP, rQ, rD, rW, rX, rE, rY, rG, rR⟩ := hR
  obtain ⟨s5, s6, o, y, y', th, e5, e6, ho, hth, hr⟩ := r_at rV (xs (i + 1)) (xs (i + 2)) Th
  refine lv_aload_n hx hb dL_law_527 rfl (lv_at hl 3 rfl) ?_
  refine rdI hx hb hX hbl hbA hS hl 4 0 rfl rfl (k := 1) (by decide) (by omega) hL dL_law_528 dL_law_529 dL_law_531 dL_law_532 dL_law_533 ?_
  refine rdI hx hb hX hbl hbA hS hl 4 0 rfl rfl (k := 2) (by decide) (by omega) hL dL_law_534 dL_law_535 dL_law_537 dL_law_538 dL_law_539 ?_
  refine lv_aload_n hx hb dL_law_540 rfl (lv_at hl 1 rfl) ?_
  refine qL_at hst hx hb hml hown hts mM_RL_108 ⟨Nat.le_of_ble_eq_true rfl, Nat.le_of_ble_eq_true rfl⟩ ⟨Nat.le_trans (by omega) hc.1, Nat.le_trans (by omega) hc.2⟩ hl.1 (Nat.le_of_ble_eq_true rfl) hS dL_law_541 (in_fO had hao hS.1) hi hou hK hP hO hC (xs (i + 1)) (xs (i + 2)) s5 (o, y) e5.symm ho (fun H1 locs1 hP hO hS hk9 hz9 => ?_)
  have hM := keepW hM fs_M (no_fO hdis hom) hk9
  refine lv_istore (lv' := [(5, .int (k_L_at o)), (4, .int (nI i)), (3, .ref ou), (2, .ref (am 0)), (1, .ref (ad 0)), (0, .ref b)]) hx hb dL_law_544 hl (by decide) rfl (fun ls hl => ?_)
  refine lv_aload_n hx hb dL_law_546 rfl (lv_at hl 3 rfl) ?_
  refine rdI hx hb hX hbl hbA hS hl 5 1 rfl rfl (k := 1) (by decide) (by omega) hL dL_law_547 dL_law_548 dL_law_550 dL_law_551 dL_law_552 ?_
  refine rdI hx hb hX hbl hbA hS hl 5 1 rfl rfl (k := 2) (by decide) (by omega) hL dL_law_553 dL_law_554 dL_law_556 dL_law_557 dL_law_558 ?_
  refine qf_X6_at hx hb hml hown hts mM_RL_110 ⟨Nat.le_of_ble_eq_true rfl, Nat.le_of_ble_eq_true rfl⟩ ⟨Nat.le_trans (by omega) hc.1, Nat.le_trans (by omega) hc.2⟩ hl.1 (Nat.le_of_ble_eq_true rfl) hS dL_law_559 (in_fA ham hS.1) hi' hK hM (xs (i + 1)) (xs (i + 2)) s6 (y', th) e6.symm (fun H1 locs1 hM hS hk9 hz9 => ?_)
  have hP := keepW hP fs_C (no_fM hdis) hk9
  have hO := keepW hO fs_O (no_fC hom) hk9
  refine lv_istore (lv' := [(6, .int y'), (5, .int (k_L_at o)), (4, .int (nI i)), (3, .ref ou), (2, .ref (am 0)), (1, .ref (ad 0)), (0, .ref b)]) hx hb dL_law_562 hl (by decide) rfl (fun ls hl => ?_)
  refine lv_goto (tgt := 1268) hx hb dL_law_564 (by decide) ?_
  refine W.widen (k := cells + 6) (n := slots + 36) (by omega) (by omega) ?_
  exact k _ _ _ ⟨d, K, T, G, B, Bc, Bl, Pk, Pr, Pl, Pc, Gf, Gt, Gx, Ek, Er, Ea, Ex, Eb, Ss, Sm, Wg, Wr, Md, th, Ce, Le, Kc, Ko, Kl, Kd, Ug, Ur, Va, Tt, Td, Gg, Ga, Bt, Si, Te, Bz, Bk, _, ⟨⟨b1, b2, b3, b4, b5⟩, rV, rL, rP, rQ, rD, rW, rX, rE, rY, rG, rR⟩, hP, hM, hO⟩ hS (lv_sub hl [2, 3, 4, 5, 6] rfl)

set_option maxHeartbeats 4000000 in
set_option maxRecDepth 100000 in
theorem cs_add {p : Program} {l : Launch} {e : Env} {s : State} {m : MethodId} {args : Array Value} {below : List Frame} {meth : Method} {c : Code} {dC : Nat → ClassId} {dI : Nat → Nat → Nat} {cI cJ : ClassId} {ad am : Nat → Nat} {ou b L : Nat} {xs : Nat → Int32} (C0 : LX dC dI cI cJ ad am ou p l s m args c b L xs) {Q : State → Prop} {i : Nat} (hi9 : i + 9 ≤ L) {H : Heap} {locs : List Loc} {cells slots : Nat} {ls : Array Slot} (I : LI dC dI cI cJ ad am ou H) (hS : va_S (nA s) s.heap H locs) (hl : lv_has ls 8 [(4, .int (nI i)), (3, .ref ou), (2, .ref (am 0)), (1, .ref (ad 0)), (0, .ref b)]) (hc : cells + 6 ≤ room_1.cells ∧ slots + 36 ≤ room_1.slots) (k : ∀ (H1 : Heap) (locs1 : List Loc) (ls1 : Array Slot), LI dC dI cI cJ ad am ou H1 → va_S (nA s) s.heap H1 locs1 → lv_has ls1 8 [(4, .int (nI i)), (3, .ref ou), (2, .ref (am 0)), (1, .ref (ad 0)), (0, .ref b)] → W p l e room_1 s m args below meth c H1 locs1 (cells + 6) (slots + 36) Q (F0 m 1268 ls1 [])) : W p l e room_1 s m args below meth c H locs cells slots Q (F0 m 567 ls []) := by
  obtain ⟨hst, hx, hb, hml, hown, hts, ⟨hX, hbl, hL⟩, hC, hK, hi, hi', had, ham, hao, hdis, hou, hom⟩ := C0
  have hbA : ¬ nA s b := Nat.not_le.mpr hbl
  obtain ⟨d, K, T, G, B, Bc, Bl, Pk, Pr, Pl, Pc, Gf, Gt, Gx, Ek, Er, Ea, Ex, Eb, Ss, Sm, Wg, Wr, Md, Th, Ce, Le, Kc, Ko, Kl, Kd, Ug, Ur, Va, Tt, Td, Gg, Ga, Bt, Si, Te, Bz, Bk, Ou, hR, hP, hM, hO⟩ := I
  obtain ⟨⟨b1, b2, b3, b4, b5⟩, rV, rL, rP, rQ, rD, rW, rX, rE, rY, rG, rR⟩ := hR
  obtain ⟨s5, s6, o, y, y', th, Bc', Bl', Pk', Pr', Pl', Pc', K', Md', Ce', Le', Kc', Ko', Kl', Kd', Va', e5, e6, ho, hth, hr, b2', rV', rL', rP', rQ', rD'⟩ := r_add b1 b2 rV rL rP rQ rD (xs (i + 1)) (xs (i + 2)) (w64 (xs (i + 3)) (xs (i + 4))) (bz (xs (i + 5))) Th Md Va
  refine lv_aload_n hx hb dL_law_567 rfl (lv_at hl 3 rfl) ?_
  refine rdI hx hb hX hbl hbA hS hl 4 0 rfl rfl (k := 1) (by decide) (by omega) hL dL_law_568 dL_law_569 dL_law_571 dL_law_572 dL_law_573 ?_
  refine rdI hx hb hX hbl hbA hS hl 4 0 rfl rfl (k := 2) (by decide) (by omega) hL dL_law_574 dL_law_575 dL_law_577 dL_law_578 dL_law_579 ?_
  refine rdI hx hb hX hbl hbA hS hl 4 0 rfl rfl (k := 3) (by decide) (by omega) hL dL_law_580 dL_law_581 dL_law_583 dL_law_584 dL_law_585 ?_
  refine lv_i2l hx hb dL_law_586 rfl ?_
  refine lv_bipush (v := 32) hx hb dL_law_587 (by decide) ?_
  refine lv_lshl hx hb dL_law_589 rfl ?_
  refine rdI hx hb hX hbl hbA hS hl 4 0 rfl rfl (k := 4) (by decide) (by omega) hL dL_law_590 dL_law_591 dL_law_593 dL_law_594 dL_law_595 ?_
  refine lv_i2l hx hb dL_law_596 rfl ?_
  refine lv_ldc2 hx hb hown (hts _ mK_RL_91) dL_law_597 ?_
  refine lv_land hx hb dL_law_600 ?_
  refine lv_lor hx hb dL_law_601 ?_
  refine rdw ?_
  refine rdI hx hb hX hbl hbA hS hl 4 0 rfl rfl (k := 5) (by decide) (by omega) hL dL_law_602 dL_law_603 dL_law_605 dL_law_606 dL_law_607 ?_
  refine rdZ hx hb dL_law_608 dL_law_611 dL_law_612 dL_law_615 ?_
  refine lv_aload_n hx hb dL_law_616 rfl (lv_at hl 1 rfl) ?_
  refine qL_add hst hx hb hml hown hts mM_RL_111 ⟨Nat.le_of_ble_eq_true rfl, Nat.le_of_ble_eq_true rfl⟩ ⟨Nat.le_trans (by omega) hc.1, Nat.le_trans (by omega) hc.2⟩ hl.1 (Nat.le_of_ble_eq_true rfl) hS dL_law_617 (in_fO had hao hS.1) hi hou hK hP hO hC (xs (i + 1)) (xs (i + 2)) (w64 (xs (i + 3)) (xs (i + 4))) (bz (xs (i + 5))) s5 (o, y, Bc', Bl', Pk', Pr', Pl', Pc', nI K', Md') e5.symm ho (fun H1 locs1 hP hO hS hk9 hz9 => ?_)
  have hM := keepW hM fs_M (no_fO hdis hom) hk9
  refine lv_istore (lv' := [(5, .int (k_L_add o)), (4, .int (nI i)), (3, .ref ou), (2, .ref (am 0)), (1, .ref (ad 0)), (0, .ref b)]) hx hb dL_law_620 hl (by decide) rfl (fun ls hl => ?_)
  refine lv_aload_n hx hb dL_law_622 rfl (lv_at hl 3 rfl) ?_
  refine rdI hx hb hX hbl hbA hS hl 5 1 rfl rfl (k := 1) (by decide) (by omega) hL dL_law_623 dL_law_624 dL_law_626 dL_law_627 dL_law_628 ?_
  refine rdI hx hb hX hbl hbA hS hl 5 1 rfl rfl (k := 2) (by decide) (by omega) hL dL_law_629 dL_law_630 dL_law_632 dL_law_633 dL_law_634 ?_
  refine rdI hx hb hX hbl hbA hS hl 5 1 rfl rfl (k := 3) (by decide) (by omega) hL dL_law_635 dL_law_636 dL_law_638 dL_law_639 dL_law_640 ?_
  refine lv_i2l hx hb dL_law_641 rfl ?_
  refine lv_bipush (v := 32) hx hb dL_law_642 (by decide) ?_
  refine lv_lshl hx hb dL_law_644 rfl ?_
  refine rdI hx hb hX hbl hbA hS hl 5 1 rfl rfl (k := 4) (by decide) (by omega) hL dL_law_645 dL_law_646 dL_law_648 dL_law_649 dL_law_650 ?_
  refine lv_i2l hx hb dL_law_651 rfl ?_
  refine lv_ldc2 hx hb hown (hts _ mK_RL_91) dL_law_652 ?_
  refine lv_land hx hb dL_law_655 ?_
  refine lv_lor hx hb dL_law_656 ?_
  refine rdw ?_
  refine rdI hx hb hX hbl hbA hS hl 5 1 rfl rfl (k := 5) (by decide) (by omega) hL dL_law_657 dL_law_658 dL_law_660 dL_law_661 dL_law_662 ?_
  refine rdZ hx hb dL_law_663 dL_law_666 dL_law_667 dL_law_670 ?_
  refine qf_X6_add hx hb hml hown hts mM_RL_113 ⟨Nat.le_of_ble_eq_true rfl, Nat.le_of_ble_eq_true rfl⟩ ⟨Nat.le_trans (by omega) hc.1, Nat.le_trans (by omega) hc.2⟩ hl.1 (Nat.le_of_ble_eq_true rfl) hS dL_law_671 (in_fA ham hS.1) hi' hK hM (xs (i + 1)) (xs (i + 2)) (w64 (xs (i + 3)) (xs (i + 4))) (bz (xs (i + 5))) s6 (y', th, Ce', Le', nI K', Kc', Ko', Kl', Kd', Va') e6.symm (fun H1 locs1 hM hS hk9 hz9 => ?_)
  have hP := keepW hP fs_C (no_fM hdis) hk9
  have hO := keepW hO fs_O (no_fC hom) hk9
  refine lv_istore (lv' := [(6, .int y'), (5, .int (k_L_add o)), (4, .int (nI i)), (3, .ref ou), (2, .ref (am 0)), (1, .ref (ad 0)), (0, .ref b)]) hx hb dL_law_674 hl (by decide) rfl (fun ls hl => ?_)
  refine lv_goto (tgt := 1268) hx hb dL_law_676 (by decide) ?_
  refine W.widen (k := cells + 6) (n := slots + 36) (by omega) (by omega) ?_
  exact k _ _ _ ⟨d, K', T, G, B, Bc', Bl', Pk', Pr', Pl', Pc', Gf, Gt, Gx, Ek, Er, Ea, Ex, Eb, Ss, Sm, Wg, Wr, Md', th, Ce', Le', Kc', Ko', Kl', Kd', Ug, Ur, Va', Tt, Td, Gg, Ga, Bt, Si, Te, Bz, Bk, _, ⟨⟨b1, b2', b3, b4, b5⟩, rV', rL', rP', rQ', rD', rW, rX, rE, rY, rG, rR⟩, hP, hM, hO⟩ hS (lv_sub hl [2, 3, 4, 5, 6] rfl)

set_option maxHeartbeats 4000000 in
set_option maxRecDepth 100000 in
theorem cs_multiply {p : Program} {l : Launch} {e : Env} {s : State} {m : MethodId} {args : Array Value} {below : List Frame} {meth : Method} {c : Code} {dC : Nat → ClassId} {dI : Nat → Nat → Nat} {cI cJ : ClassId} {ad am : Nat → Nat} {ou b L : Nat} {xs : Nat → Int32} (C0 : LX dC dI cI cJ ad am ou p l s m args c b L xs) {Q : State → Prop} {i : Nat} (hi9 : i + 9 ≤ L) {H : Heap} {locs : List Loc} {cells slots : Nat} {ls : Array Slot} (I : LI dC dI cI cJ ad am ou H) (hS : va_S (nA s) s.heap H locs) (hl : lv_has ls 8 [(4, .int (nI i)), (3, .ref ou), (2, .ref (am 0)), (1, .ref (ad 0)), (0, .ref b)]) (hc : cells + 6 ≤ room_1.cells ∧ slots + 36 ≤ room_1.slots) (k : ∀ (H1 : Heap) (locs1 : List Loc) (ls1 : Array Slot), LI dC dI cI cJ ad am ou H1 → va_S (nA s) s.heap H1 locs1 → lv_has ls1 8 [(4, .int (nI i)), (3, .ref ou), (2, .ref (am 0)), (1, .ref (ad 0)), (0, .ref b)] → W p l e room_1 s m args below meth c H1 locs1 (cells + 6) (slots + 36) Q (F0 m 1268 ls1 [])) : W p l e room_1 s m args below meth c H locs cells slots Q (F0 m 679 ls []) := by
  obtain ⟨hst, hx, hb, hml, hown, hts, ⟨hX, hbl, hL⟩, hC, hK, hi, hi', had, ham, hao, hdis, hou, hom⟩ := C0
  have hbA : ¬ nA s b := Nat.not_le.mpr hbl
  obtain ⟨d, K, T, G, B, Bc, Bl, Pk, Pr, Pl, Pc, Gf, Gt, Gx, Ek, Er, Ea, Ex, Eb, Ss, Sm, Wg, Wr, Md, Th, Ce, Le, Kc, Ko, Kl, Kd, Ug, Ur, Va, Tt, Td, Gg, Ga, Bt, Si, Te, Bz, Bk, Ou, hR, hP, hM, hO⟩ := I
  obtain ⟨⟨b1, b2, b3, b4, b5⟩, rV, rL, rP, rQ, rD, rW, rX, rE, rY, rG, rR⟩ := hR
  obtain ⟨s5, s6, o, y, y', th, Bc', Bl', Pk', Pr', Pl', Pc', K', Md', Ce', Le', Kc', Ko', Kl', Kd', Va', e5, e6, ho, hth, hr, b2', rV', rL', rP', rQ', rD'⟩ := r_multiply b1 b2 rV rL rP rQ rD (xs (i + 1)) (xs (i + 2)) (w64 (xs (i + 3)) (xs (i + 4))) (bz (xs (i + 5))) Th Md Va
  refine lv_aload_n hx hb dL_law_679 rfl (lv_at hl 3 rfl) ?_
  refine rdI hx hb hX hbl hbA hS hl 4 0 rfl rfl (k := 1) (by decide) (by omega) hL dL_law_680 dL_law_681 dL_law_683 dL_law_684 dL_law_685 ?_
  refine rdI hx hb hX hbl hbA hS hl 4 0 rfl rfl (k := 2) (by decide) (by omega) hL dL_law_686 dL_law_687 dL_law_689 dL_law_690 dL_law_691 ?_
  refine rdI hx hb hX hbl hbA hS hl 4 0 rfl rfl (k := 3) (by decide) (by omega) hL dL_law_692 dL_law_693 dL_law_695 dL_law_696 dL_law_697 ?_
  refine lv_i2l hx hb dL_law_698 rfl ?_
  refine lv_bipush (v := 32) hx hb dL_law_699 (by decide) ?_
  refine lv_lshl hx hb dL_law_701 rfl ?_
  refine rdI hx hb hX hbl hbA hS hl 4 0 rfl rfl (k := 4) (by decide) (by omega) hL dL_law_702 dL_law_703 dL_law_705 dL_law_706 dL_law_707 ?_
  refine lv_i2l hx hb dL_law_708 rfl ?_
  refine lv_ldc2 hx hb hown (hts _ mK_RL_91) dL_law_709 ?_
  refine lv_land hx hb dL_law_712 ?_
  refine lv_lor hx hb dL_law_713 ?_
  refine rdw ?_
  refine rdI hx hb hX hbl hbA hS hl 4 0 rfl rfl (k := 5) (by decide) (by omega) hL dL_law_714 dL_law_715 dL_law_717 dL_law_718 dL_law_719 ?_
  refine rdZ hx hb dL_law_720 dL_law_723 dL_law_724 dL_law_727 ?_
  refine lv_aload_n hx hb dL_law_728 rfl (lv_at hl 1 rfl) ?_
  refine qL_multiply hst hx hb hml hown hts mM_RL_114 ⟨Nat.le_of_ble_eq_true rfl, Nat.le_of_ble_eq_true rfl⟩ ⟨Nat.le_trans (by omega) hc.1, Nat.le_trans (by omega) hc.2⟩ hl.1 (Nat.le_of_ble_eq_true rfl) hS dL_law_729 (in_fO had hao hS.1) hi hou hK hP hO hC (xs (i + 1)) (xs (i + 2)) (w64 (xs (i + 3)) (xs (i + 4))) (bz (xs (i + 5))) s5 (o, y, Bc', Bl', Pk', Pr', Pl', Pc', nI K', Md') e5.symm ho (fun H1 locs1 hP hO hS hk9 hz9 => ?_)
  have hM := keepW hM fs_M (no_fO hdis hom) hk9
  refine lv_istore (lv' := [(5, .int (k_L_multiply o)), (4, .int (nI i)), (3, .ref ou), (2, .ref (am 0)), (1, .ref (ad 0)), (0, .ref b)]) hx hb dL_law_732 hl (by decide) rfl (fun ls hl => ?_)
  refine lv_aload_n hx hb dL_law_734 rfl (lv_at hl 3 rfl) ?_
  refine rdI hx hb hX hbl hbA hS hl 5 1 rfl rfl (k := 1) (by decide) (by omega) hL dL_law_735 dL_law_736 dL_law_738 dL_law_739 dL_law_740 ?_
  refine rdI hx hb hX hbl hbA hS hl 5 1 rfl rfl (k := 2) (by decide) (by omega) hL dL_law_741 dL_law_742 dL_law_744 dL_law_745 dL_law_746 ?_
  refine rdI hx hb hX hbl hbA hS hl 5 1 rfl rfl (k := 3) (by decide) (by omega) hL dL_law_747 dL_law_748 dL_law_750 dL_law_751 dL_law_752 ?_
  refine lv_i2l hx hb dL_law_753 rfl ?_
  refine lv_bipush (v := 32) hx hb dL_law_754 (by decide) ?_
  refine lv_lshl hx hb dL_law_756 rfl ?_
  refine rdI hx hb hX hbl hbA hS hl 5 1 rfl rfl (k := 4) (by decide) (by omega) hL dL_law_757 dL_law_758 dL_law_760 dL_law_761 dL_law_762 ?_
  refine lv_i2l hx hb dL_law_763 rfl ?_
  refine lv_ldc2 hx hb hown (hts _ mK_RL_91) dL_law_764 ?_
  refine lv_land hx hb dL_law_767 ?_
  refine lv_lor hx hb dL_law_768 ?_
  refine rdw ?_
  refine rdI hx hb hX hbl hbA hS hl 5 1 rfl rfl (k := 5) (by decide) (by omega) hL dL_law_769 dL_law_770 dL_law_772 dL_law_773 dL_law_774 ?_
  refine rdZ hx hb dL_law_775 dL_law_778 dL_law_779 dL_law_782 ?_
  refine qf_X6_multiply hx hb hml hown hts mM_RL_116 ⟨Nat.le_of_ble_eq_true rfl, Nat.le_of_ble_eq_true rfl⟩ ⟨Nat.le_trans (by omega) hc.1, Nat.le_trans (by omega) hc.2⟩ hl.1 (Nat.le_of_ble_eq_true rfl) hS dL_law_783 (in_fA ham hS.1) hi' hK hM (xs (i + 1)) (xs (i + 2)) (w64 (xs (i + 3)) (xs (i + 4))) (bz (xs (i + 5))) s6 (y', th, Ce', Le', nI K', Kc', Ko', Kl', Kd', Va') e6.symm (fun H1 locs1 hM hS hk9 hz9 => ?_)
  have hP := keepW hP fs_C (no_fM hdis) hk9
  have hO := keepW hO fs_O (no_fC hom) hk9
  refine lv_istore (lv' := [(6, .int y'), (5, .int (k_L_multiply o)), (4, .int (nI i)), (3, .ref ou), (2, .ref (am 0)), (1, .ref (ad 0)), (0, .ref b)]) hx hb dL_law_786 hl (by decide) rfl (fun ls hl => ?_)
  refine lv_goto (tgt := 1268) hx hb dL_law_788 (by decide) ?_
  refine W.widen (k := cells + 6) (n := slots + 36) (by omega) (by omega) ?_
  exact k _ _ _ ⟨d, K', T, G, B, Bc', Bl', Pk', Pr', Pl', Pc', Gf, Gt, Gx, Ek, Er, Ea, Ex, Eb, Ss, Sm, Wg, Wr, Md', th, Ce', Le', Kc', Ko', Kl', Kd', Ug, Ur, Va', Tt, Td, Gg, Ga, Bt, Si, Te, Bz, Bk, _, ⟨⟨b1, b2', b3, b4, b5⟩, rV', rL', rP', rQ', rD', rW, rX, rE, rY, rG, rR⟩, hP, hM, hO⟩ hS (lv_sub hl [2, 3, 4, 5, 6] rfl)

set_option maxHeartbeats 4000000 in
set_option maxRecDepth 100000 in
theorem cs_divide {p : Program} {l : Launch} {e : Env} {s : State} {m : MethodId} {args : Array Value} {below : List Frame} {meth : Method} {c : Code} {dC : Nat → ClassId} {dI : Nat → Nat → Nat} {cI cJ : ClassId} {ad am : Nat → Nat} {ou b L : Nat} {xs : Nat → Int32} (C0 : LX dC dI cI cJ ad am ou p l s m args c b L xs) {Q : State → Prop} {i : Nat} (hi9 : i + 9 ≤ L) {H : Heap} {locs : List Loc} {cells slots : Nat} {ls : Array Slot} (I : LI dC dI cI cJ ad am ou H) (hS : va_S (nA s) s.heap H locs) (hl : lv_has ls 8 [(4, .int (nI i)), (3, .ref ou), (2, .ref (am 0)), (1, .ref (ad 0)), (0, .ref b)]) (hc : cells + 6 ≤ room_1.cells ∧ slots + 36 ≤ room_1.slots) (k : ∀ (H1 : Heap) (locs1 : List Loc) (ls1 : Array Slot), LI dC dI cI cJ ad am ou H1 → va_S (nA s) s.heap H1 locs1 → lv_has ls1 8 [(4, .int (nI i)), (3, .ref ou), (2, .ref (am 0)), (1, .ref (ad 0)), (0, .ref b)] → W p l e room_1 s m args below meth c H1 locs1 (cells + 6) (slots + 36) Q (F0 m 1268 ls1 [])) : W p l e room_1 s m args below meth c H locs cells slots Q (F0 m 791 ls []) := by
  obtain ⟨hst, hx, hb, hml, hown, hts, ⟨hX, hbl, hL⟩, hC, hK, hi, hi', had, ham, hao, hdis, hou, hom⟩ := C0
  have hbA : ¬ nA s b := Nat.not_le.mpr hbl
  obtain ⟨d, K, T, G, B, Bc, Bl, Pk, Pr, Pl, Pc, Gf, Gt, Gx, Ek, Er, Ea, Ex, Eb, Ss, Sm, Wg, Wr, Md, Th, Ce, Le, Kc, Ko, Kl, Kd, Ug, Ur, Va, Tt, Td, Gg, Ga, Bt, Si, Te, Bz, Bk, Ou, hR, hP, hM, hO⟩ := I
  obtain ⟨⟨b1, b2, b3, b4, b5⟩, rV, rL, rP, rQ, rD, rW, rX, rE, rY, rG, rR⟩ := hR
  obtain ⟨s5, s6, o, y, y', th, Bc', Bl', Pk', Pr', Pl', Pc', K', Md', Ce', Le', Kc', Ko', Kl', Kd', Va', e5, e6, ho, hth, hr, b2', rV', rL', rP', rQ', rD'⟩ := r_divide b1 b2 rV rL rP rQ rD (xs (i + 1)) (xs (i + 2)) (w64 (xs (i + 3)) (xs (i + 4))) (bz (xs (i + 5))) Th Md Va
  refine lv_aload_n hx hb dL_law_791 rfl (lv_at hl 3 rfl) ?_
  refine rdI hx hb hX hbl hbA hS hl 4 0 rfl rfl (k := 1) (by decide) (by omega) hL dL_law_792 dL_law_793 dL_law_795 dL_law_796 dL_law_797 ?_
  refine rdI hx hb hX hbl hbA hS hl 4 0 rfl rfl (k := 2) (by decide) (by omega) hL dL_law_798 dL_law_799 dL_law_801 dL_law_802 dL_law_803 ?_
  refine rdI hx hb hX hbl hbA hS hl 4 0 rfl rfl (k := 3) (by decide) (by omega) hL dL_law_804 dL_law_805 dL_law_807 dL_law_808 dL_law_809 ?_
  refine lv_i2l hx hb dL_law_810 rfl ?_
  refine lv_bipush (v := 32) hx hb dL_law_811 (by decide) ?_
  refine lv_lshl hx hb dL_law_813 rfl ?_
  refine rdI hx hb hX hbl hbA hS hl 4 0 rfl rfl (k := 4) (by decide) (by omega) hL dL_law_814 dL_law_815 dL_law_817 dL_law_818 dL_law_819 ?_
  refine lv_i2l hx hb dL_law_820 rfl ?_
  refine lv_ldc2 hx hb hown (hts _ mK_RL_91) dL_law_821 ?_
  refine lv_land hx hb dL_law_824 ?_
  refine lv_lor hx hb dL_law_825 ?_
  refine rdw ?_
  refine rdI hx hb hX hbl hbA hS hl 4 0 rfl rfl (k := 5) (by decide) (by omega) hL dL_law_826 dL_law_827 dL_law_829 dL_law_830 dL_law_831 ?_
  refine rdZ hx hb dL_law_832 dL_law_835 dL_law_836 dL_law_839 ?_
  refine lv_aload_n hx hb dL_law_840 rfl (lv_at hl 1 rfl) ?_
  refine qL_divide hst hx hb hml hown hts mM_RL_117 ⟨Nat.le_of_ble_eq_true rfl, Nat.le_of_ble_eq_true rfl⟩ ⟨Nat.le_trans (by omega) hc.1, Nat.le_trans (by omega) hc.2⟩ hl.1 (Nat.le_of_ble_eq_true rfl) hS dL_law_841 (in_fO had hao hS.1) hi hou hK hP hO hC (xs (i + 1)) (xs (i + 2)) (w64 (xs (i + 3)) (xs (i + 4))) (bz (xs (i + 5))) s5 (o, y, Bc', Bl', Pk', Pr', Pl', Pc', nI K', Md') e5.symm ho (fun H1 locs1 hP hO hS hk9 hz9 => ?_)
  have hM := keepW hM fs_M (no_fO hdis hom) hk9
  refine lv_istore (lv' := [(5, .int (k_L_divide o)), (4, .int (nI i)), (3, .ref ou), (2, .ref (am 0)), (1, .ref (ad 0)), (0, .ref b)]) hx hb dL_law_844 hl (by decide) rfl (fun ls hl => ?_)
  refine lv_aload_n hx hb dL_law_846 rfl (lv_at hl 3 rfl) ?_
  refine rdI hx hb hX hbl hbA hS hl 5 1 rfl rfl (k := 1) (by decide) (by omega) hL dL_law_847 dL_law_848 dL_law_850 dL_law_851 dL_law_852 ?_
  refine rdI hx hb hX hbl hbA hS hl 5 1 rfl rfl (k := 2) (by decide) (by omega) hL dL_law_853 dL_law_854 dL_law_856 dL_law_857 dL_law_858 ?_
  refine rdI hx hb hX hbl hbA hS hl 5 1 rfl rfl (k := 3) (by decide) (by omega) hL dL_law_859 dL_law_860 dL_law_862 dL_law_863 dL_law_864 ?_
  refine lv_i2l hx hb dL_law_865 rfl ?_
  refine lv_bipush (v := 32) hx hb dL_law_866 (by decide) ?_
  refine lv_lshl hx hb dL_law_868 rfl ?_
  refine rdI hx hb hX hbl hbA hS hl 5 1 rfl rfl (k := 4) (by decide) (by omega) hL dL_law_869 dL_law_870 dL_law_872 dL_law_873 dL_law_874 ?_
  refine lv_i2l hx hb dL_law_875 rfl ?_
  refine lv_ldc2 hx hb hown (hts _ mK_RL_91) dL_law_876 ?_
  refine lv_land hx hb dL_law_879 ?_
  refine lv_lor hx hb dL_law_880 ?_
  refine rdw ?_
  refine rdI hx hb hX hbl hbA hS hl 5 1 rfl rfl (k := 5) (by decide) (by omega) hL dL_law_881 dL_law_882 dL_law_884 dL_law_885 dL_law_886 ?_
  refine rdZ hx hb dL_law_887 dL_law_890 dL_law_891 dL_law_894 ?_
  refine qf_X6_divide hx hb hml hown hts mM_RL_119 ⟨Nat.le_of_ble_eq_true rfl, Nat.le_of_ble_eq_true rfl⟩ ⟨Nat.le_trans (by omega) hc.1, Nat.le_trans (by omega) hc.2⟩ hl.1 (Nat.le_of_ble_eq_true rfl) hS dL_law_895 (in_fA ham hS.1) hi' hK hM (xs (i + 1)) (xs (i + 2)) (w64 (xs (i + 3)) (xs (i + 4))) (bz (xs (i + 5))) s6 (y', th, Ce', Le', nI K', Kc', Ko', Kl', Kd', Va') e6.symm (fun H1 locs1 hM hS hk9 hz9 => ?_)
  have hP := keepW hP fs_C (no_fM hdis) hk9
  have hO := keepW hO fs_O (no_fC hom) hk9
  refine lv_istore (lv' := [(6, .int y'), (5, .int (k_L_divide o)), (4, .int (nI i)), (3, .ref ou), (2, .ref (am 0)), (1, .ref (ad 0)), (0, .ref b)]) hx hb dL_law_898 hl (by decide) rfl (fun ls hl => ?_)
  refine lv_goto (tgt := 1268) hx hb dL_law_900 (by decide) ?_
  refine W.widen (k := cells + 6) (n := slots + 36) (by omega) (by omega) ?_
  exact k _ _ _ ⟨d, K', T, G, B, Bc', Bl', Pk', Pr', Pl', Pc', Gf, Gt, Gx, Ek, Er, Ea, Ex, Eb, Ss, Sm, Wg, Wr, Md', th, Ce', Le', Kc', Ko', Kl', Kd', Ug, Ur, Va', Tt, Td, Gg, Ga, Bt, Si, Te, Bz, Bk, _, ⟨⟨b1, b2', b3, b4, b5⟩, rV', rL', rP', rQ', rD', rW, rX, rE, rY, rG, rR⟩, hP, hM, hO⟩ hS (lv_sub hl [2, 3, 4, 5, 6] rfl)

set_option maxHeartbeats 4000000 in
set_option maxRecDepth 100000 in
theorem cs_take {p : Program} {l : Launch} {e : Env} {s : State} {m : MethodId} {args : Array Value} {below : List Frame} {meth : Method} {c : Code} {dC : Nat → ClassId} {dI : Nat → Nat → Nat} {cI cJ : ClassId} {ad am : Nat → Nat} {ou b L : Nat} {xs : Nat → Int32} (C0 : LX dC dI cI cJ ad am ou p l s m args c b L xs) {Q : State → Prop} {i : Nat} (hi9 : i + 9 ≤ L) {H : Heap} {locs : List Loc} {cells slots : Nat} {ls : Array Slot} (I : LI dC dI cI cJ ad am ou H) (hS : va_S (nA s) s.heap H locs) (hl : lv_has ls 8 [(4, .int (nI i)), (3, .ref ou), (2, .ref (am 0)), (1, .ref (ad 0)), (0, .ref b)]) (hc : cells + 6 ≤ room_1.cells ∧ slots + 36 ≤ room_1.slots) (k : ∀ (H1 : Heap) (locs1 : List Loc) (ls1 : Array Slot), LI dC dI cI cJ ad am ou H1 → va_S (nA s) s.heap H1 locs1 → lv_has ls1 8 [(4, .int (nI i)), (3, .ref ou), (2, .ref (am 0)), (1, .ref (ad 0)), (0, .ref b)] → W p l e room_1 s m args below meth c H1 locs1 (cells + 6) (slots + 36) Q (F0 m 1268 ls1 [])) : W p l e room_1 s m args below meth c H locs cells slots Q (F0 m 903 ls []) := by
  obtain ⟨hst, hx, hb, hml, hown, hts, ⟨hX, hbl, hL⟩, hC, hK, hi, hi', had, ham, hao, hdis, hou, hom⟩ := C0
  have hbA : ¬ nA s b := Nat.not_le.mpr hbl
  obtain ⟨d, K, T, G, B, Bc, Bl, Pk, Pr, Pl, Pc, Gf, Gt, Gx, Ek, Er, Ea, Ex, Eb, Ss, Sm, Wg, Wr, Md, Th, Ce, Le, Kc, Ko, Kl, Kd, Ug, Ur, Va, Tt, Td, Gg, Ga, Bt, Si, Te, Bz, Bk, Ou, hR, hP, hM, hO⟩ := I
  obtain ⟨⟨b1, b2, b3, b4, b5⟩, rV, rL, rP, rQ, rD, rW, rX, rE, rY, rG, rR⟩ := hR
  obtain ⟨s5, s6, o, y, y', th, Bc', Ce', e5, e6, ho, hth, hr, rV'⟩ := r_take rV (xs (i + 1)) Th
  refine lv_aload_n hx hb dL_law_903 rfl (lv_at hl 3 rfl) ?_
  refine rdI hx hb hX hbl hbA hS hl 4 0 rfl rfl (k := 1) (by decide) (by omega) hL dL_law_904 dL_law_905 dL_law_907 dL_law_908 dL_law_909 ?_
  refine lv_aload_n hx hb dL_law_910 rfl (lv_at hl 1 rfl) ?_
  refine qL_take hst hx hb hml hown hts mM_RL_120 ⟨Nat.le_of_ble_eq_true rfl, Nat.le_of_ble_eq_true rfl⟩ ⟨Nat.le_trans (by omega) hc.1, Nat.le_trans (by omega) hc.2⟩ hl.1 (Nat.le_of_ble_eq_true rfl) hS dL_law_911 (in_fO had hao hS.1) hi hou hK hP hO hC (xs (i + 1)) s5 (o, y, Bc') e5.symm ho (fun H1 locs1 hP hO hS hk9 hz9 => ?_)
  have hM := keepW hM fs_M (no_fO hdis hom) hk9
  refine lv_istore (lv' := [(5, .int (k_L_take o)), (4, .int (nI i)), (3, .ref ou), (2, .ref (am 0)), (1, .ref (ad 0)), (0, .ref b)]) hx hb dL_law_914 hl (by decide) rfl (fun ls hl => ?_)
  refine lv_aload_n hx hb dL_law_916 rfl (lv_at hl 3 rfl) ?_
  refine rdI hx hb hX hbl hbA hS hl 5 1 rfl rfl (k := 1) (by decide) (by omega) hL dL_law_917 dL_law_918 dL_law_920 dL_law_921 dL_law_922 ?_
  refine qf_X6_take hx hb hml hown hts mM_RL_122 ⟨Nat.le_of_ble_eq_true rfl, Nat.le_of_ble_eq_true rfl⟩ ⟨Nat.le_trans (by omega) hc.1, Nat.le_trans (by omega) hc.2⟩ hl.1 (Nat.le_of_ble_eq_true rfl) hS dL_law_923 (in_fA ham hS.1) hi' hK hM (xs (i + 1)) s6 (y', th, Ce') e6.symm (fun H1 locs1 hM hS hk9 hz9 => ?_)
  have hP := keepW hP fs_C (no_fM hdis) hk9
  have hO := keepW hO fs_O (no_fC hom) hk9
  refine lv_istore (lv' := [(6, .int y'), (5, .int (k_L_take o)), (4, .int (nI i)), (3, .ref ou), (2, .ref (am 0)), (1, .ref (ad 0)), (0, .ref b)]) hx hb dL_law_926 hl (by decide) rfl (fun ls hl => ?_)
  refine lv_goto (tgt := 1268) hx hb dL_law_928 (by decide) ?_
  refine W.widen (k := cells + 6) (n := slots + 36) (by omega) (by omega) ?_
  exact k _ _ _ ⟨d, K, T, G, B, Bc', Bl, Pk, Pr, Pl, Pc, Gf, Gt, Gx, Ek, Er, Ea, Ex, Eb, Ss, Sm, Wg, Wr, Md, th, Ce', Le, Kc, Ko, Kl, Kd, Ug, Ur, Va, Tt, Td, Gg, Ga, Bt, Si, Te, Bz, Bk, _, ⟨⟨b1, b2, b3, b4, b5⟩, rV', rL, rP, rQ, rD, rW, rX, rE, rY, rG, rR⟩, hP, hM, hO⟩ hS (lv_sub hl [2, 3, 4, 5, 6] rfl)

set_option maxHeartbeats 4000000 in
set_option maxRecDepth 100000 in
theorem cs_group {p : Program} {l : Launch} {e : Env} {s : State} {m : MethodId} {args : Array Value} {below : List Frame} {meth : Method} {c : Code} {dC : Nat → ClassId} {dI : Nat → Nat → Nat} {cI cJ : ClassId} {ad am : Nat → Nat} {ou b L : Nat} {xs : Nat → Int32} (C0 : LX dC dI cI cJ ad am ou p l s m args c b L xs) {Q : State → Prop} {i : Nat} (hi9 : i + 9 ≤ L) {H : Heap} {locs : List Loc} {cells slots : Nat} {ls : Array Slot} (I : LI dC dI cI cJ ad am ou H) (hS : va_S (nA s) s.heap H locs) (hl : lv_has ls 8 [(4, .int (nI i)), (3, .ref ou), (2, .ref (am 0)), (1, .ref (ad 0)), (0, .ref b)]) (hc : cells + 6 ≤ room_1.cells ∧ slots + 36 ≤ room_1.slots) (k : ∀ (H1 : Heap) (locs1 : List Loc) (ls1 : Array Slot), LI dC dI cI cJ ad am ou H1 → va_S (nA s) s.heap H1 locs1 → lv_has ls1 8 [(4, .int (nI i)), (3, .ref ou), (2, .ref (am 0)), (1, .ref (ad 0)), (0, .ref b)] → W p l e room_1 s m args below meth c H1 locs1 (cells + 6) (slots + 36) Q (F0 m 1268 ls1 [])) : W p l e room_1 s m args below meth c H locs cells slots Q (F0 m 931 ls []) := by
  obtain ⟨hst, hx, hb, hml, hown, hts, ⟨hX, hbl, hL⟩, hC, hK, hi, hi', had, ham, hao, hdis, hou, hom⟩ := C0
  have hbA : ¬ nA s b := Nat.not_le.mpr hbl
  obtain ⟨d, K, T, G, B, Bc, Bl, Pk, Pr, Pl, Pc, Gf, Gt, Gx, Ek, Er, Ea, Ex, Eb, Ss, Sm, Wg, Wr, Md, Th, Ce, Le, Kc, Ko, Kl, Kd, Ug, Ur, Va, Tt, Td, Gg, Ga, Bt, Si, Te, Bz, Bk, Ou, hR, hP, hM, hO⟩ := I
  obtain ⟨⟨b1, b2, b3, b4, b5⟩, rV, rL, rP, rQ, rD, rW, rX, rE, rY, rG, rR⟩ := hR
  obtain ⟨s5, o, y, y', th, Gf', Gt', d', e5, e6, ho, hth, hr, b1', rD', rW'⟩ := r_group b1 b2 b3 rD rW Th
  refine lv_aload_n hx hb dL_law_931 rfl (lv_at hl 3 rfl) ?_
  refine lv_aload_n hx hb dL_law_932 rfl (lv_at hl 1 rfl) ?_
  refine qL_group hst hx hb hml hown hts mM_RL_123 ⟨Nat.le_of_ble_eq_true rfl, Nat.le_of_ble_eq_true rfl⟩ ⟨Nat.le_trans (by omega) hc.1, Nat.le_trans (by omega) hc.2⟩ hl.1 (Nat.le_of_ble_eq_true rfl) hS dL_law_933 (in_fO had hao hS.1) hi hou hK hP hO hC s5 (o, y, Gf', Gt', nI d') e5.symm ho (fun H1 locs1 hP hO hS hk9 hz9 => ?_)
  have hM := keepW hM fs_M (no_fO hdis hom) hk9
  refine lv_istore (lv' := [(5, .int (k_L_group o)), (4, .int (nI i)), (3, .ref ou), (2, .ref (am 0)), (1, .ref (ad 0)), (0, .ref b)]) hx hb dL_law_936 hl (by decide) rfl (fun ls hl => ?_)
  refine lv_aload_n hx hb dL_law_938 rfl (lv_at hl 3 rfl) ?_
  refine qf_X6_group hx hb hml hown hts mM_RL_126 ⟨Nat.le_of_ble_eq_true rfl, Nat.le_of_ble_eq_true rfl⟩ ⟨Nat.le_trans (by omega) hc.1, Nat.le_trans (by omega) hc.2⟩ hl.1 (Nat.le_of_ble_eq_true rfl) hS dL_law_939 (in_fA ham hS.1) hi' hK hM (y', th, nI d') e6.symm (fun H1 locs1 hM hS hk9 hz9 => ?_)
  have hP := keepW hP fs_C (no_fM hdis) hk9
  have hO := keepW hO fs_O (no_fC hom) hk9
  refine lv_istore (lv' := [(6, .int y'), (5, .int (k_L_group o)), (4, .int (nI i)), (3, .ref ou), (2, .ref (am 0)), (1, .ref (ad 0)), (0, .ref b)]) hx hb dL_law_942 hl (by decide) rfl (fun ls hl => ?_)
  refine lv_goto (tgt := 1268) hx hb dL_law_944 (by decide) ?_
  refine W.widen (k := cells + 6) (n := slots + 36) (by omega) (by omega) ?_
  exact k _ _ _ ⟨d', K, T, G, B, Bc, Bl, Pk, Pr, Pl, Pc, Gf', Gt', Gx, Ek, Er, Ea, Ex, Eb, Ss, Sm, Wg, Wr, Md, th, Ce, Le, Kc, Ko, Kl, Kd, Ug, Ur, Va, Tt, Td, Gg, Ga, Bt, Si, Te, Bz, Bk, _, ⟨⟨b1', b2, b3, b4, b5⟩, rV, rL, rP, rQ, rD', rW', rX, rE, rY, rG, rR⟩, hP, hM, hO⟩ hS (lv_sub hl [2, 3, 4, 5, 6] rfl)

set_option maxHeartbeats 4000000 in
set_option maxRecDepth 100000 in
theorem cs_after {p : Program} {l : Launch} {e : Env} {s : State} {m : MethodId} {args : Array Value} {below : List Frame} {meth : Method} {c : Code} {dC : Nat → ClassId} {dI : Nat → Nat → Nat} {cI cJ : ClassId} {ad am : Nat → Nat} {ou b L : Nat} {xs : Nat → Int32} (C0 : LX dC dI cI cJ ad am ou p l s m args c b L xs) {Q : State → Prop} {i : Nat} (hi9 : i + 9 ≤ L) {H : Heap} {locs : List Loc} {cells slots : Nat} {ls : Array Slot} (I : LI dC dI cI cJ ad am ou H) (hS : va_S (nA s) s.heap H locs) (hl : lv_has ls 8 [(4, .int (nI i)), (3, .ref ou), (2, .ref (am 0)), (1, .ref (ad 0)), (0, .ref b)]) (hc : cells + 6 ≤ room_1.cells ∧ slots + 36 ≤ room_1.slots) (k : ∀ (H1 : Heap) (locs1 : List Loc) (ls1 : Array Slot), LI dC dI cI cJ ad am ou H1 → va_S (nA s) s.heap H1 locs1 → lv_has ls1 8 [(4, .int (nI i)), (3, .ref ou), (2, .ref (am 0)), (1, .ref (ad 0)), (0, .ref b)] → W p l e room_1 s m args below meth c H1 locs1 (cells + 6) (slots + 36) Q (F0 m 1268 ls1 [])) : W p l e room_1 s m args below meth c H locs cells slots Q (F0 m 947 ls []) := by
  obtain ⟨hst, hx, hb, hml, hown, hts, ⟨hX, hbl, hL⟩, hC, hK, hi, hi', had, ham, hao, hdis, hou, hom⟩ := C0
  have hbA : ¬ nA s b := Nat.not_le.mpr hbl
  obtain ⟨d, K, T, G, B, Bc, Bl, Pk, Pr, Pl, Pc, Gf, Gt, Gx, Ek, Er, Ea, Ex, Eb, Ss, Sm, Wg, Wr, Md, Th, Ce, Le, Kc, Ko, Kl, Kd, Ug, Ur, Va, Tt, Td, Gg, Ga, Bt, Si, Te, Bz, Bk, Ou, hR, hP, hM, hO⟩ := I
  obtain ⟨⟨b1, b2, b3, b4, b5⟩, rV, rL, rP, rQ, rD, rW, rX, rE, rY, rG, rR⟩ := hR
  obtain ⟨s5, s6, o, y, y', th, Gx', Tt', Td', T', e5, e6, ho, hth, hr, b3', rW', rX'⟩ := r_after b1 b3 rW rX (xs (i + 1)) Th
  refine lv_aload_n hx hb dL_law_947 rfl (lv_at hl 3 rfl) ?_
  refine rdI hx hb hX hbl hbA hS hl 4 0 rfl rfl (k := 1) (by decide) (by omega) hL dL_law_948 dL_law_949 dL_law_951 dL_law_952 dL_law_953 ?_
  refine lv_aload_n hx hb dL_law_954 rfl (lv_at hl 1 rfl) ?_
  refine qL_after hst hx hb hml hown hts mM_RL_127 ⟨Nat.le_of_ble_eq_true rfl, Nat.le_of_ble_eq_true rfl⟩ ⟨Nat.le_trans (by omega) hc.1, Nat.le_trans (by omega) hc.2⟩ hl.1 (Nat.le_of_ble_eq_true rfl) hS dL_law_955 (in_fO had hao hS.1) hi hou hK hP hO hC (xs (i + 1)) s5 (o, y, Gx', nI T') e5.symm ho (fun H1 locs1 hP hO hS hk9 hz9 => ?_)
  have hM := keepW hM fs_M (no_fO hdis hom) hk9
  refine lv_istore (lv' := [(5, .int (k_L_after o)), (4, .int (nI i)), (3, .ref ou), (2, .ref (am 0)), (1, .ref (ad 0)), (0, .ref b)]) hx hb dL_law_958 hl (by decide) rfl (fun ls hl => ?_)
  refine lv_aload_n hx hb dL_law_960 rfl (lv_at hl 3 rfl) ?_
  refine rdI hx hb hX hbl hbA hS hl 5 1 rfl rfl (k := 1) (by decide) (by omega) hL dL_law_961 dL_law_962 dL_law_964 dL_law_965 dL_law_966 ?_
  refine qf_X6_after hx hb hml hown hts mM_RL_129 ⟨Nat.le_of_ble_eq_true rfl, Nat.le_of_ble_eq_true rfl⟩ ⟨Nat.le_trans (by omega) hc.1, Nat.le_trans (by omega) hc.2⟩ hl.1 (Nat.le_of_ble_eq_true rfl) hS dL_law_967 (in_fA ham hS.1) hi' hK hM (xs (i + 1)) s6 (y', th, nI T', Tt', Td') e6.symm (fun H1 locs1 hM hS hk9 hz9 => ?_)
  have hP := keepW hP fs_C (no_fM hdis) hk9
  have hO := keepW hO fs_O (no_fC hom) hk9
  refine lv_istore (lv' := [(6, .int y'), (5, .int (k_L_after o)), (4, .int (nI i)), (3, .ref ou), (2, .ref (am 0)), (1, .ref (ad 0)), (0, .ref b)]) hx hb dL_law_970 hl (by decide) rfl (fun ls hl => ?_)
  refine lv_goto (tgt := 1268) hx hb dL_law_972 (by decide) ?_
  refine W.widen (k := cells + 6) (n := slots + 36) (by omega) (by omega) ?_
  exact k _ _ _ ⟨d, K, T', G, B, Bc, Bl, Pk, Pr, Pl, Pc, Gf, Gt, Gx', Ek, Er, Ea, Ex, Eb, Ss, Sm, Wg, Wr, Md, th, Ce, Le, Kc, Ko, Kl, Kd, Ug, Ur, Va, Tt', Td', Gg, Ga, Bt, Si, Te, Bz, Bk, _, ⟨⟨b1, b2, b3', b4, b5⟩, rV, rL, rP, rQ, rD, rW', rX', rE, rY, rG, rR⟩, hP, hM, hO⟩ hS (lv_sub hl [2, 3, 4, 5, 6] rfl)

set_option maxHeartbeats 4000000 in
set_option maxRecDepth 100000 in
theorem cs_end {p : Program} {l : Launch} {e : Env} {s : State} {m : MethodId} {args : Array Value} {below : List Frame} {meth : Method} {c : Code} {dC : Nat → ClassId} {dI : Nat → Nat → Nat} {cI cJ : ClassId} {ad am : Nat → Nat} {ou b L : Nat} {xs : Nat → Int32} (C0 : LX dC dI cI cJ ad am ou p l s m args c b L xs) {Q : State → Prop} {i : Nat} (hi9 : i + 9 ≤ L) {H : Heap} {locs : List Loc} {cells slots : Nat} {ls : Array Slot} (I : LI dC dI cI cJ ad am ou H) (hS : va_S (nA s) s.heap H locs) (hl : lv_has ls 8 [(4, .int (nI i)), (3, .ref ou), (2, .ref (am 0)), (1, .ref (ad 0)), (0, .ref b)]) (hc : cells + 6 ≤ room_1.cells ∧ slots + 36 ≤ room_1.slots) (k : ∀ (H1 : Heap) (locs1 : List Loc) (ls1 : Array Slot), LI dC dI cI cJ ad am ou H1 → va_S (nA s) s.heap H1 locs1 → lv_has ls1 8 [(4, .int (nI i)), (3, .ref ou), (2, .ref (am 0)), (1, .ref (ad 0)), (0, .ref b)] → W p l e room_1 s m args below meth c H1 locs1 (cells + 6) (slots + 36) Q (F0 m 1268 ls1 [])) : W p l e room_1 s m args below meth c H locs cells slots Q (F0 m 975 ls []) := by
  obtain ⟨hst, hx, hb, hml, hown, hts, ⟨hX, hbl, hL⟩, hC, hK, hi, hi', had, ham, hao, hdis, hou, hom⟩ := C0
  have hbA : ¬ nA s b := Nat.not_le.mpr hbl
  obtain ⟨d, K, T, G, B, Bc, Bl, Pk, Pr, Pl, Pc, Gf, Gt, Gx, Ek, Er, Ea, Ex, Eb, Ss, Sm, Wg, Wr, Md, Th, Ce, Le, Kc, Ko, Kl, Kd, Ug, Ur, Va, Tt, Td, Gg, Ga, Bt, Si, Te, Bz, Bk, Ou, hR, hP, hM, hO⟩ := I
  obtain ⟨⟨b1, b2, b3, b4, b5⟩, rV, rL, rP, rQ, rD, rW, rX, rE, rY, rG, rR⟩ := hR
  obtain ⟨s5, s6, o, y, y', th, Bc', Bl', K', d', T', Ek', Er', Ea', Ex', G', Eb', B', Ce', Le', Gg', Ga', Bt', e5, e6, ho, hth, hr, ⟨b1', b2', b3', b4', b5'⟩, rV', rL', rP', rQ', rD', rW', rX', rE', rY'⟩ := r_end b1 b2 b3 b4 b5 rV rL rP rQ rD rW rX rE rY Eb Th
  refine lv_aload_n hx hb dL_law_975 rfl (lv_at hl 3 rfl) ?_
  refine lv_aload_n hx hb dL_law_976 rfl (lv_at hl 1 rfl) ?_
  refine qL_end hst hx hb hml hown hts mM_RL_130 ⟨Nat.le_of_ble_eq_true rfl, Nat.le_of_ble_eq_true rfl⟩ ⟨Nat.le_trans (by omega) hc.1, Nat.le_trans (by omega) hc.2⟩ hl.1 (Nat.le_of_ble_eq_true rfl) hS dL_law_977 (in_fO had hao hS.1) hi hou hK hP hO hC s5 (o, y, Bc', Bl', nI K', nI d', nI T', Ek', Er', Ea', Ex', nI G', Eb', nI B') e5.symm ho (fun H1 locs1 hP hO hS hk9 hz9 => ?_)
  have hM := keepW hM fs_M (no_fO hdis hom) hk9
  refine lv_istore (lv' := [(5, .int (k_L_end o)), (4, .int (nI i)), (3, .ref ou), (2, .ref (am 0)), (1, .ref (ad 0)), (0, .ref b)]) hx hb dL_law_980 hl (by decide) rfl (fun ls hl => ?_)
  refine lv_aload_n hx hb dL_law_982 rfl (lv_at hl 3 rfl) ?_
  refine qf_X6_end hx hb hml hown hts mM_RL_132 ⟨Nat.le_of_ble_eq_true rfl, Nat.le_of_ble_eq_true rfl⟩ ⟨Nat.le_trans (by omega) hc.1, Nat.le_trans (by omega) hc.2⟩ hl.1 (Nat.le_of_ble_eq_true rfl) hS dL_law_983 (in_fA ham hS.1) hi' hK hM s6 (y', th, Ce', Le', nI d', nI K', nI T', nI G', Gg', Ga', nI B', Bt') e6.symm (fun H1 locs1 hM hS hk9 hz9 => ?_)
  have hP := keepW hP fs_C (no_fM hdis) hk9
  have hO := keepW hO fs_O (no_fC hom) hk9
  refine lv_istore (lv' := [(6, .int y'), (5, .int (k_L_end o)), (4, .int (nI i)), (3, .ref ou), (2, .ref (am 0)), (1, .ref (ad 0)), (0, .ref b)]) hx hb dL_law_986 hl (by decide) rfl (fun ls hl => ?_)
  refine lv_goto (tgt := 1268) hx hb dL_law_988 (by decide) ?_
  refine W.widen (k := cells + 6) (n := slots + 36) (by omega) (by omega) ?_
  exact k _ _ _ ⟨d', K', T', G', B', Bc', Bl', Pk, Pr, Pl, Pc, Gf, Gt, Gx, Ek', Er', Ea', Ex', Eb', Ss, Sm, Wg, Wr, Md, th, Ce', Le', Kc, Ko, Kl, Kd, Ug, Ur, Va, Tt, Td, Gg', Ga', Bt', Si, Te, Bz, Bk, _, ⟨⟨b1', b2', b3', b4', b5'⟩, rV', rL', rP', rQ', rD', rW', rX', rE', rY', rG, rR⟩, hP, hM, hO⟩ hS (lv_sub hl [2, 3, 4, 5, 6] rfl)

set_option maxHeartbeats 4000000 in
set_option maxRecDepth 100000 in
theorem cs_restored {p : Program} {l : Launch} {e : Env} {s : State} {m : MethodId} {args : Array Value} {below : List Frame} {meth : Method} {c : Code} {dC : Nat → ClassId} {dI : Nat → Nat → Nat} {cI cJ : ClassId} {ad am : Nat → Nat} {ou b L : Nat} {xs : Nat → Int32} (C0 : LX dC dI cI cJ ad am ou p l s m args c b L xs) {Q : State → Prop} {i : Nat} (hi9 : i + 9 ≤ L) {H : Heap} {locs : List Loc} {cells slots : Nat} {ls : Array Slot} (I : LI dC dI cI cJ ad am ou H) (hS : va_S (nA s) s.heap H locs) (hl : lv_has ls 8 [(4, .int (nI i)), (3, .ref ou), (2, .ref (am 0)), (1, .ref (ad 0)), (0, .ref b)]) (hc : cells + 6 ≤ room_1.cells ∧ slots + 36 ≤ room_1.slots) (k : ∀ (H1 : Heap) (locs1 : List Loc) (ls1 : Array Slot), LI dC dI cI cJ ad am ou H1 → va_S (nA s) s.heap H1 locs1 → lv_has ls1 8 [(4, .int (nI i)), (3, .ref ou), (2, .ref (am 0)), (1, .ref (ad 0)), (0, .ref b)] → W p l e room_1 s m args below meth c H1 locs1 (cells + 6) (slots + 36) Q (F0 m 1268 ls1 [])) : W p l e room_1 s m args below meth c H locs cells slots Q (F0 m 991 ls []) := by
  obtain ⟨hst, hx, hb, hml, hown, hts, ⟨hX, hbl, hL⟩, hC, hK, hi, hi', had, ham, hao, hdis, hou, hom⟩ := C0
  have hbA : ¬ nA s b := Nat.not_le.mpr hbl
  obtain ⟨d, K, T, G, B, Bc, Bl, Pk, Pr, Pl, Pc, Gf, Gt, Gx, Ek, Er, Ea, Ex, Eb, Ss, Sm, Wg, Wr, Md, Th, Ce, Le, Kc, Ko, Kl, Kd, Ug, Ur, Va, Tt, Td, Gg, Ga, Bt, Si, Te, Bz, Bk, Ou, hR, hP, hM, hO⟩ := I
  obtain ⟨⟨b1, b2, b3, b4, b5⟩, rV, rL, rP, rQ, rD, rW, rX, rE, rY, rG, rR⟩ := hR
  obtain ⟨s5, s6, o, y, y', th, e5, e6, ho, hth, hr⟩ := r_restored b4 rE (xs (i + 1)) (xs (i + 2)) Th
  refine lv_aload_n hx hb dL_law_991 rfl (lv_at hl 3 rfl) ?_
  refine rdI hx hb hX hbl hbA hS hl 4 0 rfl rfl (k := 1) (by decide) (by omega) hL dL_law_992 dL_law_993 dL_law_995 dL_law_996 dL_law_997 ?_
  refine rdI hx hb hX hbl hbA hS hl 4 0 rfl rfl (k := 2) (by decide) (by omega) hL dL_law_998 dL_law_999 dL_law_1001 dL_law_1002 dL_law_1003 ?_
  refine lv_aload_n hx hb dL_law_1004 rfl (lv_at hl 1 rfl) ?_
  refine qL_restored hst hx hb hml hown hts mM_RL_133 ⟨Nat.le_of_ble_eq_true rfl, Nat.le_of_ble_eq_true rfl⟩ ⟨Nat.le_trans (by omega) hc.1, Nat.le_trans (by omega) hc.2⟩ hl.1 (Nat.le_of_ble_eq_true rfl) hS dL_law_1005 (in_fO had hao hS.1) hi hou hK hP hO hC (xs (i + 1)) (xs (i + 2)) s5 (o, y) e5.symm ho (fun H1 locs1 hP hO hS hk9 hz9 => ?_)
  have hM := keepW hM fs_M (no_fO hdis hom) hk9
  refine lv_istore (lv' := [(5, .int (k_L_restored o)), (4, .int (nI i)), (3, .ref ou), (2, .ref (am 0)), (1, .ref (ad 0)), (0, .ref b)]) hx hb dL_law_1008 hl (by decide) rfl (fun ls hl => ?_)
  refine lv_aload_n hx hb dL_law_1010 rfl (lv_at hl 3 rfl) ?_
  refine rdI hx hb hX hbl hbA hS hl 5 1 rfl rfl (k := 1) (by decide) (by omega) hL dL_law_1011 dL_law_1012 dL_law_1014 dL_law_1015 dL_law_1016 ?_
  refine rdI hx hb hX hbl hbA hS hl 5 1 rfl rfl (k := 2) (by decide) (by omega) hL dL_law_1017 dL_law_1018 dL_law_1020 dL_law_1021 dL_law_1022 ?_
  refine qf_X6_restored hx hb hml hown hts mM_RL_135 ⟨Nat.le_of_ble_eq_true rfl, Nat.le_of_ble_eq_true rfl⟩ ⟨Nat.le_trans (by omega) hc.1, Nat.le_trans (by omega) hc.2⟩ hl.1 (Nat.le_of_ble_eq_true rfl) hS dL_law_1023 (in_fA ham hS.1) hi' hK hM (xs (i + 1)) (xs (i + 2)) s6 (y', th) e6.symm (fun H1 locs1 hM hS hk9 hz9 => ?_)
  have hP := keepW hP fs_C (no_fM hdis) hk9
  have hO := keepW hO fs_O (no_fC hom) hk9
  refine lv_istore (lv' := [(6, .int y'), (5, .int (k_L_restored o)), (4, .int (nI i)), (3, .ref ou), (2, .ref (am 0)), (1, .ref (ad 0)), (0, .ref b)]) hx hb dL_law_1026 hl (by decide) rfl (fun ls hl => ?_)
  refine lv_goto (tgt := 1268) hx hb dL_law_1028 (by decide) ?_
  refine W.widen (k := cells + 6) (n := slots + 36) (by omega) (by omega) ?_
  exact k _ _ _ ⟨d, K, T, G, B, Bc, Bl, Pk, Pr, Pl, Pc, Gf, Gt, Gx, Ek, Er, Ea, Ex, Eb, Ss, Sm, Wg, Wr, Md, th, Ce, Le, Kc, Ko, Kl, Kd, Ug, Ur, Va, Tt, Td, Gg, Ga, Bt, Si, Te, Bz, Bk, _, ⟨⟨b1, b2, b3, b4, b5⟩, rV, rL, rP, rQ, rD, rW, rX, rE, rY, rG, rR⟩, hP, hM, hO⟩ hS (lv_sub hl [2, 3, 4, 5, 6] rfl)

set_option maxHeartbeats 4000000 in
set_option maxRecDepth 100000 in
theorem cs_behind {p : Program} {l : Launch} {e : Env} {s : State} {m : MethodId} {args : Array Value} {below : List Frame} {meth : Method} {c : Code} {dC : Nat → ClassId} {dI : Nat → Nat → Nat} {cI cJ : ClassId} {ad am : Nat → Nat} {ou b L : Nat} {xs : Nat → Int32} (C0 : LX dC dI cI cJ ad am ou p l s m args c b L xs) {Q : State → Prop} {i : Nat} (hi9 : i + 9 ≤ L) {H : Heap} {locs : List Loc} {cells slots : Nat} {ls : Array Slot} (I : LI dC dI cI cJ ad am ou H) (hS : va_S (nA s) s.heap H locs) (hl : lv_has ls 8 [(4, .int (nI i)), (3, .ref ou), (2, .ref (am 0)), (1, .ref (ad 0)), (0, .ref b)]) (hc : cells + 6 ≤ room_1.cells ∧ slots + 36 ≤ room_1.slots) (k : ∀ (H1 : Heap) (locs1 : List Loc) (ls1 : Array Slot), LI dC dI cI cJ ad am ou H1 → va_S (nA s) s.heap H1 locs1 → lv_has ls1 8 [(4, .int (nI i)), (3, .ref ou), (2, .ref (am 0)), (1, .ref (ad 0)), (0, .ref b)] → W p l e room_1 s m args below meth c H1 locs1 (cells + 6) (slots + 36) Q (F0 m 1268 ls1 [])) : W p l e room_1 s m args below meth c H locs cells slots Q (F0 m 1031 ls []) := by
  obtain ⟨hst, hx, hb, hml, hown, hts, ⟨hX, hbl, hL⟩, hC, hK, hi, hi', had, ham, hao, hdis, hou, hom⟩ := C0
  have hbA : ¬ nA s b := Nat.not_le.mpr hbl
  obtain ⟨d, K, T, G, B, Bc, Bl, Pk, Pr, Pl, Pc, Gf, Gt, Gx, Ek, Er, Ea, Ex, Eb, Ss, Sm, Wg, Wr, Md, Th, Ce, Le, Kc, Ko, Kl, Kd, Ug, Ur, Va, Tt, Td, Gg, Ga, Bt, Si, Te, Bz, Bk, Ou, hR, hP, hM, hO⟩ := I
  obtain ⟨⟨b1, b2, b3, b4, b5⟩, rV, rL, rP, rQ, rD, rW, rX, rE, rY, rG, rR⟩ := hR
  obtain ⟨s5, s6, e6⟩ := r_behind b5 rY (xs (i + 1)) Th
  refine lv_aload_n hx hb dL_law_1031 rfl (lv_at hl 3 rfl) ?_
  refine rdI hx hb hX hbl hbA hS hl 4 0 rfl rfl (k := 1) (by decide) (by omega) hL dL_law_1032 dL_law_1033 dL_law_1035 dL_law_1036 dL_law_1037 ?_
  refine qf_X5_behind hx hb hml hown hts mM_RL_136 ⟨Nat.le_of_ble_eq_true rfl, Nat.le_of_ble_eq_true rfl⟩ ⟨Nat.le_trans (by omega) hc.1, Nat.le_trans (by omega) hc.2⟩ hl.1 (Nat.le_of_ble_eq_true rfl) hS dL_law_1038 (in_fA had hS.1) hi hK hP (xs (i + 1)) s5 _ rfl (fun H1 locs1 hP hS hk9 hz9 => ?_)
  have hM := keepW hM fs_M (no_fA hdis) hk9
  have hO := keepW hO fs_O (no_fC hou) hk9
  refine lv_pop hx hb dL_law_1041 rfl ?_
  refine lv_aload_n hx hb dL_law_1042 rfl (lv_at hl 2 rfl) ?_
  refine rdI hx hb hX hbl hbA hS hl 4 0 rfl rfl (k := 1) (by decide) (by omega) hL dL_law_1043 dL_law_1044 dL_law_1046 dL_law_1047 dL_law_1048 ?_
  refine qf_X6_behind hx hb hml hown hts mM_RL_139 ⟨Nat.le_of_ble_eq_true rfl, Nat.le_of_ble_eq_true rfl⟩ ⟨Nat.le_trans (by omega) hc.1, Nat.le_trans (by omega) hc.2⟩ hl.1 (Nat.le_of_ble_eq_true rfl) hS dL_law_1049 (in_fA ham hS.1) hi' hK hM (xs (i + 1)) s6 (f_X5_behind (xs (i + 1)) Ex (nI B), 0) e6.symm (fun H1 locs1 hM hS hk9 hz9 => ?_)
  have hP := keepW hP fs_C (no_fM hdis) hk9
  have hO := keepW hO fs_O (no_fC hom) hk9
  refine lv_pop hx hb dL_law_1052 rfl ?_
  refine lv_goto (tgt := 1268) hx hb dL_law_1053 (by decide) ?_
  refine W.widen (k := cells + 6) (n := slots + 36) (by omega) (by omega) ?_
  exact k _ _ _ ⟨d, K, T, G, B, Bc, Bl, Pk, Pr, Pl, Pc, Gf, Gt, Gx, Ek, Er, Ea, Ex, Eb, Ss, Sm, Wg, Wr, Md, 0, Ce, Le, Kc, Ko, Kl, Kd, Ug, Ur, Va, Tt, Td, Gg, Ga, Bt, Si, Te, Bz, Bk, _, ⟨⟨b1, b2, b3, b4, b5⟩, rV, rL, rP, rQ, rD, rW, rX, rE, rY, rG, rR⟩, hP, hM, hO⟩ hS (lv_sub hl [0, 1, 2, 3, 4] rfl)

set_option maxHeartbeats 4000000 in
set_option maxRecDepth 100000 in
theorem cs_scaled {p : Program} {l : Launch} {e : Env} {s : State} {m : MethodId} {args : Array Value} {below : List Frame} {meth : Method} {c : Code} {dC : Nat → ClassId} {dI : Nat → Nat → Nat} {cI cJ : ClassId} {ad am : Nat → Nat} {ou b L : Nat} {xs : Nat → Int32} (C0 : LX dC dI cI cJ ad am ou p l s m args c b L xs) {Q : State → Prop} {i : Nat} (hi9 : i + 9 ≤ L) {H : Heap} {locs : List Loc} {cells slots : Nat} {ls : Array Slot} (I : LI dC dI cI cJ ad am ou H) (hS : va_S (nA s) s.heap H locs) (hl : lv_has ls 8 [(4, .int (nI i)), (3, .ref ou), (2, .ref (am 0)), (1, .ref (ad 0)), (0, .ref b)]) (hc : cells + 6 ≤ room_1.cells ∧ slots + 36 ≤ room_1.slots) (k : ∀ (H1 : Heap) (locs1 : List Loc) (ls1 : Array Slot), LI dC dI cI cJ ad am ou H1 → va_S (nA s) s.heap H1 locs1 → lv_has ls1 8 [(4, .int (nI i)), (3, .ref ou), (2, .ref (am 0)), (1, .ref (ad 0)), (0, .ref b)] → W p l e room_1 s m args below meth c H1 locs1 (cells + 6) (slots + 36) Q (F0 m 1268 ls1 [])) : W p l e room_1 s m args below meth c H locs cells slots Q (F0 m 1056 ls []) := by
  obtain ⟨hst, hx, hb, hml, hown, hts, ⟨hX, hbl, hL⟩, hC, hK, hi, hi', had, ham, hao, hdis, hou, hom⟩ := C0
  have hbA : ¬ nA s b := Nat.not_le.mpr hbl
  obtain ⟨d, K, T, G, B, Bc, Bl, Pk, Pr, Pl, Pc, Gf, Gt, Gx, Ek, Er, Ea, Ex, Eb, Ss, Sm, Wg, Wr, Md, Th, Ce, Le, Kc, Ko, Kl, Kd, Ug, Ur, Va, Tt, Td, Gg, Ga, Bt, Si, Te, Bz, Bk, Ou, hR, hP, hM, hO⟩ := I
  obtain ⟨⟨b1, b2, b3, b4, b5⟩, rV, rL, rP, rQ, rD, rW, rX, rE, rY, rG, rR⟩ := hR
  obtain ⟨s5, s6, ho⟩ := r_scaled (xs (i + 1)) (xs (i + 2)) (xs (i + 3)) Th
  refine lv_aload_n hx hb dL_law_1056 rfl (lv_at hl 3 rfl) ?_
  refine rdI hx hb hX hbl hbA hS hl 4 0 rfl rfl (k := 1) (by decide) (by omega) hL dL_law_1057 dL_law_1058 dL_law_1060 dL_law_1061 dL_law_1062 ?_
  refine rdI hx hb hX hbl hbA hS hl 4 0 rfl rfl (k := 2) (by decide) (by omega) hL dL_law_1063 dL_law_1064 dL_law_1066 dL_law_1067 dL_law_1068 ?_
  refine rdI hx hb hX hbl hbA hS hl 4 0 rfl rfl (k := 3) (by decide) (by omega) hL dL_law_1069 dL_law_1070 dL_law_1072 dL_law_1073 dL_law_1074 ?_
  refine lv_aload_n hx hb dL_law_1075 rfl (lv_at hl 1 rfl) ?_
  refine qL_scaled hst hx hb hml hown hts mM_RL_140 ⟨Nat.le_of_ble_eq_true rfl, Nat.le_of_ble_eq_true rfl⟩ ⟨Nat.le_trans (by omega) hc.1, Nat.le_trans (by omega) hc.2⟩ hl.1 (Nat.le_of_ble_eq_true rfl) hS dL_law_1076 (in_fO had hao hS.1) hi hou hK hP hO hC (xs (i + 1)) (xs (i + 2)) (xs (i + 3)) s5 (f_X5_scaled (xs (i + 1)) (xs (i + 2)) (xs (i + 3))) rfl ho (fun H1 locs1 hP hO hS hk9 hz9 => ?_)
  have hM := keepW hM fs_M (no_fO hdis hom) hk9
  refine lv_istore (lv' := [(5, .int (k_L_scaled ((f_X5_scaled (xs (i + 1)) (xs (i + 2)) (xs (i + 3)))).1)), (4, .int (nI i)), (3, .ref ou), (2, .ref (am 0)), (1, .ref (ad 0)), (0, .ref b)]) hx hb dL_law_1079 hl (by decide) rfl (fun ls hl => ?_)
  refine lv_aload_n hx hb dL_law_1081 rfl (lv_at hl 3 rfl) ?_
  refine rdI hx hb hX hbl hbA hS hl 5 1 rfl rfl (k := 1) (by decide) (by omega) hL dL_law_1082 dL_law_1083 dL_law_1085 dL_law_1086 dL_law_1087 ?_
  refine rdI hx hb hX hbl hbA hS hl 5 1 rfl rfl (k := 2) (by decide) (by omega) hL dL_law_1088 dL_law_1089 dL_law_1091 dL_law_1092 dL_law_1093 ?_
  refine rdI hx hb hX hbl hbA hS hl 5 1 rfl rfl (k := 3) (by decide) (by omega) hL dL_law_1094 dL_law_1095 dL_law_1097 dL_law_1098 dL_law_1099 ?_
  refine qf_X6_scaled hx hb hml hown hts mM_RL_143 ⟨Nat.le_of_ble_eq_true rfl, Nat.le_of_ble_eq_true rfl⟩ ⟨Nat.le_trans (by omega) hc.1, Nat.le_trans (by omega) hc.2⟩ hl.1 (Nat.le_of_ble_eq_true rfl) hS dL_law_1100 (in_fA ham hS.1) hi' hK hM (xs (i + 1)) (xs (i + 2)) (xs (i + 3)) s6 (f_X6_scaled (xs (i + 1)) (xs (i + 2)) (xs (i + 3)) Th) rfl (fun H1 locs1 hM hS hk9 hz9 => ?_)
  have hP := keepW hP fs_C (no_fM hdis) hk9
  have hO := keepW hO fs_O (no_fC hom) hk9
  refine lv_lstore (lv' := [(6, .long (((f_X6_scaled (xs (i + 1)) (xs (i + 2)) (xs (i + 3)) Th)).1)), (5, .int (k_L_scaled ((f_X5_scaled (xs (i + 1)) (xs (i + 2)) (xs (i + 3)))).1)), (4, .int (nI i)), (3, .ref ou), (2, .ref (am 0)), (1, .ref (ad 0)), (0, .ref b)]) hx hb dL_law_1103 hl (by decide) rfl (fun ls hl => ?_)
  refine lv_goto (tgt := 1268) hx hb dL_law_1105 (by decide) ?_
  refine W.widen (k := cells + 6) (n := slots + 36) (by omega) (by omega) ?_
  exact k _ _ _ ⟨d, K, T, G, B, Bc, Bl, Pk, Pr, Pl, Pc, Gf, Gt, Gx, Ek, Er, Ea, Ex, Eb, Ss, Sm, Wg, Wr, Md, (f_X6_scaled (xs (i + 1)) (xs (i + 2)) (xs (i + 3)) Th).2, Ce, Le, Kc, Ko, Kl, Kd, Ug, Ur, Va, Tt, Td, Gg, Ga, Bt, Si, Te, Bz, Bk, _, ⟨⟨b1, b2, b3, b4, b5⟩, rV, rL, rP, rQ, rD, rW, rX, rE, rY, rG, rR⟩, hP, hM, hO⟩ hS (lv_sub hl [2, 3, 4, 5, 6] rfl)

set_option maxHeartbeats 4000000 in
set_option maxRecDepth 100000 in
theorem cs_fraction {p : Program} {l : Launch} {e : Env} {s : State} {m : MethodId} {args : Array Value} {below : List Frame} {meth : Method} {c : Code} {dC : Nat → ClassId} {dI : Nat → Nat → Nat} {cI cJ : ClassId} {ad am : Nat → Nat} {ou b L : Nat} {xs : Nat → Int32} (C0 : LX dC dI cI cJ ad am ou p l s m args c b L xs) {Q : State → Prop} {i : Nat} (hi9 : i + 9 ≤ L) {H : Heap} {locs : List Loc} {cells slots : Nat} {ls : Array Slot} (I : LI dC dI cI cJ ad am ou H) (hS : va_S (nA s) s.heap H locs) (hl : lv_has ls 8 [(4, .int (nI i)), (3, .ref ou), (2, .ref (am 0)), (1, .ref (ad 0)), (0, .ref b)]) (hc : cells + 6 ≤ room_1.cells ∧ slots + 36 ≤ room_1.slots) (k : ∀ (H1 : Heap) (locs1 : List Loc) (ls1 : Array Slot), LI dC dI cI cJ ad am ou H1 → va_S (nA s) s.heap H1 locs1 → lv_has ls1 8 [(4, .int (nI i)), (3, .ref ou), (2, .ref (am 0)), (1, .ref (ad 0)), (0, .ref b)] → W p l e room_1 s m args below meth c H1 locs1 (cells + 6) (slots + 36) Q (F0 m 1268 ls1 [])) : W p l e room_1 s m args below meth c H locs cells slots Q (F0 m 1108 ls []) := by
  obtain ⟨hst, hx, hb, hml, hown, hts, ⟨hX, hbl, hL⟩, hC, hK, hi, hi', had, ham, hao, hdis, hou, hom⟩ := C0
  have hbA : ¬ nA s b := Nat.not_le.mpr hbl
  obtain ⟨d, K, T, G, B, Bc, Bl, Pk, Pr, Pl, Pc, Gf, Gt, Gx, Ek, Er, Ea, Ex, Eb, Ss, Sm, Wg, Wr, Md, Th, Ce, Le, Kc, Ko, Kl, Kd, Ug, Ur, Va, Tt, Td, Gg, Ga, Bt, Si, Te, Bz, Bk, Ou, hR, hP, hM, hO⟩ := I
  obtain ⟨⟨b1, b2, b3, b4, b5⟩, rV, rL, rP, rQ, rD, rW, rX, rE, rY, rG, rR⟩ := hR
  obtain ⟨s5, s6, o, y, y', th, e5, e6, ho, hth, hr⟩ := r_fraction (xs (i + 1)) (xs (i + 2)) Th
  refine lv_aload_n hx hb dL_law_1108 rfl (lv_at hl 3 rfl) ?_
  refine rdI hx hb hX hbl hbA hS hl 4 0 rfl rfl (k := 1) (by decide) (by omega) hL dL_law_1109 dL_law_1110 dL_law_1112 dL_law_1113 dL_law_1114 ?_
  refine rdI hx hb hX hbl hbA hS hl 4 0 rfl rfl (k := 2) (by decide) (by omega) hL dL_law_1115 dL_law_1116 dL_law_1118 dL_law_1119 dL_law_1120 ?_
  refine lv_aload_n hx hb dL_law_1121 rfl (lv_at hl 1 rfl) ?_
  refine qL_fraction hst hx hb hml hown hts mM_RL_144 ⟨Nat.le_of_ble_eq_true rfl, Nat.le_of_ble_eq_true rfl⟩ ⟨Nat.le_trans (by omega) hc.1, Nat.le_trans (by omega) hc.2⟩ hl.1 (Nat.le_of_ble_eq_true rfl) hS dL_law_1122 (in_fO had hao hS.1) hi hou hK hP hO hC (xs (i + 1)) (xs (i + 2)) s5 (o, y) e5.symm ho (fun H1 locs1 hP hO hS hk9 hz9 => ?_)
  have hM := keepW hM fs_M (no_fO hdis hom) hk9
  refine lv_istore (lv' := [(5, .int (k_L_fraction o)), (4, .int (nI i)), (3, .ref ou), (2, .ref (am 0)), (1, .ref (ad 0)), (0, .ref b)]) hx hb dL_law_1125 hl (by decide) rfl (fun ls hl => ?_)
  refine lv_aload_n hx hb dL_law_1127 rfl (lv_at hl 3 rfl) ?_
  refine rdI hx hb hX hbl hbA hS hl 5 1 rfl rfl (k := 1) (by decide) (by omega) hL dL_law_1128 dL_law_1129 dL_law_1131 dL_law_1132 dL_law_1133 ?_
  refine rdI hx hb hX hbl hbA hS hl 5 1 rfl rfl (k := 2) (by decide) (by omega) hL dL_law_1134 dL_law_1135 dL_law_1137 dL_law_1138 dL_law_1139 ?_
  refine qf_X6_fraction hx hb hml hown hts mM_RL_146 ⟨Nat.le_of_ble_eq_true rfl, Nat.le_of_ble_eq_true rfl⟩ ⟨Nat.le_trans (by omega) hc.1, Nat.le_trans (by omega) hc.2⟩ hl.1 (Nat.le_of_ble_eq_true rfl) hS dL_law_1140 (in_fA ham hS.1) hi' hK hM (xs (i + 1)) (xs (i + 2)) s6 (y', th) e6.symm (fun H1 locs1 hM hS hk9 hz9 => ?_)
  have hP := keepW hP fs_C (no_fM hdis) hk9
  have hO := keepW hO fs_O (no_fC hom) hk9
  refine lv_istore (lv' := [(6, .int y'), (5, .int (k_L_fraction o)), (4, .int (nI i)), (3, .ref ou), (2, .ref (am 0)), (1, .ref (ad 0)), (0, .ref b)]) hx hb dL_law_1143 hl (by decide) rfl (fun ls hl => ?_)
  refine lv_goto (tgt := 1268) hx hb dL_law_1145 (by decide) ?_
  refine W.widen (k := cells + 6) (n := slots + 36) (by omega) (by omega) ?_
  exact k _ _ _ ⟨d, K, T, G, B, Bc, Bl, Pk, Pr, Pl, Pc, Gf, Gt, Gx, Ek, Er, Ea, Ex, Eb, Ss, Sm, Wg, Wr, Md, th, Ce, Le, Kc, Ko, Kl, Kd, Ug, Ur, Va, Tt, Td, Gg, Ga, Bt, Si, Te, Bz, Bk, _, ⟨⟨b1, b2, b3, b4, b5⟩, rV, rL, rP, rQ, rD, rW, rX, rE, rY, rG, rR⟩, hP, hM, hO⟩ hS (lv_sub hl [2, 3, 4, 5, 6] rfl)

set_option maxHeartbeats 4000000 in
set_option maxRecDepth 100000 in
theorem cs_shown {p : Program} {l : Launch} {e : Env} {s : State} {m : MethodId} {args : Array Value} {below : List Frame} {meth : Method} {c : Code} {dC : Nat → ClassId} {dI : Nat → Nat → Nat} {cI cJ : ClassId} {ad am : Nat → Nat} {ou b L : Nat} {xs : Nat → Int32} (C0 : LX dC dI cI cJ ad am ou p l s m args c b L xs) {Q : State → Prop} {i : Nat} (hi9 : i + 9 ≤ L) {H : Heap} {locs : List Loc} {cells slots : Nat} {ls : Array Slot} (I : LI dC dI cI cJ ad am ou H) (hS : va_S (nA s) s.heap H locs) (hl : lv_has ls 8 [(4, .int (nI i)), (3, .ref ou), (2, .ref (am 0)), (1, .ref (ad 0)), (0, .ref b)]) (hc : cells + 6 ≤ room_1.cells ∧ slots + 36 ≤ room_1.slots) (k : ∀ (H1 : Heap) (locs1 : List Loc) (ls1 : Array Slot), LI dC dI cI cJ ad am ou H1 → va_S (nA s) s.heap H1 locs1 → lv_has ls1 8 [(4, .int (nI i)), (3, .ref ou), (2, .ref (am 0)), (1, .ref (ad 0)), (0, .ref b)] → W p l e room_1 s m args below meth c H1 locs1 (cells + 6) (slots + 36) Q (F0 m 1268 ls1 [])) : W p l e room_1 s m args below meth c H locs cells slots Q (F0 m 1148 ls []) := by
  obtain ⟨hst, hx, hb, hml, hown, hts, ⟨hX, hbl, hL⟩, hC, hK, hi, hi', had, ham, hao, hdis, hou, hom⟩ := C0
  have hbA : ¬ nA s b := Nat.not_le.mpr hbl
  obtain ⟨d, K, T, G, B, Bc, Bl, Pk, Pr, Pl, Pc, Gf, Gt, Gx, Ek, Er, Ea, Ex, Eb, Ss, Sm, Wg, Wr, Md, Th, Ce, Le, Kc, Ko, Kl, Kd, Ug, Ur, Va, Tt, Td, Gg, Ga, Bt, Si, Te, Bz, Bk, Ou, hR, hP, hM, hO⟩ := I
  obtain ⟨⟨b1, b2, b3, b4, b5⟩, rV, rL, rP, rQ, rD, rW, rX, rE, rY, rG, rR⟩ := hR
  obtain ⟨s5, s6, o, y, y', th, Ss', Sm', Si', Te', Bz', Bk', e5, e6, ho, hth, hr⟩ := r_shown rV (xs (i + 1)) (xs (i + 2)) (xs (i + 3)) Th Sm Si Bz Ss Te Bk
  refine lv_aload_n hx hb dL_law_1148 rfl (lv_at hl 3 rfl) ?_
  refine rdI hx hb hX hbl hbA hS hl 4 0 rfl rfl (k := 1) (by decide) (by omega) hL dL_law_1149 dL_law_1150 dL_law_1152 dL_law_1153 dL_law_1154 ?_
  refine rdI hx hb hX hbl hbA hS hl 4 0 rfl rfl (k := 2) (by decide) (by omega) hL dL_law_1155 dL_law_1156 dL_law_1158 dL_law_1159 dL_law_1160 ?_
  refine rdI hx hb hX hbl hbA hS hl 4 0 rfl rfl (k := 3) (by decide) (by omega) hL dL_law_1161 dL_law_1162 dL_law_1164 dL_law_1165 dL_law_1166 ?_
  refine lv_aload_n hx hb dL_law_1167 rfl (lv_at hl 1 rfl) ?_
  refine qL_shown hst hx hb hml hown hts mM_RL_147 ⟨Nat.le_of_ble_eq_true rfl, Nat.le_of_ble_eq_true rfl⟩ ⟨Nat.le_trans (by omega) hc.1, Nat.le_trans (by omega) hc.2⟩ hl.1 (Nat.le_of_ble_eq_true rfl) hS dL_law_1168 (in_fO had hao hS.1) hi hou hK hP hO hC (xs (i + 1)) (xs (i + 2)) (xs (i + 3)) s5 (o, y, Ss', Sm') e5.symm ho (fun H1 locs1 hP hO hS hk9 hz9 => ?_)
  have hM := keepW hM fs_M (no_fO hdis hom) hk9
  refine lv_istore (lv' := [(5, .int (k_L_shown o)), (4, .int (nI i)), (3, .ref ou), (2, .ref (am 0)), (1, .ref (ad 0)), (0, .ref b)]) hx hb dL_law_1171 hl (by decide) rfl (fun ls hl => ?_)
  refine lv_aload_n hx hb dL_law_1173 rfl (lv_at hl 3 rfl) ?_
  refine rdI hx hb hX hbl hbA hS hl 5 1 rfl rfl (k := 1) (by decide) (by omega) hL dL_law_1174 dL_law_1175 dL_law_1177 dL_law_1178 dL_law_1179 ?_
  refine rdI hx hb hX hbl hbA hS hl 5 1 rfl rfl (k := 2) (by decide) (by omega) hL dL_law_1180 dL_law_1181 dL_law_1183 dL_law_1184 dL_law_1185 ?_
  refine rdI hx hb hX hbl hbA hS hl 5 1 rfl rfl (k := 3) (by decide) (by omega) hL dL_law_1186 dL_law_1187 dL_law_1189 dL_law_1190 dL_law_1191 ?_
  refine qf_X6_shown hx hb hml hown hts mM_RL_149 ⟨Nat.le_of_ble_eq_true rfl, Nat.le_of_ble_eq_true rfl⟩ ⟨Nat.le_trans (by omega) hc.1, Nat.le_trans (by omega) hc.2⟩ hl.1 (Nat.le_of_ble_eq_true rfl) hS dL_law_1192 (in_fA ham hS.1) hi' hK hM (xs (i + 1)) (xs (i + 2)) (xs (i + 3)) s6 (y', th, Si', Te', Bz', Bk') e6.symm (fun H1 locs1 hM hS hk9 hz9 => ?_)
  have hP := keepW hP fs_C (no_fM hdis) hk9
  have hO := keepW hO fs_O (no_fC hom) hk9
  refine lv_istore (lv' := [(6, .int y'), (5, .int (k_L_shown o)), (4, .int (nI i)), (3, .ref ou), (2, .ref (am 0)), (1, .ref (ad 0)), (0, .ref b)]) hx hb dL_law_1195 hl (by decide) rfl (fun ls hl => ?_)
  refine lv_goto (tgt := 1268) hx hb dL_law_1197 (by decide) ?_
  refine W.widen (k := cells + 6) (n := slots + 36) (by omega) (by omega) ?_
  exact k _ _ _ ⟨d, K, T, G, B, Bc, Bl, Pk, Pr, Pl, Pc, Gf, Gt, Gx, Ek, Er, Ea, Ex, Eb, Ss', Sm', Wg, Wr, Md, th, Ce, Le, Kc, Ko, Kl, Kd, Ug, Ur, Va, Tt, Td, Gg, Ga, Bt, Si', Te', Bz', Bk', _, ⟨⟨b1, b2, b3, b4, b5⟩, rV, rL, rP, rQ, rD, rW, rX, rE, rY, rG, rR⟩, hP, hM, hO⟩ hS (lv_sub hl [2, 3, 4, 5, 6] rfl)

set_option maxHeartbeats 4000000 in
set_option maxRecDepth 100000 in
theorem cs_told {p : Program} {l : Launch} {e : Env} {s : State} {m : MethodId} {args : Array Value} {below : List Frame} {meth : Method} {c : Code} {dC : Nat → ClassId} {dI : Nat → Nat → Nat} {cI cJ : ClassId} {ad am : Nat → Nat} {ou b L : Nat} {xs : Nat → Int32} (C0 : LX dC dI cI cJ ad am ou p l s m args c b L xs) {Q : State → Prop} {i : Nat} (hi9 : i + 9 ≤ L) {H : Heap} {locs : List Loc} {cells slots : Nat} {ls : Array Slot} (I : LI dC dI cI cJ ad am ou H) (hS : va_S (nA s) s.heap H locs) (hl : lv_has ls 8 [(4, .int (nI i)), (3, .ref ou), (2, .ref (am 0)), (1, .ref (ad 0)), (0, .ref b)]) (hc : cells + 6 ≤ room_1.cells ∧ slots + 36 ≤ room_1.slots) (k : ∀ (H1 : Heap) (locs1 : List Loc) (ls1 : Array Slot), LI dC dI cI cJ ad am ou H1 → va_S (nA s) s.heap H1 locs1 → lv_has ls1 8 [(4, .int (nI i)), (3, .ref ou), (2, .ref (am 0)), (1, .ref (ad 0)), (0, .ref b)] → W p l e room_1 s m args below meth c H1 locs1 (cells + 6) (slots + 36) Q (F0 m 1268 ls1 [])) : W p l e room_1 s m args below meth c H locs cells slots Q (F0 m 1200 ls []) := by
  obtain ⟨hst, hx, hb, hml, hown, hts, ⟨hX, hbl, hL⟩, hC, hK, hi, hi', had, ham, hao, hdis, hou, hom⟩ := C0
  have hbA : ¬ nA s b := Nat.not_le.mpr hbl
  obtain ⟨d, K, T, G, B, Bc, Bl, Pk, Pr, Pl, Pc, Gf, Gt, Gx, Ek, Er, Ea, Ex, Eb, Ss, Sm, Wg, Wr, Md, Th, Ce, Le, Kc, Ko, Kl, Kd, Ug, Ur, Va, Tt, Td, Gg, Ga, Bt, Si, Te, Bz, Bk, Ou, hR, hP, hM, hO⟩ := I
  obtain ⟨⟨b1, b2, b3, b4, b5⟩, rV, rL, rP, rQ, rD, rW, rX, rE, rY, rG, rR⟩ := hR
  obtain ⟨s5, s6, o, y, y', th, e5, e6, ho, hth, hr⟩ := r_told (fun q hq => (rL q hq).1) (xs (i + 1)) (xs (i + 2)) Th
  refine lv_aload_n hx hb dL_law_1200 rfl (lv_at hl 3 rfl) ?_
  refine rdI hx hb hX hbl hbA hS hl 4 0 rfl rfl (k := 1) (by decide) (by omega) hL dL_law_1201 dL_law_1202 dL_law_1204 dL_law_1205 dL_law_1206 ?_
  refine rdI hx hb hX hbl hbA hS hl 4 0 rfl rfl (k := 2) (by decide) (by omega) hL dL_law_1207 dL_law_1208 dL_law_1210 dL_law_1211 dL_law_1212 ?_
  refine lv_aload_n hx hb dL_law_1213 rfl (lv_at hl 1 rfl) ?_
  refine qL_told hst hx hb hml hown hts mM_RL_150 ⟨Nat.le_of_ble_eq_true rfl, Nat.le_of_ble_eq_true rfl⟩ ⟨Nat.le_trans (by omega) hc.1, Nat.le_trans (by omega) hc.2⟩ hl.1 (Nat.le_of_ble_eq_true rfl) hS dL_law_1214 (in_fO had hao hS.1) hi hou hK hP hO hC (xs (i + 1)) (xs (i + 2)) s5 (o, y) e5.symm ho (fun H1 locs1 hP hO hS hk9 hz9 => ?_)
  have hM := keepW hM fs_M (no_fO hdis hom) hk9
  refine lv_istore (lv' := [(5, .int (k_L_told o)), (4, .int (nI i)), (3, .ref ou), (2, .ref (am 0)), (1, .ref (ad 0)), (0, .ref b)]) hx hb dL_law_1217 hl (by decide) rfl (fun ls hl => ?_)
  refine lv_aload_n hx hb dL_law_1219 rfl (lv_at hl 3 rfl) ?_
  refine rdI hx hb hX hbl hbA hS hl 5 1 rfl rfl (k := 1) (by decide) (by omega) hL dL_law_1220 dL_law_1221 dL_law_1223 dL_law_1224 dL_law_1225 ?_
  refine rdI hx hb hX hbl hbA hS hl 5 1 rfl rfl (k := 2) (by decide) (by omega) hL dL_law_1226 dL_law_1227 dL_law_1229 dL_law_1230 dL_law_1231 ?_
  refine qf_X6_told hx hb hml hown hts mM_RL_152 ⟨Nat.le_of_ble_eq_true rfl, Nat.le_of_ble_eq_true rfl⟩ ⟨Nat.le_trans (by omega) hc.1, Nat.le_trans (by omega) hc.2⟩ hl.1 (Nat.le_of_ble_eq_true rfl) hS dL_law_1232 (in_fA ham hS.1) hi' hK hM (xs (i + 1)) (xs (i + 2)) s6 (y', th) e6.symm (fun H1 locs1 hM hS hk9 hz9 => ?_)
  have hP := keepW hP fs_C (no_fM hdis) hk9
  have hO := keepW hO fs_O (no_fC hom) hk9
  refine lv_istore (lv' := [(6, .int y'), (5, .int (k_L_told o)), (4, .int (nI i)), (3, .ref ou), (2, .ref (am 0)), (1, .ref (ad 0)), (0, .ref b)]) hx hb dL_law_1235 hl (by decide) rfl (fun ls hl => ?_)
  refine lv_aload_n hx hb dL_law_1237 rfl (lv_at hl 4 rfl) ?_
  refine qf_X6_thrown hx hb hml hown hts mM_RL_153 ⟨Nat.le_of_ble_eq_true rfl, Nat.le_of_ble_eq_true rfl⟩ ⟨Nat.le_trans (by omega) hc.1, Nat.le_trans (by omega) hc.2⟩ hl.1 (Nat.le_of_ble_eq_true rfl) hS dL_law_1238 (in_fA ham hS.1) hi' hK hM _ rfl (fun H1 locs1 hM hS hk9 hz9 => ?_)
  have hP := keepW hP fs_C (no_fM hdis) hk9
  have hO := keepW hO fs_O (no_fC hom) hk9
  refine lv_iload hx hb dL_law_1241 (lv_at hl 1 rfl) ?_
  refine lv_icmp_eq (tgt := 1248) hx hb dL_law_1243 (by decide) (fun c1 => ?_) (fun c1 => absurd (hth) c1)
  refine lv_iload hx hb dL_law_1248 (lv_at hl 1 rfl) ?_
  refine lv_if_ne (tgt := 1265) hx hb dL_law_1250 (by decide) (fun c2 => ?_) (fun c2 => ?_)
  · refine lv_goto (tgt := 1268) hx hb dL_law_1265 (by decide) ?_
    refine W.widen (k := cells + 6) (n := slots + 36) (by omega) (by omega) ?_
    exact k _ _ _ ⟨d, K, T, G, B, Bc, Bl, Pk, Pr, Pl, Pc, Gf, Gt, Gx, Ek, Er, Ea, Ex, Eb, Ss, Sm, Wg, Wr, Md, th, Ce, Le, Kc, Ko, Kl, Kd, Ug, Ur, Va, Tt, Td, Gg, Ga, Bt, Si, Te, Bz, Bk, _, ⟨⟨b1, b2, b3, b4, b5⟩, rV, rL, rP, rQ, rD, rW, rX, rE, rY, rG, rR⟩, hP, hM, hO⟩ hS (lv_sub hl [2, 3, 4, 5, 6] rfl)
  have h0 : o = 0 := by
    have c2 : k_L_told o = 0 := c2
    rcases ho with h | h | h
    · exact h
    · rw [show o = _ from h] at c2; exact absurd c2 (by decide)
    · rw [show o = _ from h] at c2; exact absurd c2 (by decide)
  refine lv_aload_n hx hb dL_law_1253 rfl (lv_at hl 3 rfl) ?_
  refine lv_iconst (v := 0) hx hb dL_law_1254 (by decide) ?_
  refine va_lald hx hb hK hO 0 1 rfl rfl (by unfold vp_in; decide) dL_law_1255 ?_
  refine lv_iload hx hb dL_law_1256 (lv_at hl 0 rfl) ?_
  refine lv_i2l hx hb dL_law_1258 rfl ?_
  refine W.lcmp hx hb dL_law_1259 ?_
  refine lv_if_eq (tgt := 1265) hx hb dL_law_1260 (by decide) (fun c3 => ?_) (fun c3 => absurd (lc_eq.mpr (ov (o := o) h0 (by rw [hr h0]))) c3)
  refine lv_goto (tgt := 1268) hx hb dL_law_1265 (by decide) ?_
  refine W.widen (k := cells + 6) (n := slots + 36) (by omega) (by omega) ?_
  exact k _ _ _ ⟨d, K, T, G, B, Bc, Bl, Pk, Pr, Pl, Pc, Gf, Gt, Gx, Ek, Er, Ea, Ex, Eb, Ss, Sm, Wg, Wr, Md, th, Ce, Le, Kc, Ko, Kl, Kd, Ug, Ur, Va, Tt, Td, Gg, Ga, Bt, Si, Te, Bz, Bk, _, ⟨⟨b1, b2, b3, b4, b5⟩, rV, rL, rP, rQ, rD, rW, rX, rE, rY, rG, rR⟩, hP, hM, hO⟩ hS (lv_sub hl [2, 3, 4, 5, 6] rfl)
