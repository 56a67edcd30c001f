/-! the law's cases: a call of the class, the same call of the reference, the answers held against each other -/
abbrev lwL (i : Nat) : mLs := [some (.ref 0), some (.ref 4), some (.ref 172), some (.int (nI i))]
theorem g_scr {M : mM} {d pc Ln : Nat} {Ls : mLs} {st : List Value} {F : Nat → Nat → Int32} {g : Nat → Option Nat} {out : mOut} {i : Int32} {X : Nat → Int32} (gx : Nat) (hX : F 0 = X) (hd : decode M.2.1 pc = .ok (.iaload, 1)) (hi : i = nI gx) (hg : gx < Ln) (hn : Ln < 2 ^ 31) (k : mGo M d (pc + 1, Ls, .int (X gx) :: st, mHX Ln F g) out) : mGo M d (pc, Ls, .int i :: .ref 0 :: st, mHX Ln F g) out := g_saldN (n := Ln) gx hd rfl (by decide) hi hg hn (by rw [hX]; exact k)
set_option maxHeartbeats 4000000 in
set_option maxRecDepth 100000 in
theorem lw_set {Ln i : Nat} {X : Nat → Int32} {F F1 F2 : Nat → Nat → Int32} {g g1 : Nat → Option Nat} {r : Int32} {out : mOut} (hn : Ln < 2 ^ 31) (hi : i + 3 ≤ Ln) (h0 : F 0 = X) (h1 : F1 0 = X) (H1 : mCall 7 yX6_set MX6_set [.ref 4, .int (X (i + 1)), .int (X (i + 2))] (mHX Ln F g) (some (.int r)) (mHX Ln F1 g1)) (H2 : mCall 7 yX7_set MX7_set [.ref 172, .int (X (i + 1)), .int (X (i + 2))] (mHX Ln F1 g1) (some (.int r)) (mHX Ln F2 g1)) (K : mGo ML_law 8 (810, lwL i, [], mHX Ln F2 g1) out) : mGo ML_law 8 (152, lwL i, [], mHX Ln F g) out := by
  refine g_aload_n dL_law_152 rfl ?_
  refine g_aload_n dL_law_153 rfl ?_
  refine g_iload_n dL_law_154 rfl ?_
  refine g_iconstv (v := 1) dL_law_155 rfl ?_
  refine g_iadd dL_law_156 ?_
  refine g_scr (i + 1) h0 dL_law_157 (nI_add i 1) (by omega) hn ?_
  refine g_aload_n dL_law_158 rfl ?_
  refine g_iload_n dL_law_159 rfl ?_
  refine g_iconstv (v := 2) dL_law_160 rfl ?_
  refine g_iadd dL_law_161 ?_
  refine g_scr (i + 2) h0 dL_law_162 (nI_add i 2) (by omega) hn ?_
  refine g_V2i dL_law_163 ml_L_13 sX6_set rfl (by decide) (Nat.le_of_ble_eq_true rfl) H1 ?_
  refine g_aload_n dL_law_166 rfl ?_
  refine g_aload_n dL_law_167 rfl ?_
  refine g_iload_n dL_law_168 rfl ?_
  refine g_iconstv (v := 1) dL_law_169 rfl ?_
  refine g_iadd dL_law_170 ?_
  refine g_scr (i + 1) h1 dL_law_171 (nI_add i 1) (by omega) hn ?_
  refine g_aload_n dL_law_172 rfl ?_
  refine g_iload_n dL_law_173 rfl ?_
  refine g_iconstv (v := 2) dL_law_174 rfl ?_
  refine g_iadd dL_law_175 ?_
  refine g_scr (i + 2) h1 dL_law_176 (nI_add i 2) (by omega) hn ?_
  refine g_V2i dL_law_177 ml_L_17 sX7_set rfl (by decide) (Nat.le_of_ble_eq_true rfl) H2 ?_
  exact g_icmp_eq (tgt := 810) dL_law_180 (by decide) (fun _ => K) (fun q => absurd rfl q)
set_option maxHeartbeats 4000000 in
set_option maxRecDepth 100000 in
theorem lw_guest {Ln i : Nat} {X : Nat → Int32} {F F1 F2 : Nat → Nat → Int32} {g g1 : Nat → Option Nat} {r : Int32} {out : mOut} (hn : Ln < 2 ^ 31) (hi : i + 3 ≤ Ln) (h0 : F 0 = X) (h1 : F1 0 = X) (H1 : mCall 7 yX6_guest MX6_guest [.ref 4, .int (X (i + 1)), .int (X (i + 2))] (mHX Ln F g) (some (.int r)) (mHX Ln F1 g1)) (H2 : mCall 7 yX7_guest MX7_guest [.ref 172, .int (X (i + 1)), .int (X (i + 2))] (mHX Ln F1 g1) (some (.int r)) (mHX Ln F2 g1)) (K : mGo ML_law 8 (810, lwL i, [], mHX Ln F2 g1) out) : mGo ML_law 8 (185, lwL i, [], mHX Ln F g) out := by
  refine g_aload_n dL_law_185 rfl ?_
  refine g_aload_n dL_law_186 rfl ?_
  refine g_iload_n dL_law_187 rfl ?_
  refine g_iconstv (v := 1) dL_law_188 rfl ?_
  refine g_iadd dL_law_189 ?_
  refine g_scr (i + 1) h0 dL_law_190 (nI_add i 1) (by omega) hn ?_
  refine g_aload_n dL_law_191 rfl ?_
  refine g_iload_n dL_law_192 rfl ?_
  refine g_iconstv (v := 2) dL_law_193 rfl ?_
  refine g_iadd dL_law_194 ?_
  refine g_scr (i + 2) h0 dL_law_195 (nI_add i 2) (by omega) hn ?_
  refine g_V2i dL_law_196 ml_L_18 sX6_guest rfl (by decide) (Nat.le_of_ble_eq_true rfl) H1 ?_
  refine g_aload_n dL_law_199 rfl ?_
  refine g_aload_n dL_law_200 rfl ?_
  refine g_iload_n dL_law_201 rfl ?_
  refine g_iconstv (v := 1) dL_law_202 rfl ?_
  refine g_iadd dL_law_203 ?_
  refine g_scr (i + 1) h1 dL_law_204 (nI_add i 1) (by omega) hn ?_
  refine g_aload_n dL_law_205 rfl ?_
  refine g_iload_n dL_law_206 rfl ?_
  refine g_iconstv (v := 2) dL_law_207 rfl ?_
  refine g_iadd dL_law_208 ?_
  refine g_scr (i + 2) h1 dL_law_209 (nI_add i 2) (by omega) hn ?_
  refine g_V2i dL_law_210 ml_L_21 sX7_guest rfl (by decide) (Nat.le_of_ble_eq_true rfl) H2 ?_
  exact g_icmp_eq (tgt := 810) dL_law_213 (by decide) (fun _ => K) (fun q => absurd rfl q)
set_option maxHeartbeats 4000000 in
set_option maxRecDepth 100000 in
theorem lw_leave {Ln i : Nat} {X : Nat → Int32} {F F1 F2 : Nat → Nat → Int32} {g g1 : Nat → Option Nat} {r : Int32} {out : mOut} (hn : Ln < 2 ^ 31) (hi : i + 3 ≤ Ln) (h0 : F 0 = X) (h1 : F1 0 = X) (H1 : mCall 7 yX6_leave MX6_leave [.ref 4, .int (X (i + 1))] (mHX Ln F g) (some (.int r)) (mHX Ln F1 g1)) (H2 : mCall 7 yX7_leave MX7_leave [.ref 172, .int (X (i + 1))] (mHX Ln F1 g1) (some (.int r)) (mHX Ln F2 g1)) (K : mGo ML_law 8 (810, lwL i, [], mHX Ln F2 g1) out) : mGo ML_law 8 (218, lwL i, [], mHX Ln F g) out := by
  refine g_aload_n dL_law_218 rfl ?_
  refine g_aload_n dL_law_219 rfl ?_
  refine g_iload_n dL_law_220 rfl ?_
  refine g_iconstv (v := 1) dL_law_221 rfl ?_
  refine g_iadd dL_law_222 ?_
  refine g_scr (i + 1) h0 dL_law_223 (nI_add i 1) (by omega) hn ?_
  refine g_V1i dL_law_224 ml_L_22 sX6_leave rfl (by decide) (Nat.le_of_ble_eq_true rfl) H1 ?_
  refine g_aload_n dL_law_227 rfl ?_
  refine g_aload_n dL_law_228 rfl ?_
  refine g_iload_n dL_law_229 rfl ?_
  refine g_iconstv (v := 1) dL_law_230 rfl ?_
  refine g_iadd dL_law_231 ?_
  refine g_scr (i + 1) h1 dL_law_232 (nI_add i 1) (by omega) hn ?_
  refine g_V1i dL_law_233 ml_L_26 sX7_leave rfl (by decide) (Nat.le_of_ble_eq_true rfl) H2 ?_
  exact g_icmp_eq (tgt := 810) dL_law_236 (by decide) (fun _ => K) (fun q => absurd rfl q)
set_option maxHeartbeats 4000000 in
set_option maxRecDepth 100000 in
theorem lw_move {Ln i : Nat} {X : Nat → Int32} {F F1 F2 : Nat → Nat → Int32} {g g1 : Nat → Option Nat} {r : Int32} {out : mOut} (hn : Ln < 2 ^ 31) (hi : i + 3 ≤ Ln) (h0 : F 0 = X) (h1 : F1 0 = X) (H1 : mCall 7 yX6_move MX6_move [.ref 4, .int (X (i + 1)), .int (X (i + 2))] (mHX Ln F g) (some (.int r)) (mHX Ln F1 g1)) (H2 : mCall 7 yX7_move MX7_move [.ref 172, .int (X (i + 1)), .int (X (i + 2))] (mHX Ln F1 g1) (some (.int r)) (mHX Ln F2 g1)) (K : mGo ML_law 8 (810, lwL i, [], mHX Ln F2 g1) out) : mGo ML_law 8 (241, lwL i, [], mHX Ln F g) out := by
  refine g_aload_n dL_law_241 rfl ?_
  refine g_aload_n dL_law_242 rfl ?_
  refine g_iload_n dL_law_243 rfl ?_
  refine g_iconstv (v := 1) dL_law_244 rfl ?_
  refine g_iadd dL_law_245 ?_
  refine g_scr (i + 1) h0 dL_law_246 (nI_add i 1) (by omega) hn ?_
  refine g_aload_n dL_law_247 rfl ?_
  refine g_iload_n dL_law_248 rfl ?_
  refine g_iconstv (v := 2) dL_law_249 rfl ?_
  refine g_iadd dL_law_250 ?_
  refine g_scr (i + 2) h0 dL_law_251 (nI_add i 2) (by omega) hn ?_
  refine g_V2i dL_law_252 ml_L_27 sX6_move rfl (by decide) (Nat.le_of_ble_eq_true rfl) H1 ?_
  refine g_aload_n dL_law_255 rfl ?_
  refine g_aload_n dL_law_256 rfl ?_
  refine g_iload_n dL_law_257 rfl ?_
  refine g_iconstv (v := 1) dL_law_258 rfl ?_
  refine g_iadd dL_law_259 ?_
  refine g_scr (i + 1) h1 dL_law_260 (nI_add i 1) (by omega) hn ?_
  refine g_aload_n dL_law_261 rfl ?_
  refine g_iload_n dL_law_262 rfl ?_
  refine g_iconstv (v := 2) dL_law_263 rfl ?_
  refine g_iadd dL_law_264 ?_
  refine g_scr (i + 2) h1 dL_law_265 (nI_add i 2) (by omega) hn ?_
  refine g_V2i dL_law_266 ml_L_30 sX7_move rfl (by decide) (Nat.le_of_ble_eq_true rfl) H2 ?_
  exact g_icmp_eq (tgt := 810) dL_law_269 (by decide) (fun _ => K) (fun q => absurd rfl q)
set_option maxHeartbeats 4000000 in
set_option maxRecDepth 100000 in
theorem lw_pause {Ln i : Nat} {X : Nat → Int32} {F F1 F2 : Nat → Nat → Int32} {g g1 : Nat → Option Nat} {r : Int32} {out : mOut} (hn : Ln < 2 ^ 31) (hi : i + 3 ≤ Ln) (h0 : F 0 = X) (h1 : F1 0 = X) (H1 : mCall 7 yX6_pause MX6_pause [.ref 4, .int (X (i + 1))] (mHX Ln F g) (some (.int r)) (mHX Ln F1 g1)) (H2 : mCall 7 yX7_pause MX7_pause [.ref 172, .int (X (i + 1))] (mHX Ln F1 g1) (some (.int r)) (mHX Ln F2 g1)) (K : mGo ML_law 8 (810, lwL i, [], mHX Ln F2 g1) out) : mGo ML_law 8 (274, lwL i, [], mHX Ln F g) out := by
  refine g_aload_n dL_law_274 rfl ?_
  refine g_aload_n dL_law_275 rfl ?_
  refine g_iload_n dL_law_276 rfl ?_
  refine g_iconstv (v := 1) dL_law_277 rfl ?_
  refine g_iadd dL_law_278 ?_
  refine g_scr (i + 1) h0 dL_law_279 (nI_add i 1) (by omega) hn ?_
  refine g_V1i dL_law_280 ml_L_31 sX6_pause rfl (by decide) (Nat.le_of_ble_eq_true rfl) H1 ?_
  refine g_aload_n dL_law_283 rfl ?_
  refine g_aload_n dL_law_284 rfl ?_
  refine g_iload_n dL_law_285 rfl ?_
  refine g_iconstv (v := 1) dL_law_286 rfl ?_
  refine g_iadd dL_law_287 ?_
  refine g_scr (i + 1) h1 dL_law_288 (nI_add i 1) (by omega) hn ?_
  refine g_V1i dL_law_289 ml_L_34 sX7_pause rfl (by decide) (Nat.le_of_ble_eq_true rfl) H2 ?_
  exact g_icmp_eq (tgt := 810) dL_law_292 (by decide) (fun _ => K) (fun q => absurd rfl q)
set_option maxHeartbeats 4000000 in
set_option maxRecDepth 100000 in
theorem lw_close {Ln i : Nat} {X : Nat → Int32} {F F1 F2 : Nat → Nat → Int32} {g g1 : Nat → Option Nat} {r : Int32} {out : mOut} (hn : Ln < 2 ^ 31) (hi : i + 3 ≤ Ln) (h0 : F 0 = X) (h1 : F1 0 = X) (H1 : mCall 7 yX6_close MX6_close [.ref 4, .int (X (i + 1))] (mHX Ln F g) (some (.int r)) (mHX Ln F1 g1)) (H2 : mCall 7 yX7_close MX7_close [.ref 172, .int (X (i + 1))] (mHX Ln F1 g1) (some (.int r)) (mHX Ln F2 g1)) (K : mGo ML_law 8 (810, lwL i, [], mHX Ln F2 g1) out) : mGo ML_law 8 (297, lwL i, [], mHX Ln F g) out := by
  refine g_aload_n dL_law_297 rfl ?_
  refine g_aload_n dL_law_298 rfl ?_
  refine g_iload_n dL_law_299 rfl ?_
  refine g_iconstv (v := 1) dL_law_300 rfl ?_
  refine g_iadd dL_law_301 ?_
  refine g_scr (i + 1) h0 dL_law_302 (nI_add i 1) (by omega) hn ?_
  refine g_V1i dL_law_303 ml_L_35 sX6_close rfl (by decide) (Nat.le_of_ble_eq_true rfl) H1 ?_
  refine g_aload_n dL_law_306 rfl ?_
  refine g_aload_n dL_law_307 rfl ?_
  refine g_iload_n dL_law_308 rfl ?_
  refine g_iconstv (v := 1) dL_law_309 rfl ?_
  refine g_iadd dL_law_310 ?_
  refine g_scr (i + 1) h1 dL_law_311 (nI_add i 1) (by omega) hn ?_
  refine g_V1i dL_law_312 ml_L_38 sX7_close rfl (by decide) (Nat.le_of_ble_eq_true rfl) H2 ?_
  exact g_icmp_eq (tgt := 810) dL_law_315 (by decide) (fun _ => K) (fun q => absurd rfl q)
set_option maxHeartbeats 4000000 in
set_option maxRecDepth 100000 in
theorem lw_word {Ln i : Nat} {X : Nat → Int32} {F F1 F2 : Nat → Nat → Int32} {g g1 : Nat → Option Nat} {r : Int32} {out : mOut} (hn : Ln < 2 ^ 31) (hi : i + 3 ≤ Ln) (h0 : F 0 = X) (h1 : F1 0 = X) (H1 : mCall 7 yX6_word MX6_word [.ref 4, .int (X (i + 1))] (mHX Ln F g) (some (.int r)) (mHX Ln F1 g1)) (H2 : mCall 7 yX7_word MX7_word [.ref 172, .int (X (i + 1))] (mHX Ln F1 g1) (some (.int r)) (mHX Ln F2 g1)) (K : mGo ML_law 8 (810, lwL i, [], mHX Ln F2 g1) out) : mGo ML_law 8 (320, lwL i, [], mHX Ln F g) out := by
  refine g_aload_n dL_law_320 rfl ?_
  refine g_aload_n dL_law_321 rfl ?_
  refine g_iload_n dL_law_322 rfl ?_
  refine g_iconstv (v := 1) dL_law_323 rfl ?_
  refine g_iadd dL_law_324 ?_
  refine g_scr (i + 1) h0 dL_law_325 (nI_add i 1) (by omega) hn ?_
  refine g_V1i dL_law_326 ml_L_39 sX6_word rfl (by decide) (Nat.le_of_ble_eq_true rfl) H1 ?_
  refine g_aload_n dL_law_329 rfl ?_
  refine g_aload_n dL_law_330 rfl ?_
  refine g_iload_n dL_law_331 rfl ?_
  refine g_iconstv (v := 1) dL_law_332 rfl ?_
  refine g_iadd dL_law_333 ?_
  refine g_scr (i + 1) h1 dL_law_334 (nI_add i 1) (by omega) hn ?_
  refine g_V1i dL_law_335 ml_L_42 sX7_word rfl (by decide) (Nat.le_of_ble_eq_true rfl) H2 ?_
  exact g_icmp_eq (tgt := 810) dL_law_338 (by decide) (fun _ => K) (fun q => absurd rfl q)
set_option maxHeartbeats 4000000 in
set_option maxRecDepth 100000 in
theorem lw_cough {Ln i : Nat} {X : Nat → Int32} {F F1 F2 : Nat → Nat → Int32} {g g1 : Nat → Option Nat} {r : Int32} {out : mOut} (hn : Ln < 2 ^ 31) (hi : i + 3 ≤ Ln) (h0 : F 0 = X) (h1 : F1 0 = X) (H1 : mCall 7 yX6_cough MX6_cough [.ref 4, .int (X (i + 1))] (mHX Ln F g) (some (.int r)) (mHX Ln F1 g1)) (H2 : mCall 7 yX7_cough MX7_cough [.ref 172, .int (X (i + 1))] (mHX Ln F1 g1) (some (.int r)) (mHX Ln F2 g1)) (K : mGo ML_law 8 (810, lwL i, [], mHX Ln F2 g1) out) : mGo ML_law 8 (343, lwL i, [], mHX Ln F g) out := by
  refine g_aload_n dL_law_343 rfl ?_
  refine g_aload_n dL_law_344 rfl ?_
  refine g_iload_n dL_law_345 rfl ?_
  refine g_iconstv (v := 1) dL_law_346 rfl ?_
  refine g_iadd dL_law_347 ?_
  refine g_scr (i + 1) h0 dL_law_348 (nI_add i 1) (by omega) hn ?_
  refine g_V1i dL_law_349 ml_L_43 sX6_cough rfl (by decide) (Nat.le_of_ble_eq_true rfl) H1 ?_
  refine g_aload_n dL_law_352 rfl ?_
  refine g_aload_n dL_law_353 rfl ?_
  refine g_iload_n dL_law_354 rfl ?_
  refine g_iconstv (v := 1) dL_law_355 rfl ?_
  refine g_iadd dL_law_356 ?_
  refine g_scr (i + 1) h1 dL_law_357 (nI_add i 1) (by omega) hn ?_
  refine g_V1i dL_law_358 ml_L_46 sX7_cough rfl (by decide) (Nat.le_of_ble_eq_true rfl) H2 ?_
  exact g_icmp_eq (tgt := 810) dL_law_361 (by decide) (fun _ => K) (fun q => absurd rfl q)
set_option maxHeartbeats 4000000 in
set_option maxRecDepth 100000 in
theorem lw_pass {Ln i : Nat} {X : Nat → Int32} {F F1 F2 : Nat → Nat → Int32} {g g1 : Nat → Option Nat} {r : Int32} {out : mOut} (hn : Ln < 2 ^ 31) (hi : i + 3 ≤ Ln) (h0 : F 0 = X) (h1 : F1 0 = X) (H1 : mCall 7 yX6_pass MX6_pass [.ref 4, .int (X (i + 1))] (mHX Ln F g) (some (.int r)) (mHX Ln F1 g1)) (H2 : mCall 7 yX7_pass MX7_pass [.ref 172, .int (X (i + 1))] (mHX Ln F1 g1) (some (.int r)) (mHX Ln F2 g1)) (K : mGo ML_law 8 (810, lwL i, [], mHX Ln F2 g1) out) : mGo ML_law 8 (366, lwL i, [], mHX Ln F g) out := by
  refine g_aload_n dL_law_366 rfl ?_
  refine g_aload_n dL_law_367 rfl ?_
  refine g_iload_n dL_law_368 rfl ?_
  refine g_iconstv (v := 1) dL_law_369 rfl ?_
  refine g_iadd dL_law_370 ?_
  refine g_scr (i + 1) h0 dL_law_371 (nI_add i 1) (by omega) hn ?_
  refine g_V1i dL_law_372 ml_L_47 sX6_pass rfl (by decide) (Nat.le_of_ble_eq_true rfl) H1 ?_
  refine g_aload_n dL_law_375 rfl ?_
  refine g_aload_n dL_law_376 rfl ?_
  refine g_iload_n dL_law_377 rfl ?_
  refine g_iconstv (v := 1) dL_law_378 rfl ?_
  refine g_iadd dL_law_379 ?_
  refine g_scr (i + 1) h1 dL_law_380 (nI_add i 1) (by omega) hn ?_
  refine g_V1i dL_law_381 ml_L_50 sX7_pass rfl (by decide) (Nat.le_of_ble_eq_true rfl) H2 ?_
  exact g_icmp_eq (tgt := 810) dL_law_384 (by decide) (fun _ => K) (fun q => absurd rfl q)
set_option maxHeartbeats 4000000 in
set_option maxRecDepth 100000 in
theorem lw_of {Ln i : Nat} {X : Nat → Int32} {F F1 F2 : Nat → Nat → Int32} {g g1 : Nat → Option Nat} {r : Int32} {out : mOut} (hn : Ln < 2 ^ 31) (hi : i + 3 ≤ Ln) (h0 : F 0 = X) (h1 : F1 0 = X) (H1 : mCall 7 yX6_of MX6_of [.ref 4, .int (X (i + 1)), .int (X (i + 2))] (mHX Ln F g) (some (.int r)) (mHX Ln F1 g1)) (H2 : mCall 7 yX7_of MX7_of [.ref 172, .int (X (i + 1)), .int (X (i + 2))] (mHX Ln F1 g1) (some (.int r)) (mHX Ln F2 g1)) (K : mGo ML_law 8 (810, lwL i, [], mHX Ln F2 g1) out) : mGo ML_law 8 (389, lwL i, [], mHX Ln F g) out := by
  refine g_aload_n dL_law_389 rfl ?_
  refine g_aload_n dL_law_390 rfl ?_
  refine g_iload_n dL_law_391 rfl ?_
  refine g_iconstv (v := 1) dL_law_392 rfl ?_
  refine g_iadd dL_law_393 ?_
  refine g_scr (i + 1) h0 dL_law_394 (nI_add i 1) (by omega) hn ?_
  refine g_aload_n dL_law_395 rfl ?_
  refine g_iload_n dL_law_396 rfl ?_
  refine g_iconstv (v := 2) dL_law_397 rfl ?_
  refine g_iadd dL_law_398 ?_
  refine g_scr (i + 2) h0 dL_law_399 (nI_add i 2) (by omega) hn ?_
  refine g_V2i dL_law_400 ml_L_51 sX6_of rfl (by decide) (Nat.le_of_ble_eq_true rfl) H1 ?_
  refine g_aload_n dL_law_403 rfl ?_
  refine g_aload_n dL_law_404 rfl ?_
  refine g_iload_n dL_law_405 rfl ?_
  refine g_iconstv (v := 1) dL_law_406 rfl ?_
  refine g_iadd dL_law_407 ?_
  refine g_scr (i + 1) h1 dL_law_408 (nI_add i 1) (by omega) hn ?_
  refine g_aload_n dL_law_409 rfl ?_
  refine g_iload_n dL_law_410 rfl ?_
  refine g_iconstv (v := 2) dL_law_411 rfl ?_
  refine g_iadd dL_law_412 ?_
  refine g_scr (i + 2) h1 dL_law_413 (nI_add i 2) (by omega) hn ?_
  refine g_V2i dL_law_414 ml_L_54 sX7_of rfl (by decide) (Nat.le_of_ble_eq_true rfl) H2 ?_
  exact g_icmp_eq (tgt := 810) dL_law_417 (by decide) (fun _ => K) (fun q => absurd rfl q)
set_option maxHeartbeats 4000000 in
set_option maxRecDepth 100000 in
theorem lw_table {Ln i : Nat} {X : Nat → Int32} {F F1 F2 : Nat → Nat → Int32} {g g1 : Nat → Option Nat} {r : Int32} {out : mOut} (hn : Ln < 2 ^ 31) (hi : i + 3 ≤ Ln) (h0 : F 0 = X) (h1 : F1 0 = X) (H1 : mCall 7 yX6_table MX6_table [.ref 4, .int (X (i + 1)), .int (X (i + 2))] (mHX Ln F g) (some (.int r)) (mHX Ln F1 g1)) (H2 : mCall 7 yX7_table MX7_table [.ref 172, .int (X (i + 1)), .int (X (i + 2))] (mHX Ln F1 g1) (some (.int r)) (mHX Ln F2 g1)) (K : mGo ML_law 8 (810, lwL i, [], mHX Ln F2 g1) out) : mGo ML_law 8 (422, lwL i, [], mHX Ln F g) out := by
  refine g_aload_n dL_law_422 rfl ?_
  refine g_aload_n dL_law_423 rfl ?_
  refine g_iload_n dL_law_424 rfl ?_
  refine g_iconstv (v := 1) dL_law_425 rfl ?_
  refine g_iadd dL_law_426 ?_
  refine g_scr (i + 1) h0 dL_law_427 (nI_add i 1) (by omega) hn ?_
  refine g_aload_n dL_law_428 rfl ?_
  refine g_iload_n dL_law_429 rfl ?_
  refine g_iconstv (v := 2) dL_law_430 rfl ?_
  refine g_iadd dL_law_431 ?_
  refine g_scr (i + 2) h0 dL_law_432 (nI_add i 2) (by omega) hn ?_
  refine g_V2i dL_law_433 ml_L_55 sX6_table rfl (by decide) (Nat.le_of_ble_eq_true rfl) H1 ?_
  refine g_aload_n dL_law_436 rfl ?_
  refine g_aload_n dL_law_437 rfl ?_
  refine g_iload_n dL_law_438 rfl ?_
  refine g_iconstv (v := 1) dL_law_439 rfl ?_
  refine g_iadd dL_law_440 ?_
  refine g_scr (i + 1) h1 dL_law_441 (nI_add i 1) (by omega) hn ?_
  refine g_aload_n dL_law_442 rfl ?_
  refine g_iload_n dL_law_443 rfl ?_
  refine g_iconstv (v := 2) dL_law_444 rfl ?_
  refine g_iadd dL_law_445 ?_
  refine g_scr (i + 2) h1 dL_law_446 (nI_add i 2) (by omega) hn ?_
  refine g_V2i dL_law_447 ml_L_58 sX7_table rfl (by decide) (Nat.le_of_ble_eq_true rfl) H2 ?_
  exact g_icmp_eq (tgt := 810) dL_law_450 (by decide) (fun _ => K) (fun q => absurd rfl q)
set_option maxHeartbeats 4000000 in
set_option maxRecDepth 100000 in
theorem lw_meaning {Ln i : Nat} {X : Nat → Int32} {F F1 F2 : Nat → Nat → Int32} {g g1 : Nat → Option Nat} {r : Int32} {out : mOut} (hn : Ln < 2 ^ 31) (hi : i + 3 ≤ Ln) (h0 : F 0 = X) (h1 : F1 0 = X) (H1 : mCall 7 yX6_meaning MX6_meaning [.ref 4, .int (X (i + 1)), .int (X (i + 2))] (mHX Ln F g) (some (.int r)) (mHX Ln F1 g1)) (H2 : mCall 7 yX7_meaning MX7_meaning [.ref 172, .int (X (i + 1)), .int (X (i + 2))] (mHX Ln F1 g1) (some (.int r)) (mHX Ln F2 g1)) (K : mGo ML_law 8 (810, lwL i, [], mHX Ln F2 g1) out) : mGo ML_law 8 (455, lwL i, [], mHX Ln F g) out := by
  refine g_aload_n dL_law_455 rfl ?_
  refine g_aload_n dL_law_456 rfl ?_
  refine g_iload_n dL_law_457 rfl ?_
  refine g_iconstv (v := 1) dL_law_458 rfl ?_
  refine g_iadd dL_law_459 ?_
  refine g_scr (i + 1) h0 dL_law_460 (nI_add i 1) (by omega) hn ?_
  refine g_aload_n dL_law_461 rfl ?_
  refine g_iload_n dL_law_462 rfl ?_
  refine g_iconstv (v := 2) dL_law_463 rfl ?_
  refine g_iadd dL_law_464 ?_
  refine g_scr (i + 2) h0 dL_law_465 (nI_add i 2) (by omega) hn ?_
  refine g_V2i dL_law_466 ml_L_59 sX6_meaning rfl (by decide) (Nat.le_of_ble_eq_true rfl) H1 ?_
  refine g_aload_n dL_law_469 rfl ?_
  refine g_aload_n dL_law_470 rfl ?_
  refine g_iload_n dL_law_471 rfl ?_
  refine g_iconstv (v := 1) dL_law_472 rfl ?_
  refine g_iadd dL_law_473 ?_
  refine g_scr (i + 1) h1 dL_law_474 (nI_add i 1) (by omega) hn ?_
  refine g_aload_n dL_law_475 rfl ?_
  refine g_iload_n dL_law_476 rfl ?_
  refine g_iconstv (v := 2) dL_law_477 rfl ?_
  refine g_iadd dL_law_478 ?_
  refine g_scr (i + 2) h1 dL_law_479 (nI_add i 2) (by omega) hn ?_
  refine g_V2i dL_law_480 ml_L_62 sX7_meaning rfl (by decide) (Nat.le_of_ble_eq_true rfl) H2 ?_
  exact g_icmp_eq (tgt := 810) dL_law_483 (by decide) (fun _ => K) (fun q => absurd rfl q)
set_option maxHeartbeats 4000000 in
set_option maxRecDepth 100000 in
theorem lw_end {Ln i : Nat} {X : Nat → Int32} {F F1 F2 : Nat → Nat → Int32} {g g1 : Nat → Option Nat} {r : Int32} {out : mOut} (hn : Ln < 2 ^ 31) (hi : i + 3 ≤ Ln) (h0 : F 0 = X) (h1 : F1 0 = X) (H1 : mCall 7 yX6_end MX6_end [.ref 4, .int (X (i + 1)), .int (X (i + 2))] (mHX Ln F g) (some (.int r)) (mHX Ln F1 g1)) (H2 : mCall 7 yX7_end MX7_end [.ref 172, .int (X (i + 1)), .int (X (i + 2))] (mHX Ln F1 g1) (some (.int r)) (mHX Ln F2 g1)) (K : mGo ML_law 8 (810, lwL i, [], mHX Ln F2 g1) out) : mGo ML_law 8 (488, lwL i, [], mHX Ln F g) out := by
  refine g_aload_n dL_law_488 rfl ?_
  refine g_aload_n dL_law_489 rfl ?_
  refine g_iload_n dL_law_490 rfl ?_
  refine g_iconstv (v := 1) dL_law_491 rfl ?_
  refine g_iadd dL_law_492 ?_
  refine g_scr (i + 1) h0 dL_law_493 (nI_add i 1) (by omega) hn ?_
  refine g_aload_n dL_law_494 rfl ?_
  refine g_iload_n dL_law_495 rfl ?_
  refine g_iconstv (v := 2) dL_law_496 rfl ?_
  refine g_iadd dL_law_497 ?_
  refine g_scr (i + 2) h0 dL_law_498 (nI_add i 2) (by omega) hn ?_
  refine g_V2i dL_law_499 ml_L_63 sX6_end rfl (by decide) (Nat.le_of_ble_eq_true rfl) H1 ?_
  refine g_aload_n dL_law_502 rfl ?_
  refine g_aload_n dL_law_503 rfl ?_
  refine g_iload_n dL_law_504 rfl ?_
  refine g_iconstv (v := 1) dL_law_505 rfl ?_
  refine g_iadd dL_law_506 ?_
  refine g_scr (i + 1) h1 dL_law_507 (nI_add i 1) (by omega) hn ?_
  refine g_aload_n dL_law_508 rfl ?_
  refine g_iload_n dL_law_509 rfl ?_
  refine g_iconstv (v := 2) dL_law_510 rfl ?_
  refine g_iadd dL_law_511 ?_
  refine g_scr (i + 2) h1 dL_law_512 (nI_add i 2) (by omega) hn ?_
  refine g_V2i dL_law_513 ml_L_66 sX7_end rfl (by decide) (Nat.le_of_ble_eq_true rfl) H2 ?_
  exact g_icmp_eq (tgt := 810) dL_law_516 (by decide) (fun _ => K) (fun q => absurd rfl q)
set_option maxHeartbeats 4000000 in
set_option maxRecDepth 100000 in
theorem lw_count {Ln i : Nat} {X : Nat → Int32} {F F1 F2 : Nat → Nat → Int32} {g g1 : Nat → Option Nat} {r : Int32} {out : mOut} (hn : Ln < 2 ^ 31) (hi : i + 3 ≤ Ln) (h0 : F 0 = X) (h1 : F1 0 = X) (H1 : mCall 7 yX6_count MX6_count [.ref 4, .int (X (i + 1))] (mHX Ln F g) (some (.int r)) (mHX Ln F1 g1)) (H2 : mCall 7 yX7_count MX7_count [.ref 172, .int (X (i + 1))] (mHX Ln F1 g1) (some (.int r)) (mHX Ln F2 g1)) (K : mGo ML_law 8 (810, lwL i, [], mHX Ln F2 g1) out) : mGo ML_law 8 (521, lwL i, [], mHX Ln F g) out := by
  refine g_aload_n dL_law_521 rfl ?_
  refine g_aload_n dL_law_522 rfl ?_
  refine g_iload_n dL_law_523 rfl ?_
  refine g_iconstv (v := 1) dL_law_524 rfl ?_
  refine g_iadd dL_law_525 ?_
  refine g_scr (i + 1) h0 dL_law_526 (nI_add i 1) (by omega) hn ?_
  refine g_V1i dL_law_527 ml_L_67 sX6_count rfl (by decide) (Nat.le_of_ble_eq_true rfl) H1 ?_
  refine g_aload_n dL_law_530 rfl ?_
  refine g_aload_n dL_law_531 rfl ?_
  refine g_iload_n dL_law_532 rfl ?_
  refine g_iconstv (v := 1) dL_law_533 rfl ?_
  refine g_iadd dL_law_534 ?_
  refine g_scr (i + 1) h1 dL_law_535 (nI_add i 1) (by omega) hn ?_
  refine g_V1i dL_law_536 ml_L_70 sX7_count rfl (by decide) (Nat.le_of_ble_eq_true rfl) H2 ?_
  exact g_icmp_eq (tgt := 810) dL_law_539 (by decide) (fun _ => K) (fun q => absurd rfl q)
set_option maxHeartbeats 4000000 in
set_option maxRecDepth 100000 in
theorem lw_wouldMean {Ln i : Nat} {X : Nat → Int32} {F F1 F2 : Nat → Nat → Int32} {g g1 : Nat → Option Nat} {r : Int32} {out : mOut} (hn : Ln < 2 ^ 31) (hi : i + 3 ≤ Ln) (h0 : F 0 = X) (h1 : F1 0 = X) (H1 : mCall 7 yX6_wouldMean MX6_wouldMean [.ref 4, .int (X (i + 1)), .int (X (i + 2))] (mHX Ln F g) (some (.int r)) (mHX Ln F1 g1)) (H2 : mCall 7 yX7_wouldMean MX7_wouldMean [.ref 172, .int (X (i + 1)), .int (X (i + 2))] (mHX Ln F1 g1) (some (.int r)) (mHX Ln F2 g1)) (K : mGo ML_law 8 (810, lwL i, [], mHX Ln F2 g1) out) : mGo ML_law 8 (544, lwL i, [], mHX Ln F g) out := by
  refine g_aload_n dL_law_544 rfl ?_
  refine g_aload_n dL_law_545 rfl ?_
  refine g_iload_n dL_law_546 rfl ?_
  refine g_iconstv (v := 1) dL_law_547 rfl ?_
  refine g_iadd dL_law_548 ?_
  refine g_scr (i + 1) h0 dL_law_549 (nI_add i 1) (by omega) hn ?_
  refine g_aload_n dL_law_550 rfl ?_
  refine g_iload_n dL_law_551 rfl ?_
  refine g_iconstv (v := 2) dL_law_552 rfl ?_
  refine g_iadd dL_law_553 ?_
  refine g_scr (i + 2) h0 dL_law_554 (nI_add i 2) (by omega) hn ?_
  refine g_V2i dL_law_555 ml_L_71 sX6_wouldMean rfl (by decide) (Nat.le_of_ble_eq_true rfl) H1 ?_
  refine g_aload_n dL_law_558 rfl ?_
  refine g_aload_n dL_law_559 rfl ?_
  refine g_iload_n dL_law_560 rfl ?_
  refine g_iconstv (v := 1) dL_law_561 rfl ?_
  refine g_iadd dL_law_562 ?_
  refine g_scr (i + 1) h1 dL_law_563 (nI_add i 1) (by omega) hn ?_
  refine g_aload_n dL_law_564 rfl ?_
  refine g_iload_n dL_law_565 rfl ?_
  refine g_iconstv (v := 2) dL_law_566 rfl ?_
  refine g_iadd dL_law_567 ?_
  refine g_scr (i + 2) h1 dL_law_568 (nI_add i 2) (by omega) hn ?_
  refine g_V2i dL_law_569 ml_L_74 sX7_wouldMean rfl (by decide) (Nat.le_of_ble_eq_true rfl) H2 ?_
  exact g_icmp_eq (tgt := 810) dL_law_572 (by decide) (fun _ => K) (fun q => absurd rfl q)
set_option maxHeartbeats 4000000 in
set_option maxRecDepth 100000 in
theorem lw_turnsIn {Ln i : Nat} {X : Nat → Int32} {F F1 F2 : Nat → Nat → Int32} {g g1 : Nat → Option Nat} {r : Int32} {out : mOut} (hn : Ln < 2 ^ 31) (hi : i + 3 ≤ Ln) (h0 : F 0 = X) (h1 : F1 0 = X) (H1 : mCall 7 yX6_turnsIn MX6_turnsIn [.ref 4, .int (X (i + 1))] (mHX Ln F g) (some (.int r)) (mHX Ln F1 g1)) (H2 : mCall 7 yX7_turnsIn MX7_turnsIn [.ref 172, .int (X (i + 1))] (mHX Ln F1 g1) (some (.int r)) (mHX Ln F2 g1)) (K : mGo ML_law 8 (810, lwL i, [], mHX Ln F2 g1) out) : mGo ML_law 8 (577, lwL i, [], mHX Ln F g) out := by
  refine g_aload_n dL_law_577 rfl ?_
  refine g_aload_n dL_law_578 rfl ?_
  refine g_iload_n dL_law_579 rfl ?_
  refine g_iconstv (v := 1) dL_law_580 rfl ?_
  refine g_iadd dL_law_581 ?_
  refine g_scr (i + 1) h0 dL_law_582 (nI_add i 1) (by omega) hn ?_
  refine g_V1i dL_law_583 ml_L_75 sX6_turnsIn rfl (by decide) (Nat.le_of_ble_eq_true rfl) H1 ?_
  refine g_aload_n dL_law_586 rfl ?_
  refine g_aload_n dL_law_587 rfl ?_
  refine g_iload_n dL_law_588 rfl ?_
  refine g_iconstv (v := 1) dL_law_589 rfl ?_
  refine g_iadd dL_law_590 ?_
  refine g_scr (i + 1) h1 dL_law_591 (nI_add i 1) (by omega) hn ?_
  refine g_V1i dL_law_592 ml_L_78 sX7_turnsIn rfl (by decide) (Nat.le_of_ble_eq_true rfl) H2 ?_
  exact g_icmp_eq (tgt := 810) dL_law_595 (by decide) (fun _ => K) (fun q => absurd rfl q)
set_option maxHeartbeats 4000000 in
set_option maxRecDepth 100000 in
theorem lw_lender {Ln i : Nat} {X : Nat → Int32} {F F1 F2 : Nat → Nat → Int32} {g g1 : Nat → Option Nat} {r : Int32} {out : mOut} (hn : Ln < 2 ^ 31) (hi : i + 3 ≤ Ln) (h0 : F 0 = X) (h1 : F1 0 = X) (H1 : mCall 7 yX6_lender MX6_lender [.ref 4, .int (X (i + 1))] (mHX Ln F g) (some (.int r)) (mHX Ln F1 g1)) (H2 : mCall 7 yX7_lender MX7_lender [.ref 172, .int (X (i + 1))] (mHX Ln F1 g1) (some (.int r)) (mHX Ln F2 g1)) (K : mGo ML_law 8 (810, lwL i, [], mHX Ln F2 g1) out) : mGo ML_law 8 (600, lwL i, [], mHX Ln F g) out := by
  refine g_aload_n dL_law_600 rfl ?_
  refine g_aload_n dL_law_601 rfl ?_
  refine g_iload_n dL_law_602 rfl ?_
  refine g_iconstv (v := 1) dL_law_603 rfl ?_
  refine g_iadd dL_law_604 ?_
  refine g_scr (i + 1) h0 dL_law_605 (nI_add i 1) (by omega) hn ?_
  refine g_V1i dL_law_606 ml_L_79 sX6_lender rfl (by decide) (Nat.le_of_ble_eq_true rfl) H1 ?_
  refine g_aload_n dL_law_609 rfl ?_
  refine g_aload_n dL_law_610 rfl ?_
  refine g_iload_n dL_law_611 rfl ?_
  refine g_iconstv (v := 1) dL_law_612 rfl ?_
  refine g_iadd dL_law_613 ?_
  refine g_scr (i + 1) h1 dL_law_614 (nI_add i 1) (by omega) hn ?_
  refine g_V1i dL_law_615 ml_L_82 sX7_lender rfl (by decide) (Nat.le_of_ble_eq_true rfl) H2 ?_
  exact g_icmp_eq (tgt := 810) dL_law_618 (by decide) (fun _ => K) (fun q => absurd rfl q)
set_option maxHeartbeats 4000000 in
set_option maxRecDepth 100000 in
theorem lw_without {Ln i : Nat} {X : Nat → Int32} {F F1 F2 : Nat → Nat → Int32} {g g1 : Nat → Option Nat} {r : Int32} {out : mOut} (hn : Ln < 2 ^ 31) (hi : i + 3 ≤ Ln) (h0 : F 0 = X) (h1 : F1 0 = X) (H1 : mCall 7 yX6_without MX6_without [.ref 4, .int (X (i + 1))] (mHX Ln F g) (some (.int r)) (mHX Ln F1 g1)) (H2 : mCall 7 yX7_without MX7_without [.ref 172, .int (X (i + 1))] (mHX Ln F1 g1) (some (.int r)) (mHX Ln F2 g1)) (K : mGo ML_law 8 (810, lwL i, [], mHX Ln F2 g1) out) : mGo ML_law 8 (623, lwL i, [], mHX Ln F g) out := by
  refine g_aload_n dL_law_623 rfl ?_
  refine g_aload_n dL_law_624 rfl ?_
  refine g_iload_n dL_law_625 rfl ?_
  refine g_iconstv (v := 1) dL_law_626 rfl ?_
  refine g_iadd dL_law_627 ?_
  refine g_scr (i + 1) h0 dL_law_628 (nI_add i 1) (by omega) hn ?_
  refine g_V1i dL_law_629 ml_L_83 sX6_without rfl (by decide) (Nat.le_of_ble_eq_true rfl) H1 ?_
  refine g_aload_n dL_law_632 rfl ?_
  refine g_aload_n dL_law_633 rfl ?_
  refine g_iload_n dL_law_634 rfl ?_
  refine g_iconstv (v := 1) dL_law_635 rfl ?_
  refine g_iadd dL_law_636 ?_
  refine g_scr (i + 1) h1 dL_law_637 (nI_add i 1) (by omega) hn ?_
  refine g_V1i dL_law_638 ml_L_86 sX7_without rfl (by decide) (Nat.le_of_ble_eq_true rfl) H2 ?_
  exact g_icmp_eq (tgt := 810) dL_law_641 (by decide) (fun _ => K) (fun q => absurd rfl q)
set_option maxHeartbeats 4000000 in
set_option maxRecDepth 100000 in
theorem lw_usual {Ln i : Nat} {X : Nat → Int32} {F F1 F2 : Nat → Nat → Int32} {g g1 : Nat → Option Nat} {r : Int32} {out : mOut} (hn : Ln < 2 ^ 31) (hi : i + 3 ≤ Ln) (h0 : F 0 = X) (h1 : F1 0 = X) (H1 : mCall 7 yX6_usual MX6_usual [.ref 4] (mHX Ln F g) (some (.int r)) (mHX Ln F1 g1)) (H2 : mCall 7 yX7_usual MX7_usual [.ref 172] (mHX Ln F1 g1) (some (.int r)) (mHX Ln F2 g1)) (K : mGo ML_law 8 (810, lwL i, [], mHX Ln F2 g1) out) : mGo ML_law 8 (646, lwL i, [], mHX Ln F g) out := by
  refine g_aload_n dL_law_646 rfl ?_
  refine g_V0i dL_law_647 ml_L_87 sX6_usual rfl (by decide) (Nat.le_of_ble_eq_true rfl) H1 ?_
  refine g_aload_n dL_law_650 rfl ?_
  refine g_V0i dL_law_651 ml_L_91 sX7_usual rfl (by decide) (Nat.le_of_ble_eq_true rfl) H2 ?_
  exact g_icmp_eq (tgt := 810) dL_law_654 (by decide) (fun _ => K) (fun q => absurd rfl q)
set_option maxHeartbeats 4000000 in
set_option maxRecDepth 100000 in
theorem lw_put {Ln i : Nat} {X : Nat → Int32} {F F1 F2 : Nat → Nat → Int32} {g g1 : Nat → Option Nat} {r : Int32} {out : mOut} (c : Int64) (hc : (X (i + 1)).toInt64 <<< ((32 : Int32).toInt64 &&& 63) ||| ((X (i + 2)).toInt64 &&& 4294967295) = c) (hn : Ln < 2 ^ 31) (hi : i + 3 ≤ Ln) (h0 : F 0 = X) (h1 : F1 0 = X) (H1 : mCall 7 yX6_put MX6_put [.ref 4, .long c] (mHX Ln F g) (some (.int r)) (mHX Ln F1 g1)) (H2 : mCall 7 yX7_put MX7_put [.ref 172, .long c] (mHX Ln F1 g1) (some (.int r)) (mHX Ln F2 g1)) (K : mGo ML_law 8 (810, lwL i, [], mHX Ln F2 g1) out) : mGo ML_law 8 (659, lwL i, [], mHX Ln F g) out := by
  refine g_aload_n dL_law_659 rfl ?_
  refine g_aload_n dL_law_660 rfl ?_
  refine g_iload_n dL_law_661 rfl ?_
  refine g_iconstv (v := 1) dL_law_662 rfl ?_
  refine g_iadd dL_law_663 ?_
  refine g_scr (i + 1) h0 dL_law_664 (nI_add i 1) (by omega) hn ?_
  refine g_i2l dL_law_665 ?_
  refine g_bipushv (v := 32) dL_law_666 rfl ?_
  refine g_lshl dL_law_668 ?_
  refine g_aload_n dL_law_669 rfl ?_
  refine g_iload_n dL_law_670 rfl ?_
  refine g_iconstv (v := 2) dL_law_671 rfl ?_
  refine g_iadd dL_law_672 ?_
  refine g_scr (i + 2) h0 dL_law_673 (nI_add i 2) (by omega) hn ?_
  refine g_i2l dL_law_674 ?_
  refine g_ldc2 dL_law_675 kl_L_92 ?_
  refine g_land dL_law_678 ?_
  refine g_lor dL_law_679 ?_
  rw [hc]
  refine g_V1i dL_law_680 ml_L_94 sX6_put rfl (by decide) (Nat.le_of_ble_eq_true rfl) H1 ?_
  refine g_aload_n dL_law_683 rfl ?_
  refine g_aload_n dL_law_684 rfl ?_
  refine g_iload_n dL_law_685 rfl ?_
  refine g_iconstv (v := 1) dL_law_686 rfl ?_
  refine g_iadd dL_law_687 ?_
  refine g_scr (i + 1) h1 dL_law_688 (nI_add i 1) (by omega) hn ?_
  refine g_i2l dL_law_689 ?_
  refine g_bipushv (v := 32) dL_law_690 rfl ?_
  refine g_lshl dL_law_692 ?_
  refine g_aload_n dL_law_693 rfl ?_
  refine g_iload_n dL_law_694 rfl ?_
  refine g_iconstv (v := 2) dL_law_695 rfl ?_
  refine g_iadd dL_law_696 ?_
  refine g_scr (i + 2) h1 dL_law_697 (nI_add i 2) (by omega) hn ?_
  refine g_i2l dL_law_698 ?_
  refine g_ldc2 dL_law_699 kl_L_92 ?_
  refine g_land dL_law_702 ?_
  refine g_lor dL_law_703 ?_
  rw [hc]
  refine g_V1i dL_law_704 ml_L_98 sX7_put rfl (by decide) (Nat.le_of_ble_eq_true rfl) H2 ?_
  exact g_icmp_eq (tgt := 810) dL_law_707 (by decide) (fun _ => K) (fun q => absurd rfl q)
set_option maxHeartbeats 4000000 in
set_option maxRecDepth 100000 in
theorem lw_wipe {Ln i : Nat} {X : Nat → Int32} {F F1 F2 : Nat → Nat → Int32} {g g1 : Nat → Option Nat} {r : Int32} {out : mOut} (hn : Ln < 2 ^ 31) (hi : i + 3 ≤ Ln) (h0 : F 0 = X) (h1 : F1 0 = X) (H1 : mCall 7 yX6_wipe MX6_wipe [.ref 4] (mHX Ln F g) (some (.int r)) (mHX Ln F1 g1)) (H2 : mCall 7 yX7_wipe MX7_wipe [.ref 172] (mHX Ln F1 g1) (some (.int r)) (mHX Ln F2 g1)) (K : mGo ML_law 8 (810, lwL i, [], mHX Ln F2 g1) out) : mGo ML_law 8 (712, lwL i, [], mHX Ln F g) out := by
  refine g_aload_n dL_law_712 rfl ?_
  refine g_V0i dL_law_713 ml_L_99 sX6_wipe rfl (by decide) (Nat.le_of_ble_eq_true rfl) H1 ?_
  refine g_aload_n dL_law_716 rfl ?_
  refine g_V0i dL_law_717 ml_L_102 sX7_wipe rfl (by decide) (Nat.le_of_ble_eq_true rfl) H2 ?_
  exact g_icmp_eq (tgt := 810) dL_law_720 (by decide) (fun _ => K) (fun q => absurd rfl q)
set_option maxHeartbeats 4000000 in
set_option maxRecDepth 100000 in
theorem lw_fault {Ln i : Nat} {X : Nat → Int32} {F F1 F2 : Nat → Nat → Int32} {g g1 : Nat → Option Nat} {r : Int32} {out : mOut} (hn : Ln < 2 ^ 31) (hi : i + 3 ≤ Ln) (h0 : F 0 = X) (h1 : F1 0 = X) (H1 : mCall 7 yX6_fault MX6_fault [.ref 4] (mHX Ln F g) (some (.int r)) (mHX Ln F1 g1)) (H2 : mCall 7 yX7_fault MX7_fault [.ref 172] (mHX Ln F1 g1) (some (.int r)) (mHX Ln F2 g1)) (K : mGo ML_law 8 (810, lwL i, [], mHX Ln F2 g1) out) : mGo ML_law 8 (725, lwL i, [], mHX Ln F g) out := by
  refine g_aload_n dL_law_725 rfl ?_
  refine g_V0i dL_law_726 ml_L_103 sX6_fault rfl (by decide) (Nat.le_of_ble_eq_true rfl) H1 ?_
  refine g_aload_n dL_law_729 rfl ?_
  refine g_V0i dL_law_730 ml_L_106 sX7_fault rfl (by decide) (Nat.le_of_ble_eq_true rfl) H2 ?_
  exact g_icmp_eq (tgt := 810) dL_law_733 (by decide) (fun _ => K) (fun q => absurd rfl q)
set_option maxHeartbeats 4000000 in
set_option maxRecDepth 100000 in
theorem lw_carryOut {Ln i : Nat} {X : Nat → Int32} {F F1 F2 : Nat → Nat → Int32} {g g1 : Nat → Option Nat} {r : Int32} {out : mOut} (hn : Ln < 2 ^ 31) (hi : i + 3 ≤ Ln) (h0 : F 0 = X) (h1 : F1 0 = X) (H1 : mCall 7 yX6_carryOut MX6_carryOut [.ref 4] (mHX Ln F g) (some (.int r)) (mHX Ln F1 g1)) (H2 : mCall 7 yX7_carryOut MX7_carryOut [.ref 172] (mHX Ln F1 g1) (some (.int r)) (mHX Ln F2 g1)) (K : mGo ML_law 8 (810, lwL i, [], mHX Ln F2 g1) out) : mGo ML_law 8 (738, lwL i, [], mHX Ln F g) out := by
  refine g_aload_n dL_law_738 rfl ?_
  refine g_V0i dL_law_739 ml_L_107 sX6_carryOut rfl (by decide) (Nat.le_of_ble_eq_true rfl) H1 ?_
  refine g_aload_n dL_law_742 rfl ?_
  refine g_V0i dL_law_743 ml_L_110 sX7_carryOut rfl (by decide) (Nat.le_of_ble_eq_true rfl) H2 ?_
  exact g_icmp_eq (tgt := 810) dL_law_746 (by decide) (fun _ => K) (fun q => absurd rfl q)
set_option maxHeartbeats 4000000 in
set_option maxRecDepth 100000 in
theorem lw_undo {Ln i : Nat} {X : Nat → Int32} {F F1 F2 : Nat → Nat → Int32} {g g1 : Nat → Option Nat} {r : Int32} {out : mOut} (hn : Ln < 2 ^ 31) (hi : i + 3 ≤ Ln) (h0 : F 0 = X) (h1 : F1 0 = X) (H1 : mCall 7 yX6_undo MX6_undo [.ref 4] (mHX Ln F g) (some (.int r)) (mHX Ln F1 g1)) (H2 : mCall 7 yX7_undo MX7_undo [.ref 172] (mHX Ln F1 g1) (some (.int r)) (mHX Ln F2 g1)) (K : mGo ML_law 8 (810, lwL i, [], mHX Ln F2 g1) out) : mGo ML_law 8 (751, lwL i, [], mHX Ln F g) out := by
  refine g_aload_n dL_law_751 rfl ?_
  refine g_V0i dL_law_752 ml_L_111 sX6_undo rfl (by decide) (Nat.le_of_ble_eq_true rfl) H1 ?_
  refine g_aload_n dL_law_755 rfl ?_
  refine g_V0i dL_law_756 ml_L_114 sX7_undo rfl (by decide) (Nat.le_of_ble_eq_true rfl) H2 ?_
  exact g_icmp_eq (tgt := 810) dL_law_759 (by decide) (fun _ => K) (fun q => absurd rfl q)
set_option maxHeartbeats 4000000 in
set_option maxRecDepth 100000 in
theorem lw_save {Ln i : Nat} {X : Nat → Int32} {F F1 F2 : Nat → Nat → Int32} {g g1 : Nat → Option Nat} {r : Int32} {out : mOut} (hn : Ln < 2 ^ 31) (hi : i + 3 ≤ Ln) (h0 : F 0 = X) (h1 : F1 0 = X) (H1 : mCall 7 yX6_save MX6_save [.ref 4, .int (X (i + 1))] (mHX Ln F g) (some (.int r)) (mHX Ln F1 g1)) (H2 : mCall 7 yX7_save MX7_save [.ref 172, .int (X (i + 1))] (mHX Ln F1 g1) (some (.int r)) (mHX Ln F2 g1)) (K : mGo ML_law 8 (810, lwL i, [], mHX Ln F2 g1) out) : mGo ML_law 8 (764, lwL i, [], mHX Ln F g) out := by
  refine g_aload_n dL_law_764 rfl ?_
  refine g_aload_n dL_law_765 rfl ?_
  refine g_iload_n dL_law_766 rfl ?_
  refine g_iconstv (v := 1) dL_law_767 rfl ?_
  refine g_iadd dL_law_768 ?_
  refine g_scr (i + 1) h0 dL_law_769 (nI_add i 1) (by omega) hn ?_
  refine g_V1i dL_law_770 ml_L_115 sX6_save rfl (by decide) (Nat.le_of_ble_eq_true rfl) H1 ?_
  refine g_aload_n dL_law_773 rfl ?_
  refine g_aload_n dL_law_774 rfl ?_
  refine g_iload_n dL_law_775 rfl ?_
  refine g_iconstv (v := 1) dL_law_776 rfl ?_
  refine g_iadd dL_law_777 ?_
  refine g_scr (i + 1) h1 dL_law_778 (nI_add i 1) (by omega) hn ?_
  refine g_V1i dL_law_779 ml_L_118 sX7_save rfl (by decide) (Nat.le_of_ble_eq_true rfl) H2 ?_
  exact g_icmp_eq (tgt := 810) dL_law_782 (by decide) (fun _ => K) (fun q => absurd rfl q)
set_option maxHeartbeats 4000000 in
set_option maxRecDepth 100000 in
theorem lw_restore {Ln i : Nat} {X : Nat → Int32} {F F1 F2 : Nat → Nat → Int32} {g g1 : Nat → Option Nat} {r : Int32} {out : mOut} (hn : Ln < 2 ^ 31) (hi : i + 3 ≤ Ln) (h0 : F 0 = X) (h1 : F1 0 = X) (H1 : mCall 7 yX6_restore MX6_restore [.ref 4, .int (X (i + 1))] (mHX Ln F g) (some (.int r)) (mHX Ln F1 g1)) (H2 : mCall 7 yX7_restore MX7_restore [.ref 172, .int (X (i + 1))] (mHX Ln F1 g1) (some (.int r)) (mHX Ln F2 g1)) (K : mGo ML_law 8 (810, lwL i, [], mHX Ln F2 g1) out) : mGo ML_law 8 (787, lwL i, [], mHX Ln F g) out := by
  refine g_aload_n dL_law_787 rfl ?_
  refine g_aload_n dL_law_788 rfl ?_
  refine g_iload_n dL_law_789 rfl ?_
  refine g_iconstv (v := 1) dL_law_790 rfl ?_
  refine g_iadd dL_law_791 ?_
  refine g_scr (i + 1) h0 dL_law_792 (nI_add i 1) (by omega) hn ?_
  refine g_V1i dL_law_793 ml_L_119 sX6_restore rfl (by decide) (Nat.le_of_ble_eq_true rfl) H1 ?_
  refine g_aload_n dL_law_796 rfl ?_
  refine g_aload_n dL_law_797 rfl ?_
  refine g_iload_n dL_law_798 rfl ?_
  refine g_iconstv (v := 1) dL_law_799 rfl ?_
  refine g_iadd dL_law_800 ?_
  refine g_scr (i + 1) h1 dL_law_801 (nI_add i 1) (by omega) hn ?_
  refine g_V1i dL_law_802 ml_L_122 sX7_restore rfl (by decide) (Nat.le_of_ble_eq_true rfl) H2 ?_
  exact g_icmp_eq (tgt := 810) dL_law_805 (by decide) (fun _ => K) (fun q => absurd rfl q)
set_option maxHeartbeats 4000000 in
set_option maxRecDepth 100000 in
theorem lw_len {Ln i : Nat} (hL : Ln ≤ 1536) (hi : i ≤ 1600) : nI Ln - 3 < nI i ↔ Ln < i + 3 := by
  by_cases h : Ln < 3
  · have e : (nI Ln - 3).toInt < 0 := by
      rcases (by omega : Ln = 0 ∨ Ln = 1 ∨ Ln = 2) with rfl | rfl | rfl <;> decide
    rw [i_lt, i_n (n := i) (by omega)]
    omega
  · obtain ⟨m, rfl⟩ : ∃ m, Ln = m + 3 := ⟨Ln - 3, by omega⟩
    have e : nI (m + 3) - 3 = nI m := by
      rw [← nI_add m 3]
      exact Int32.add_sub_cancel (nI m) 3
    rw [e, nI_ltI (by omega) (by omega)]
    omega
set_option maxHeartbeats 4000000 in
set_option maxRecDepth 100000 in
theorem lwEnd {Ln i : Nat} {F : Nat → Nat → Int32} {g : Nat → Option Nat} (hL : Ln ≤ 1536) (hi : i ≤ 1600) (h : Ln < i + 3) : mGo ML_law 8 (18, lwL i, [], mHX Ln F g) (some (.int 1), mHX Ln F g) := by
  refine g_iload_n dL_law_18 rfl ?_
  refine g_aload_n dL_law_19 rfl ?_
  refine g_slen (n := Ln) dL_law_20 rfl (by decide) ?_
  refine g_iconstv (v := 3) dL_law_21 rfl ?_
  refine g_isub dL_law_22 ?_
  refine g_icmp_gt (tgt := 816) dL_law_23 (by decide) (fun _ => ?_) (fun q => absurd ((lw_len hL hi).mpr h) q)
  refine g_iconstv (v := 1) dL_law_816 rfl ?_
  exact g_iret dL_law_817 rfl
set_option maxHeartbeats 4000000 in
set_option maxRecDepth 100000 in
theorem lw_sw {Ln i : Nat} {X : Nat → Int32} {F : Nat → Nat → Int32} {g : Nat → Option Nat} {out : mOut} (hL : Ln ≤ 1536) (hi : i + 3 ≤ Ln) (h0 : F 0 = X) (K : mGo ML_law 8 (32, lwL i, [.int (X i &&& 31)], mHX Ln F g) out) : mGo ML_law 8 (18, lwL i, [], mHX Ln F g) out := by
  refine g_iload_n dL_law_18 rfl ?_
  refine g_aload_n dL_law_19 rfl ?_
  refine g_slen (n := Ln) dL_law_20 rfl (by decide) ?_
  refine g_iconstv (v := 3) dL_law_21 rfl ?_
  refine g_isub dL_law_22 ?_
  refine g_icmp_gt (tgt := 816) dL_law_23 (by decide) (fun q => absurd ((lw_len hL (by omega)).mp q) (by omega)) (fun _ => ?_)
  refine g_aload_n dL_law_26 rfl ?_
  refine g_iload_n dL_law_27 rfl ?_
  refine g_scr i h0 dL_law_28 rfl (by omega) (by omega) ?_
  refine g_bipushv (v := 31) dL_law_29 rfl ?_
  refine g_iand dL_law_31 ?_
  exact K
set_option maxHeartbeats 4000000 in
set_option maxRecDepth 100000 in
theorem lw_in {Ln i j tgt : Nat} {off : Int} {X : Nat → Int32} {F : Nat → Nat → Int32} {g : Nat → Option Nat} {out : mOut} (hL : Ln ≤ 1536) (hi : i + 3 ≤ Ln) (h0 : F 0 = X) (ej : X i &&& 31 = nI j) (h1 : ¬ (nI j).toInt < 0) (h2 : ¬ (25 : Int) < (nI j).toInt) (ho : (#[120, 153, 186, 209, 242, 265, 288, 311, 334, 357, 390, 423, 456, 489, 512, 545, 568, 591, 614, 627, 680, 693, 706, 719, 732, 755] : Array Int)[((nI j).toInt - 0).toNat]? = some off) (ht : ((32 : Nat) : Int) + off = (tgt : Int)) (K : mGo ML_law 8 (tgt, lwL i, [], mHX Ln F g) out) : mGo ML_law 8 (18, lwL i, [], mHX Ln F g) out := by
  refine lw_sw hL hi h0 ?_
  rw [ej]
  exact g_tabIn dL_law_32 h1 h2 ho ht K
set_option maxHeartbeats 4000000 in
set_option maxRecDepth 100000 in
theorem lw_out {Ln i j : Nat} {X : Nat → Int32} {F : Nat → Nat → Int32} {g : Nat → Option Nat} {out : mOut} (hL : Ln ≤ 1536) (hi : i + 3 ≤ Ln) (h0 : F 0 = X) (ej : X i &&& 31 = nI j) (hj : 25 < j) (hj2 : j < 32) (K : mGo ML_law 8 (810, lwL i, [], mHX Ln F g) out) : mGo ML_law 8 (18, lwL i, [], mHX Ln F g) out := by
  refine lw_sw hL hi h0 ?_
  rw [ej]
  exact g_tabOut dL_law_32 (Or.inr (by rw [i_n (by omega)]; omega)) (by decide) K
set_option maxHeartbeats 4000000 in
set_option maxRecDepth 100000 in
theorem lw_next {Ln i : Nat} {F : Nat → Nat → Int32} {g : Nat → Option Nat} {out : mOut} (K : mGo ML_law 8 (18, lwL (i + 3), [], mHX Ln F g) out) : mGo ML_law 8 (810, lwL i, [], mHX Ln F g) out := by
  refine g_iincv (v := nI (i + 3)) dL_law_810 rfl (nI_add i 3) (by decide) rfl ?_
  exact g_goto (tgt := 18) dL_law_813 (by decide) K
/-- from the loop's head to its tail: one call of both -/
def lwG (B Ln i : Nat) (X : Nat → Int32) (F : Nat → Nat → Int32) (g : Nat → Option Nat) : Prop := ∃ (F2 : Nat → Nat → Int32) (g2 : Nat → Option Nat), IVx (B + 300) X F2 g2 ∧ ∀ out : mOut, mGo ML_law 8 (810, lwL i, [], mHX Ln F2 g2) out → mGo ML_law 8 (18, lwL i, [], mHX Ln F g) out
theorem lgs_0 {B Ln i : Nat} {X : Nat → Int32} {F : Nat → Nat → Int32} {g : Nat → Option Nat} (hB : B ≤ 900000) (hL : Ln ≤ 1536) (hi : i + 3 ≤ Ln) (h0 : F 0 = X) (hI : IVx B X F g) (ej : X i &&& 31 = nI 0) : lwG B Ln i X F g := by
  have hok : ∃ B2, B2 ≤ B + 300 ∧ OK Ln 0 B B2 X yX6_set MX6_set [.ref 4, .int (X (i + 1)), .int (X (i + 2))] yX7_set MX7_set [.ref 172, .int (X (i + 1)), .int (X (i + 2))] := ⟨_, by omega, ok_set (X (i + 1)) (X (i + 2))⟩
  obtain ⟨B2, hB2, hok⟩ := hok
  obtain ⟨r, F1, g1, F2, e1, H1, H2, hI2⟩ := hok F g hI
  exact ⟨F2, g1, IV_mono hB2 hI2, fun out K => lw_in (tgt := 152) hL hi h0 ej (by decide) (by decide) rfl (by decide) (lw_set (by omega) hi h0 e1 H1 H2 K)⟩
theorem lgs_1 {B Ln i : Nat} {X : Nat → Int32} {F : Nat → Nat → Int32} {g : Nat → Option Nat} (hB : B ≤ 900000) (hL : Ln ≤ 1536) (hi : i + 3 ≤ Ln) (h0 : F 0 = X) (hI : IVx B X F g) (ej : X i &&& 31 = nI 1) : lwG B Ln i X F g := by
  have hok : ∃ B2, B2 ≤ B + 300 ∧ OK Ln 0 B B2 X yX6_guest MX6_guest [.ref 4, .int (X (i + 1)), .int (X (i + 2))] yX7_guest MX7_guest [.ref 172, .int (X (i + 1)), .int (X (i + 2))] := ⟨_, by omega, ok_guest (X (i + 1)) (X (i + 2))⟩
  obtain ⟨B2, hB2, hok⟩ := hok
  obtain ⟨r, F1, g1, F2, e1, H1, H2, hI2⟩ := hok F g hI
  exact ⟨F2, g1, IV_mono hB2 hI2, fun out K => lw_in (tgt := 185) hL hi h0 ej (by decide) (by decide) rfl (by decide) (lw_guest (by omega) hi h0 e1 H1 H2 K)⟩
theorem lgs_2 {B Ln i : Nat} {X : Nat → Int32} {F : Nat → Nat → Int32} {g : Nat → Option Nat} (hB : B ≤ 900000) (hL : Ln ≤ 1536) (hi : i + 3 ≤ Ln) (h0 : F 0 = X) (hI : IVx B X F g) (ej : X i &&& 31 = nI 2) : lwG B Ln i X F g := by
  have hok : ∃ B2, B2 ≤ B + 300 ∧ OK Ln 0 B B2 X yX6_leave MX6_leave [.ref 4, .int (X (i + 1))] yX7_leave MX7_leave [.ref 172, .int (X (i + 1))] := ⟨_, by omega, ok_leave (X (i + 1))⟩
  obtain ⟨B2, hB2, hok⟩ := hok
  obtain ⟨r, F1, g1, F2, e1, H1, H2, hI2⟩ := hok F g hI
  exact ⟨F2, g1, IV_mono hB2 hI2, fun out K => lw_in (tgt := 218) hL hi h0 ej (by decide) (by decide) rfl (by decide) (lw_leave (by omega) hi h0 e1 H1 H2 K)⟩
theorem lgs_3 {B Ln i : Nat} {X : Nat → Int32} {F : Nat → Nat → Int32} {g : Nat → Option Nat} (hB : B ≤ 900000) (hL : Ln ≤ 1536) (hi : i + 3 ≤ Ln) (h0 : F 0 = X) (hI : IVx B X F g) (ej : X i &&& 31 = nI 3) : lwG B Ln i X F g := by
  have hok : ∃ B2, B2 ≤ B + 300 ∧ OK Ln 0 B B2 X yX6_move MX6_move [.ref 4, .int (X (i + 1)), .int (X (i + 2))] yX7_move MX7_move [.ref 172, .int (X (i + 1)), .int (X (i + 2))] := ⟨_, by omega, ok_move (X (i + 1)) (X (i + 2))⟩
  obtain ⟨B2, hB2, hok⟩ := hok
  obtain ⟨r, F1, g1, F2, e1, H1, H2, hI2⟩ := hok F g hI
  exact ⟨F2, g1, IV_mono hB2 hI2, fun out K => lw_in (tgt := 241) hL hi h0 ej (by decide) (by decide) rfl (by decide) (lw_move (by omega) hi h0 e1 H1 H2 K)⟩
theorem lgs_4 {B Ln i : Nat} {X : Nat → Int32} {F : Nat → Nat → Int32} {g : Nat → Option Nat} (hB : B ≤ 900000) (hL : Ln ≤ 1536) (hi : i + 3 ≤ Ln) (h0 : F 0 = X) (hI : IVx B X F g) (ej : X i &&& 31 = nI 4) : lwG B Ln i X F g := by
  have hok : ∃ B2, B2 ≤ B + 300 ∧ OK Ln 0 B B2 X yX6_pause MX6_pause [.ref 4, .int (X (i + 1))] yX7_pause MX7_pause [.ref 172, .int (X (i + 1))] := ⟨_, by omega, ok_pause (X (i + 1))⟩
  obtain ⟨B2, hB2, hok⟩ := hok
  obtain ⟨r, F1, g1, F2, e1, H1, H2, hI2⟩ := hok F g hI
  exact ⟨F2, g1, IV_mono hB2 hI2, fun out K => lw_in (tgt := 274) hL hi h0 ej (by decide) (by decide) rfl (by decide) (lw_pause (by omega) hi h0 e1 H1 H2 K)⟩
theorem lgs_5 {B Ln i : Nat} {X : Nat → Int32} {F : Nat → Nat → Int32} {g : Nat → Option Nat} (hB : B ≤ 900000) (hL : Ln ≤ 1536) (hi : i + 3 ≤ Ln) (h0 : F 0 = X) (hI : IVx B X F g) (ej : X i &&& 31 = nI 5) : lwG B Ln i X F g := by
  have hok : ∃ B2, B2 ≤ B + 300 ∧ OK Ln 0 B B2 X yX6_close MX6_close [.ref 4, .int (X (i + 1))] yX7_close MX7_close [.ref 172, .int (X (i + 1))] := ⟨_, by omega, ok_close (X (i + 1))⟩
  obtain ⟨B2, hB2, hok⟩ := hok
  obtain ⟨r, F1, g1, F2, e1, H1, H2, hI2⟩ := hok F g hI
  exact ⟨F2, g1, IV_mono hB2 hI2, fun out K => lw_in (tgt := 297) hL hi h0 ej (by decide) (by decide) rfl (by decide) (lw_close (by omega) hi h0 e1 H1 H2 K)⟩
theorem lgs_6 {B Ln i : Nat} {X : Nat → Int32} {F : Nat → Nat → Int32} {g : Nat → Option Nat} (hB : B ≤ 900000) (hL : Ln ≤ 1536) (hi : i + 3 ≤ Ln) (h0 : F 0 = X) (hI : IVx B X F g) (ej : X i &&& 31 = nI 6) : lwG B Ln i X F g := by
  have hok : ∃ B2, B2 ≤ B + 300 ∧ OK Ln 0 B B2 X yX6_word MX6_word [.ref 4, .int (X (i + 1))] yX7_word MX7_word [.ref 172, .int (X (i + 1))] := ⟨_, by omega, ok_word (by omega) (X (i + 1))⟩
  obtain ⟨B2, hB2, hok⟩ := hok
  obtain ⟨r, F1, g1, F2, e1, H1, H2, hI2⟩ := hok F g hI
  exact ⟨F2, g1, IV_mono hB2 hI2, fun out K => lw_in (tgt := 320) hL hi h0 ej (by decide) (by decide) rfl (by decide) (lw_word (by omega) hi h0 e1 H1 H2 K)⟩
theorem lgs_7 {B Ln i : Nat} {X : Nat → Int32} {F : Nat → Nat → Int32} {g : Nat → Option Nat} (hB : B ≤ 900000) (hL : Ln ≤ 1536) (hi : i + 3 ≤ Ln) (h0 : F 0 = X) (hI : IVx B X F g) (ej : X i &&& 31 = nI 7) : lwG B Ln i X F g := by
  have hok : ∃ B2, B2 ≤ B + 300 ∧ OK Ln 0 B B2 X yX6_cough MX6_cough [.ref 4, .int (X (i + 1))] yX7_cough MX7_cough [.ref 172, .int (X (i + 1))] := ⟨_, by omega, ok_cough (X (i + 1))⟩
  obtain ⟨B2, hB2, hok⟩ := hok
  obtain ⟨r, F1, g1, F2, e1, H1, H2, hI2⟩ := hok F g hI
  exact ⟨F2, g1, IV_mono hB2 hI2, fun out K => lw_in (tgt := 343) hL hi h0 ej (by decide) (by decide) rfl (by decide) (lw_cough (by omega) hi h0 e1 H1 H2 K)⟩
theorem lgs_8 {B Ln i : Nat} {X : Nat → Int32} {F : Nat → Nat → Int32} {g : Nat → Option Nat} (hB : B ≤ 900000) (hL : Ln ≤ 1536) (hi : i + 3 ≤ Ln) (h0 : F 0 = X) (hI : IVx B X F g) (ej : X i &&& 31 = nI 8) : lwG B Ln i X F g := by
  have hok : ∃ B2, B2 ≤ B + 300 ∧ OK Ln 0 B B2 X yX6_pass MX6_pass [.ref 4, .int (X (i + 1))] yX7_pass MX7_pass [.ref 172, .int (X (i + 1))] := ⟨_, by omega, ok_pass (X (i + 1))⟩
  obtain ⟨B2, hB2, hok⟩ := hok
  obtain ⟨r, F1, g1, F2, e1, H1, H2, hI2⟩ := hok F g hI
  exact ⟨F2, g1, IV_mono hB2 hI2, fun out K => lw_in (tgt := 366) hL hi h0 ej (by decide) (by decide) rfl (by decide) (lw_pass (by omega) hi h0 e1 H1 H2 K)⟩
theorem lgs_9 {B Ln i : Nat} {X : Nat → Int32} {F : Nat → Nat → Int32} {g : Nat → Option Nat} (hB : B ≤ 900000) (hL : Ln ≤ 1536) (hi : i + 3 ≤ Ln) (h0 : F 0 = X) (hI : IVx B X F g) (ej : X i &&& 31 = nI 9) : lwG B Ln i X F g := by
  have hok : ∃ B2, B2 ≤ B + 300 ∧ OK Ln 0 B B2 X yX6_of MX6_of [.ref 4, .int (X (i + 1)), .int (X (i + 2))] yX7_of MX7_of [.ref 172, .int (X (i + 1)), .int (X (i + 2))] := ⟨_, by omega, ok_read (fun F g n t hR hV h0 h3 ek el => rd_of hR hV h0 (X (i + 1)) (X (i + 2)))⟩
  obtain ⟨B2, hB2, hok⟩ := hok
  obtain ⟨r, F1, g1, F2, e1, H1, H2, hI2⟩ := hok F g hI
  exact ⟨F2, g1, IV_mono hB2 hI2, fun out K => lw_in (tgt := 389) hL hi h0 ej (by decide) (by decide) rfl (by decide) (lw_of (by omega) hi h0 e1 H1 H2 K)⟩
theorem lgs_10 {B Ln i : Nat} {X : Nat → Int32} {F : Nat → Nat → Int32} {g : Nat → Option Nat} (hB : B ≤ 900000) (hL : Ln ≤ 1536) (hi : i + 3 ≤ Ln) (h0 : F 0 = X) (hI : IVx B X F g) (ej : X i &&& 31 = nI 10) : lwG B Ln i X F g := by
  have hok : ∃ B2, B2 ≤ B + 300 ∧ OK Ln 0 B B2 X yX6_table MX6_table [.ref 4, .int (X (i + 1)), .int (X (i + 2))] yX7_table MX7_table [.ref 172, .int (X (i + 1)), .int (X (i + 2))] := ⟨_, by omega, ok_read (fun F g n t hR hV h0 h3 ek el => rd_table h3 hR hV h0 (X (i + 1)) (X (i + 2)))⟩
  obtain ⟨B2, hB2, hok⟩ := hok
  obtain ⟨r, F1, g1, F2, e1, H1, H2, hI2⟩ := hok F g hI
  exact ⟨F2, g1, IV_mono hB2 hI2, fun out K => lw_in (tgt := 422) hL hi h0 ej (by decide) (by decide) rfl (by decide) (lw_table (by omega) hi h0 e1 H1 H2 K)⟩
theorem lgs_11 {B Ln i : Nat} {X : Nat → Int32} {F : Nat → Nat → Int32} {g : Nat → Option Nat} (hB : B ≤ 900000) (hL : Ln ≤ 1536) (hi : i + 3 ≤ Ln) (h0 : F 0 = X) (hI : IVx B X F g) (ej : X i &&& 31 = nI 11) : lwG B Ln i X F g := by
  have hok : ∃ B2, B2 ≤ B + 300 ∧ OK Ln 0 B B2 X yX6_meaning MX6_meaning [.ref 4, .int (X (i + 1)), .int (X (i + 2))] yX7_meaning MX7_meaning [.ref 172, .int (X (i + 1)), .int (X (i + 2))] := ⟨_, by omega, ok_read (fun F g n t hR hV h0 h3 ek el => rd_meaning hR h0 (X (i + 1)) (X (i + 2)))⟩
  obtain ⟨B2, hB2, hok⟩ := hok
  obtain ⟨r, F1, g1, F2, e1, H1, H2, hI2⟩ := hok F g hI
  exact ⟨F2, g1, IV_mono hB2 hI2, fun out K => lw_in (tgt := 455) hL hi h0 ej (by decide) (by decide) rfl (by decide) (lw_meaning (by omega) hi h0 e1 H1 H2 K)⟩
theorem lgs_12 {B Ln i : Nat} {X : Nat → Int32} {F : Nat → Nat → Int32} {g : Nat → Option Nat} (hB : B ≤ 900000) (hL : Ln ≤ 1536) (hi : i + 3 ≤ Ln) (h0 : F 0 = X) (hI : IVx B X F g) (ej : X i &&& 31 = nI 12) : lwG B Ln i X F g := by
  have hok : ∃ B2, B2 ≤ B + 300 ∧ OK Ln 0 B B2 X yX6_end MX6_end [.ref 4, .int (X (i + 1)), .int (X (i + 2))] yX7_end MX7_end [.ref 172, .int (X (i + 1)), .int (X (i + 2))] := ⟨_, by omega, ok_read (fun F g n t hR hV h0 h3 ek el => rd_end hR h0 (X (i + 1)) (X (i + 2)))⟩
  obtain ⟨B2, hB2, hok⟩ := hok
  obtain ⟨r, F1, g1, F2, e1, H1, H2, hI2⟩ := hok F g hI
  exact ⟨F2, g1, IV_mono hB2 hI2, fun out K => lw_in (tgt := 488) hL hi h0 ej (by decide) (by decide) rfl (by decide) (lw_end (by omega) hi h0 e1 H1 H2 K)⟩
theorem lgs_13 {B Ln i : Nat} {X : Nat → Int32} {F : Nat → Nat → Int32} {g : Nat → Option Nat} (hB : B ≤ 900000) (hL : Ln ≤ 1536) (hi : i + 3 ≤ Ln) (h0 : F 0 = X) (hI : IVx B X F g) (ej : X i &&& 31 = nI 13) : lwG B Ln i X F g := by
  have hok : ∃ B2, B2 ≤ B + 300 ∧ OK Ln 0 B B2 X yX6_count MX6_count [.ref 4, .int (X (i + 1))] yX7_count MX7_count [.ref 172, .int (X (i + 1))] := ⟨_, by omega, ok_read (fun F g n t hR hV h0 h3 ek el => rd_count hR h0 ek el (X (i + 1)))⟩
  obtain ⟨B2, hB2, hok⟩ := hok
  obtain ⟨r, F1, g1, F2, e1, H1, H2, hI2⟩ := hok F g hI
  exact ⟨F2, g1, IV_mono hB2 hI2, fun out K => lw_in (tgt := 521) hL hi h0 ej (by decide) (by decide) rfl (by decide) (lw_count (by omega) hi h0 e1 H1 H2 K)⟩
theorem lgs_14 {B Ln i : Nat} {X : Nat → Int32} {F : Nat → Nat → Int32} {g : Nat → Option Nat} (hB : B ≤ 900000) (hL : Ln ≤ 1536) (hi : i + 3 ≤ Ln) (h0 : F 0 = X) (hI : IVx B X F g) (ej : X i &&& 31 = nI 14) : lwG B Ln i X F g := by
  have hok : ∃ B2, B2 ≤ B + 300 ∧ OK Ln 0 B B2 X yX6_wouldMean MX6_wouldMean [.ref 4, .int (X (i + 1)), .int (X (i + 2))] yX7_wouldMean MX7_wouldMean [.ref 172, .int (X (i + 1)), .int (X (i + 2))] := ⟨_, by omega, ok_read (fun F g n t hR hV h0 h3 ek el => rd_would h3 hR hV h0 (X (i + 1)) (X (i + 2)))⟩
  obtain ⟨B2, hB2, hok⟩ := hok
  obtain ⟨r, F1, g1, F2, e1, H1, H2, hI2⟩ := hok F g hI
  exact ⟨F2, g1, IV_mono hB2 hI2, fun out K => lw_in (tgt := 544) hL hi h0 ej (by decide) (by decide) rfl (by decide) (lw_wouldMean (by omega) hi h0 e1 H1 H2 K)⟩
theorem lgs_15 {B Ln i : Nat} {X : Nat → Int32} {F : Nat → Nat → Int32} {g : Nat → Option Nat} (hB : B ≤ 900000) (hL : Ln ≤ 1536) (hi : i + 3 ≤ Ln) (h0 : F 0 = X) (hI : IVx B X F g) (ej : X i &&& 31 = nI 15) : lwG B Ln i X F g := by
  have hok : ∃ B2, B2 ≤ B + 300 ∧ OK Ln 0 B B2 X yX6_turnsIn MX6_turnsIn [.ref 4, .int (X (i + 1))] yX7_turnsIn MX7_turnsIn [.ref 172, .int (X (i + 1))] := ⟨_, by omega, ok_read (fun F g n t hR hV h0 h3 ek el => rd_turns h3 hR hV h0 (X (i + 1)))⟩
  obtain ⟨B2, hB2, hok⟩ := hok
  obtain ⟨r, F1, g1, F2, e1, H1, H2, hI2⟩ := hok F g hI
  exact ⟨F2, g1, IV_mono hB2 hI2, fun out K => lw_in (tgt := 577) hL hi h0 ej (by decide) (by decide) rfl (by decide) (lw_turnsIn (by omega) hi h0 e1 H1 H2 K)⟩
theorem lgs_16 {B Ln i : Nat} {X : Nat → Int32} {F : Nat → Nat → Int32} {g : Nat → Option Nat} (hB : B ≤ 900000) (hL : Ln ≤ 1536) (hi : i + 3 ≤ Ln) (h0 : F 0 = X) (hI : IVx B X F g) (ej : X i &&& 31 = nI 16) : lwG B Ln i X F g := by
  have hok : ∃ B2, B2 ≤ B + 300 ∧ OK Ln 0 B B2 X yX6_lender MX6_lender [.ref 4, .int (X (i + 1))] yX7_lender MX7_lender [.ref 172, .int (X (i + 1))] := ⟨_, by omega, ok_read (fun F g n t hR hV h0 h3 ek el => rd_lender hR hV h0 (X (i + 1)))⟩
  obtain ⟨B2, hB2, hok⟩ := hok
  obtain ⟨r, F1, g1, F2, e1, H1, H2, hI2⟩ := hok F g hI
  exact ⟨F2, g1, IV_mono hB2 hI2, fun out K => lw_in (tgt := 600) hL hi h0 ej (by decide) (by decide) rfl (by decide) (lw_lender (by omega) hi h0 e1 H1 H2 K)⟩
theorem lgs_17 {B Ln i : Nat} {X : Nat → Int32} {F : Nat → Nat → Int32} {g : Nat → Option Nat} (hB : B ≤ 900000) (hL : Ln ≤ 1536) (hi : i + 3 ≤ Ln) (h0 : F 0 = X) (hI : IVx B X F g) (ej : X i &&& 31 = nI 17) : lwG B Ln i X F g := by
  have hok : ∃ B2, B2 ≤ B + 300 ∧ OK Ln 0 B B2 X yX6_without MX6_without [.ref 4, .int (X (i + 1))] yX7_without MX7_without [.ref 172, .int (X (i + 1))] := ⟨_, by omega, ok_read (fun F g n t hR hV h0 h3 ek el => rd_without h3 hR hV h0 (X (i + 1)))⟩
  obtain ⟨B2, hB2, hok⟩ := hok
  obtain ⟨r, F1, g1, F2, e1, H1, H2, hI2⟩ := hok F g hI
  exact ⟨F2, g1, IV_mono hB2 hI2, fun out K => lw_in (tgt := 623) hL hi h0 ej (by decide) (by decide) rfl (by decide) (lw_without (by omega) hi h0 e1 H1 H2 K)⟩
theorem lgs_18 {B Ln i : Nat} {X : Nat → Int32} {F : Nat → Nat → Int32} {g : Nat → Option Nat} (hB : B ≤ 900000) (hL : Ln ≤ 1536) (hi : i + 3 ≤ Ln) (h0 : F 0 = X) (hI : IVx B X F g) (ej : X i &&& 31 = nI 18) : lwG B Ln i X F g := by
  have hok : ∃ B2, B2 ≤ B + 300 ∧ OK Ln 0 B B2 X yX6_usual MX6_usual [.ref 4] yX7_usual MX7_usual [.ref 172] := ⟨_, by omega, ok_read (fun F g n t hR hV h0 h3 ek el => rd_usual hR h0)⟩
  obtain ⟨B2, hB2, hok⟩ := hok
  obtain ⟨r, F1, g1, F2, e1, H1, H2, hI2⟩ := hok F g hI
  exact ⟨F2, g1, IV_mono hB2 hI2, fun out K => lw_in (tgt := 646) hL hi h0 ej (by decide) (by decide) rfl (by decide) (lw_usual (by omega) hi h0 e1 H1 H2 K)⟩
theorem lgs_19 {B Ln i : Nat} {X : Nat → Int32} {F : Nat → Nat → Int32} {g : Nat → Option Nat} (hB : B ≤ 900000) (hL : Ln ≤ 1536) (hi : i + 3 ≤ Ln) (h0 : F 0 = X) (hI : IVx B X F g) (ej : X i &&& 31 = nI 19) : lwG B Ln i X F g := by
  have hok : ∃ B2, B2 ≤ B + 300 ∧ OK Ln 0 B B2 X yX6_put MX6_put [.ref 4, .long ((X (i + 1)).toInt64 <<< ((32 : Int32).toInt64 &&& 63) ||| ((X (i + 2)).toInt64 &&& 4294967295))] yX7_put MX7_put [.ref 172, .long ((X (i + 1)).toInt64 <<< ((32 : Int32).toInt64 &&& 63) ||| ((X (i + 2)).toInt64 &&& 4294967295))] := ⟨_, by omega, ok_put _⟩
  obtain ⟨B2, hB2, hok⟩ := hok
  obtain ⟨r, F1, g1, F2, e1, H1, H2, hI2⟩ := hok F g hI
  exact ⟨F2, g1, IV_mono hB2 hI2, fun out K => lw_in (tgt := 659) hL hi h0 ej (by decide) (by decide) rfl (by decide) (lw_put _ rfl (by omega) hi h0 e1 H1 H2 K)⟩
theorem lgs_20 {B Ln i : Nat} {X : Nat → Int32} {F : Nat → Nat → Int32} {g : Nat → Option Nat} (hB : B ≤ 900000) (hL : Ln ≤ 1536) (hi : i + 3 ≤ Ln) (h0 : F 0 = X) (hI : IVx B X F g) (ej : X i &&& 31 = nI 20) : lwG B Ln i X F g := by
  have hok : ∃ B2, B2 ≤ B + 300 ∧ OK Ln 0 B B2 X yX6_wipe MX6_wipe [.ref 4] yX7_wipe MX7_wipe [.ref 172] := ⟨_, by omega, ok_wipe⟩
  obtain ⟨B2, hB2, hok⟩ := hok
  obtain ⟨r, F1, g1, F2, e1, H1, H2, hI2⟩ := hok F g hI
  exact ⟨F2, g1, IV_mono hB2 hI2, fun out K => lw_in (tgt := 712) hL hi h0 ej (by decide) (by decide) rfl (by decide) (lw_wipe (by omega) hi h0 e1 H1 H2 K)⟩
theorem lgs_21 {B Ln i : Nat} {X : Nat → Int32} {F : Nat → Nat → Int32} {g : Nat → Option Nat} (hB : B ≤ 900000) (hL : Ln ≤ 1536) (hi : i + 3 ≤ Ln) (h0 : F 0 = X) (hI : IVx B X F g) (ej : X i &&& 31 = nI 21) : lwG B Ln i X F g := by
  have hok : ∃ B2, B2 ≤ B + 300 ∧ OK Ln 0 B B2 X yX6_fault MX6_fault [.ref 4] yX7_fault MX7_fault [.ref 172] := ⟨_, by omega, ok_fault⟩
  obtain ⟨B2, hB2, hok⟩ := hok
  obtain ⟨r, F1, g1, F2, e1, H1, H2, hI2⟩ := hok F g hI
  exact ⟨F2, g1, IV_mono hB2 hI2, fun out K => lw_in (tgt := 725) hL hi h0 ej (by decide) (by decide) rfl (by decide) (lw_fault (by omega) hi h0 e1 H1 H2 K)⟩
theorem lgs_22 {B Ln i : Nat} {X : Nat → Int32} {F : Nat → Nat → Int32} {g : Nat → Option Nat} (hB : B ≤ 900000) (hL : Ln ≤ 1536) (hi : i + 3 ≤ Ln) (h0 : F 0 = X) (hI : IVx B X F g) (ej : X i &&& 31 = nI 22) : lwG B Ln i X F g := by
  have hok : ∃ B2, B2 ≤ B + 300 ∧ OK Ln 0 B B2 X yX6_carryOut MX6_carryOut [.ref 4] yX7_carryOut MX7_carryOut [.ref 172] := ⟨_, by omega, ok_carry hB⟩
  obtain ⟨B2, hB2, hok⟩ := hok
  obtain ⟨r, F1, g1, F2, e1, H1, H2, hI2⟩ := hok F g hI
  exact ⟨F2, g1, IV_mono hB2 hI2, fun out K => lw_in (tgt := 738) hL hi h0 ej (by decide) (by decide) rfl (by decide) (lw_carryOut (by omega) hi h0 e1 H1 H2 K)⟩
theorem lgs_23 {B Ln i : Nat} {X : Nat → Int32} {F : Nat → Nat → Int32} {g : Nat → Option Nat} (hB : B ≤ 900000) (hL : Ln ≤ 1536) (hi : i + 3 ≤ Ln) (h0 : F 0 = X) (hI : IVx B X F g) (ej : X i &&& 31 = nI 23) : lwG B Ln i X F g := by
  have hok : ∃ B2, B2 ≤ B + 300 ∧ OK Ln 0 B B2 X yX6_undo MX6_undo [.ref 4] yX7_undo MX7_undo [.ref 172] := ⟨_, by omega, ok_undo⟩
  obtain ⟨B2, hB2, hok⟩ := hok
  obtain ⟨r, F1, g1, F2, e1, H1, H2, hI2⟩ := hok F g hI
  exact ⟨F2, g1, IV_mono hB2 hI2, fun out K => lw_in (tgt := 751) hL hi h0 ej (by decide) (by decide) rfl (by decide) (lw_undo (by omega) hi h0 e1 H1 H2 K)⟩
theorem lgs_24 {B Ln i : Nat} {X : Nat → Int32} {F : Nat → Nat → Int32} {g : Nat → Option Nat} (hB : B ≤ 900000) (hL : Ln ≤ 1536) (hi : i + 3 ≤ Ln) (h0 : F 0 = X) (hI : IVx B X F g) (ej : X i &&& 31 = nI 24) : lwG B Ln i X F g := by
  have hok : ∃ B2, B2 ≤ B + 300 ∧ OK Ln 0 B B2 X yX6_save MX6_save [.ref 4, .int (X (i + 1))] yX7_save MX7_save [.ref 172, .int (X (i + 1))] := ⟨_, by omega, ok_save (X (i + 1))⟩
  obtain ⟨B2, hB2, hok⟩ := hok
  obtain ⟨r, F1, g1, F2, e1, H1, H2, hI2⟩ := hok F g hI
  exact ⟨F2, g1, IV_mono hB2 hI2, fun out K => lw_in (tgt := 764) hL hi h0 ej (by decide) (by decide) rfl (by decide) (lw_save (by omega) hi h0 e1 H1 H2 K)⟩
theorem lgs_25 {B Ln i : Nat} {X : Nat → Int32} {F : Nat → Nat → Int32} {g : Nat → Option Nat} (hB : B ≤ 900000) (hL : Ln ≤ 1536) (hi : i + 3 ≤ Ln) (h0 : F 0 = X) (hI : IVx B X F g) (ej : X i &&& 31 = nI 25) : lwG B Ln i X F g := by
  have hok : ∃ B2, B2 ≤ B + 300 ∧ OK Ln 0 B B2 X yX6_restore MX6_restore [.ref 4, .int (X (i + 1))] yX7_restore MX7_restore [.ref 172, .int (X (i + 1))] := ⟨_, by omega, ok_restore (X (i + 1))⟩
  obtain ⟨B2, hB2, hok⟩ := hok
  obtain ⟨r, F1, g1, F2, e1, H1, H2, hI2⟩ := hok F g hI
  exact ⟨F2, g1, IV_mono hB2 hI2, fun out K => lw_in (tgt := 787) hL hi h0 ej (by decide) (by decide) rfl (by decide) (lw_restore (by omega) hi h0 e1 H1 H2 K)⟩
