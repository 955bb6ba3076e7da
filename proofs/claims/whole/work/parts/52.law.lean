/-! the law: one turn of its loop for each call -/
def SC (b L : Nat) (xs : Nat → Int32) (s : State) (B : Nat) : Prop := va_X b L xs s s.heap ∧ b < s.heap.size ∧ ¬ B ≤ b ∧ L ≤ 3072
theorem rn_mono {R : Room} {n m : Nat} (h : RN R n) (hm : m ≤ n) : RN R m := ⟨Nat.le_trans hm h.1, Nat.le_trans (Nat.mul_le_mul_left 40 hm) h.2⟩
section LW
variable {p : Program} {l : Launch} {e : Env} {R : Room} {s : State} {m : MethodId} {args : Array Value} {below : List Frame} {meth : Method} {c : Code} {D : va_G} {B nL : Nat} {Q : State → Prop} {ce sl : Nat} {f : St} {lv : Lv} {pc : Nat} {st : List Value} {cc : ByteArray} {own : String} {K : Nat → ClassId}
theorem v_sld (C : Cx p s m args c cc nL own D B K) {b L : Nat} {xs : Nat → Int32} (hX : SC b L xs s B) {i : Int32} (hd : decode cc pc = .ok (.iaload, 1)) (hi : vp_in i L) (k : V p l e R s m args below meth c D B nL Q ce sl f lv (pc + 1) (.int (xs i.toNatClampNeg) :: st)) : V p l e R s m args below meth c D B nL Q ce sl f lv pc (.int i :: .ref b :: st) := fun H locs ls h hS hl => va_sld C.1 C.2.1 hX.1 hX.2.1 hX.2.2.1 hS hi hd (k H locs ls h hS hl)
theorem v_slen (C : Cx p s m args c cc nL own D B K) {b L : Nat} {xs : Nat → Int32} (hX : SC b L xs s B) (hd : decode cc pc = .ok (.arraylength, 1)) (k : V p l e R s m args below meth c D B nL Q ce sl f lv (pc + 1) (.int (nI L) :: st)) : V p l e R s m args below meth c D B nL Q ce sl f lv pc (.ref b :: st) := fun H locs ls h hS hl => va_slen C.1 C.2.1 hX.1 hX.2.1 hX.2.2.1 hS hd (k H locs ls h hS hl)
theorem nI_plus (a b : Nat) : nI a + nI b = nI (a + b) := (Int32.ofNat_add a b).symm
theorem w_arg (C : Cx p s m args c cc nL own D B K) {b L : Nat} {xs : Nat → Int32} (hX : SC b L xs s B) {j : Nat} {n : Int} (k9 : Nat) (d0 : decode cc pc = .ok (.aload_n 0, 1)) (d1 : decode cc (pc + 1) = .ok (.iload 4, 2)) (d3 : decode cc (pc + 1 + 2) = .ok (.iconst n, 1)) (d4 : decode cc (pc + 1 + 2 + 1) = .ok (.iadd, 1)) (d5 : decode cc (pc + 1 + 2 + 1 + 1) = .ok (.iaload, 1)) (hn : Int32.ofInt n = nI k9) (h0 : lk lv 0 = some (.ref b)) (h4 : lk lv 4 = some (.int (nI (6 * j)))) (hk : 6 * j + k9 < L) (k : V p l e R s m args below meth c D B nL Q ce sl f lv (pc + 1 + 2 + 1 + 1 + 1) (.int (xs (6 * j + k9)) :: st)) : V p l e R s m args below meth c D B nL Q ce sl f lv pc st := by
  have hL := hX.2.2.2
  refine v_aload_n C d0 rfl h0 ?_
  refine v_iload C d1 h4 ?_
  refine v_iconst C d3 hn ?_
  refine v_iadd C d4 ?_
  refine v_ri (nI_plus _ _) ?_
  refine v_sld C hX d5 (vp_in_nI hk (by omega)) ?_
  rw [nI_clamp (show 6 * j + k9 < 2 ^ 31 by omega)]
  exact k
end LW

set_option maxHeartbeats 4000000 in
set_option maxRecDepth 100000 in
theorem w_wholes {p : Program} {l : Launch} {e : Env} {R : Room} {s : State} {m : MethodId} {args : Array Value} {below : List Frame} {meth : Method} {c : Code} {D : va_G} {B : Nat} {Q : State → Prop} {ce sl : Nat} {f : St} {K : Nat → ClassId} (C : Cx p s m args c cL_law 8 RL D B K) (hlT : l.stackTraces = false) {q r : Nat → Nat} {o b L j : Nat} {xs : Nat → Int32} {S : AS} {v : Nat → Int64} (hX : SC b L xs s B) (hj : 6 * j + 6 ≤ L) (hR : RN R 52) (hc : ce + 2 ≤ R.cells) (hs : sl + 8 ≤ R.slots) (hJ : LJ K q r o f S S v) (ht : tS S < 2 ^ 31) (kk : ∀ (f9 : St) (S9 : AS) (v9 : Nat → Int64), LJ K q r o f9 S9 S9 v9 → tS S9 ≤ tS S + 1 → V p l e R s m args below meth c D B 8 Q (ce + 2) (sl + 8) f9 (lof [(0, .ref b), (1, .ref (q 0)), (2, .ref (r 0)), (3, .ref o), (4, .int (nI (6 * j)))]) 1446 []) : V p l e R s m args below meth c D B 8 Q ce sl f (lof [(0, .ref b), (1, .ref (q 0)), (2, .ref (r 0)), (3, .ref o), (4, .int (nI (6 * j)))]) 152 [] := by
  obtain ⟨fs0, hq0⟩ := CL_h0 hJ.1
  refine v_aload_n C dL_law_152 rfl rfl ?_
  refine w_arg C hX 1 dL_law_153 dL_law_154 dL_law_156 dL_law_157 dL_law_158 (by decide) rfl rfl (by omega) ?_
  refine v_i2l C dL_law_159 ?_
  refine v_bipush (v := 32) C dL_law_160 (by decide) ?_
  refine v_lshl C dL_law_162 ?_
  refine w_arg C hX 2 dL_law_163 dL_law_164 dL_law_166 dL_law_167 dL_law_168 (by decide) rfl rfl (by omega) ?_
  refine v_i2l C dL_law_169 ?_
  refine v_ldc2 C dL_law_170 g_kl_L_50 ?_
  refine v_land C dL_law_173 ?_
  refine v_lor C dL_law_174 ?_
  refine w_arg C hX 3 dL_law_175 dL_law_176 dL_law_178 dL_law_179 dL_law_180 (by decide) rfl rfl (by omega) ?_
  refine v_i2l C dL_law_181 ?_
  refine v_bipush (v := 32) C dL_law_182 (by decide) ?_
  refine v_lshl C dL_law_184 ?_
  refine w_arg C hX 4 dL_law_185 dL_law_186 dL_law_188 dL_law_189 dL_law_190 (by decide) rfl rfl (by omega) ?_
  refine v_i2l C dL_law_191 ?_
  refine v_ldc2 C dL_law_192 g_kl_L_50 ?_
  refine v_land C dL_law_195 ?_
  refine v_lor C dL_law_196 ?_
  refine v_ci (r_V C (k_wholes l D B K f q S hJ.1 _ _) dL_law_197 hq0 rfl g_ml_L_52 g_im_yX8_wholes g_se_X8_yX8_wholes_yX8_wholes g_in_X8 g_cd_yX8_wholes (rn_mono hR (by decide)) (by decide) rfl rfl hdn_yX8_wholes (Nat.le_of_ble_eq_true rfl) ⟨by omega, by omega⟩) (fun a1 f1 h1 => ?_)
  obtain ⟨e1, hC1, hO1⟩ := h1
  subst e1
  have J1 := lj_c hJ hC1 hO1
  obtain ⟨fr1, hr1⟩ := MD_h0 J1.2.1
  refine v_aload_n C dL_law_200 rfl rfl ?_
  refine w_arg C hX 1 dL_law_201 dL_law_202 dL_law_204 dL_law_205 dL_law_206 (by decide) rfl rfl (by omega) ?_
  refine v_i2l C dL_law_207 ?_
  refine v_bipush (v := 32) C dL_law_208 (by decide) ?_
  refine v_lshl C dL_law_210 ?_
  refine w_arg C hX 2 dL_law_211 dL_law_212 dL_law_214 dL_law_215 dL_law_216 (by decide) rfl rfl (by omega) ?_
  refine v_i2l C dL_law_217 ?_
  refine v_ldc2 C dL_law_218 g_kl_L_50 ?_
  refine v_land C dL_law_221 ?_
  refine v_lor C dL_law_222 ?_
  refine w_arg C hX 3 dL_law_223 dL_law_224 dL_law_226 dL_law_227 dL_law_228 (by decide) rfl rfl (by omega) ?_
  refine v_i2l C dL_law_229 ?_
  refine v_bipush (v := 32) C dL_law_230 (by decide) ?_
  refine v_lshl C dL_law_232 ?_
  refine w_arg C hX 4 dL_law_233 dL_law_234 dL_law_236 dL_law_237 dL_law_238 (by decide) rfl rfl (by omega) ?_
  refine v_i2l C dL_law_239 ?_
  refine v_ldc2 C dL_law_240 g_kl_L_50 ?_
  refine v_land C dL_law_243 ?_
  refine v_lor C dL_law_244 ?_
  refine v_ci (r_V C (j_wholes l D B K f1 r f1 S J1.2.1 _ _) dL_law_245 hr1 rfl g_ml_L_56 g_im_yX9_wholes g_se_X9_yX9_wholes_yX9_wholes g_in_X9 g_cd_yX9_wholes (rn_mono hR (by decide)) (by decide) rfl rfl hdn_yX9_wholes (Nat.le_of_ble_eq_true rfl) ⟨by omega, by omega⟩) (fun a2 f2 h2 => ?_)
  obtain ⟨e2, hD2⟩ := h2
  subst e2
  have J2 := lj_m J1 hD2
  exact v_icmp_eq (tgt := 1446) C dL_law_248 (by decide) (fun _ => v_widen (by omega) (by omega) (kk _ _ _ J2 (tt_Wholes S _ _))) (fun h9 => absurd rfl h9)

set_option maxHeartbeats 4000000 in
set_option maxRecDepth 100000 in
theorem w_signs {p : Program} {l : Launch} {e : Env} {R : Room} {s : State} {m : MethodId} {args : Array Value} {below : List Frame} {meth : Method} {c : Code} {D : va_G} {B : Nat} {Q : State → Prop} {ce sl : Nat} {f : St} {K : Nat → ClassId} (C : Cx p s m args c cL_law 8 RL D B K) (hlT : l.stackTraces = false) {q r : Nat → Nat} {o b L j : Nat} {xs : Nat → Int32} {S : AS} {v : Nat → Int64} (hX : SC b L xs s B) (hj : 6 * j + 6 ≤ L) (hR : RN R 52) (hc : ce + 2 ≤ R.cells) (hs : sl + 8 ≤ R.slots) (hJ : LJ K q r o f S S v) (ht : tS S < 2 ^ 31) (kk : ∀ (f9 : St) (S9 : AS) (v9 : Nat → Int64), LJ K q r o f9 S9 S9 v9 → tS S9 ≤ tS S + 1 → V p l e R s m args below meth c D B 8 Q (ce + 2) (sl + 8) f9 (lof [(0, .ref b), (1, .ref (q 0)), (2, .ref (r 0)), (3, .ref o), (4, .int (nI (6 * j)))]) 1446 []) : V p l e R s m args below meth c D B 8 Q ce sl f (lof [(0, .ref b), (1, .ref (q 0)), (2, .ref (r 0)), (3, .ref o), (4, .int (nI (6 * j)))]) 253 [] := by
  obtain ⟨fs0, hq0⟩ := CL_h0 hJ.1
  refine v_aload_n C dL_law_253 rfl rfl ?_
  refine w_arg C hX 1 dL_law_254 dL_law_255 dL_law_257 dL_law_258 dL_law_259 (by decide) rfl rfl (by omega) ?_
  refine w_arg C hX 2 dL_law_260 dL_law_261 dL_law_263 dL_law_264 dL_law_265 (by decide) rfl rfl (by omega) ?_
  refine v_ci (r_V C (k_signs l D B K f q S hJ.1 _ _) dL_law_266 hq0 rfl g_ml_L_57 g_im_yX8_signs g_se_X8_yX8_signs_yX8_signs g_in_X8 g_cd_yX8_signs (rn_mono hR (by decide)) (by decide) rfl rfl hdn_yX8_signs (Nat.le_of_ble_eq_true rfl) ⟨by omega, by omega⟩) (fun a1 f1 h1 => ?_)
  obtain ⟨e1, hC1, hO1⟩ := h1
  subst e1
  have J1 := lj_c hJ hC1 hO1
  obtain ⟨fr1, hr1⟩ := MD_h0 J1.2.1
  refine v_aload_n C dL_law_269 rfl rfl ?_
  refine w_arg C hX 1 dL_law_270 dL_law_271 dL_law_273 dL_law_274 dL_law_275 (by decide) rfl rfl (by omega) ?_
  refine w_arg C hX 2 dL_law_276 dL_law_277 dL_law_279 dL_law_280 dL_law_281 (by decide) rfl rfl (by omega) ?_
  refine v_ci (r_V C (j_signs l D B K f1 r f1 S J1.2.1 _ _) dL_law_282 hr1 rfl g_ml_L_60 g_im_yX9_signs g_se_X9_yX9_signs_yX9_signs g_in_X9 g_cd_yX9_signs (rn_mono hR (by decide)) (by decide) rfl rfl hdn_yX9_signs (Nat.le_of_ble_eq_true rfl) ⟨by omega, by omega⟩) (fun a2 f2 h2 => ?_)
  obtain ⟨e2, hD2⟩ := h2
  subst e2
  have J2 := lj_m J1 hD2
  exact v_icmp_eq (tgt := 1446) C dL_law_285 (by decide) (fun _ => v_widen (by omega) (by omega) (kk _ _ _ J2 (tt_Signs S _ _))) (fun h9 => absurd rfl h9)

set_option maxHeartbeats 4000000 in
set_option maxRecDepth 100000 in
theorem w_names {p : Program} {l : Launch} {e : Env} {R : Room} {s : State} {m : MethodId} {args : Array Value} {below : List Frame} {meth : Method} {c : Code} {D : va_G} {B : Nat} {Q : State → Prop} {ce sl : Nat} {f : St} {K : Nat → ClassId} (C : Cx p s m args c cL_law 8 RL D B K) (hlT : l.stackTraces = false) {q r : Nat → Nat} {o b L j : Nat} {xs : Nat → Int32} {S : AS} {v : Nat → Int64} (hX : SC b L xs s B) (hj : 6 * j + 6 ≤ L) (hR : RN R 52) (hc : ce + 2 ≤ R.cells) (hs : sl + 8 ≤ R.slots) (hJ : LJ K q r o f S S v) (ht : tS S < 2 ^ 31) (kk : ∀ (f9 : St) (S9 : AS) (v9 : Nat → Int64), LJ K q r o f9 S9 S9 v9 → tS S9 ≤ tS S + 1 → V p l e R s m args below meth c D B 8 Q (ce + 2) (sl + 8) f9 (lof [(0, .ref b), (1, .ref (q 0)), (2, .ref (r 0)), (3, .ref o), (4, .int (nI (6 * j)))]) 1446 []) : V p l e R s m args below meth c D B 8 Q ce sl f (lof [(0, .ref b), (1, .ref (q 0)), (2, .ref (r 0)), (3, .ref o), (4, .int (nI (6 * j)))]) 290 [] := by
  obtain ⟨fs0, hq0⟩ := CL_h0 hJ.1
  refine v_aload_n C dL_law_290 rfl rfl ?_
  refine w_arg C hX 1 dL_law_291 dL_law_292 dL_law_294 dL_law_295 dL_law_296 (by decide) rfl rfl (by omega) ?_
  refine w_arg C hX 2 dL_law_297 dL_law_298 dL_law_300 dL_law_301 dL_law_302 (by decide) rfl rfl (by omega) ?_
  refine w_arg C hX 3 dL_law_303 dL_law_304 dL_law_306 dL_law_307 dL_law_308 (by decide) rfl rfl (by omega) ?_
  refine v_ci (r_V C (k_names l D B K f q S hJ.1 _ _ _) dL_law_309 hq0 rfl g_ml_L_61 g_im_yX8_names g_se_X8_yX8_names_yX8_names g_in_X8 g_cd_yX8_names (rn_mono hR (by decide)) (by decide) rfl rfl hdn_yX8_names (Nat.le_of_ble_eq_true rfl) ⟨by omega, by omega⟩) (fun a1 f1 h1 => ?_)
  obtain ⟨e1, hC1, hO1⟩ := h1
  subst e1
  have J1 := lj_c hJ hC1 hO1
  obtain ⟨fr1, hr1⟩ := MD_h0 J1.2.1
  refine v_aload_n C dL_law_312 rfl rfl ?_
  refine w_arg C hX 1 dL_law_313 dL_law_314 dL_law_316 dL_law_317 dL_law_318 (by decide) rfl rfl (by omega) ?_
  refine w_arg C hX 2 dL_law_319 dL_law_320 dL_law_322 dL_law_323 dL_law_324 (by decide) rfl rfl (by omega) ?_
  refine w_arg C hX 3 dL_law_325 dL_law_326 dL_law_328 dL_law_329 dL_law_330 (by decide) rfl rfl (by omega) ?_
  refine v_ci (r_V C (j_names l D B K f1 r f1 S J1.2.1 _ _ _) dL_law_331 hr1 rfl g_ml_L_65 g_im_yX9_names g_se_X9_yX9_names_yX9_names g_in_X9 g_cd_yX9_names (rn_mono hR (by decide)) (by decide) rfl rfl hdn_yX9_names (Nat.le_of_ble_eq_true rfl) ⟨by omega, by omega⟩) (fun a2 f2 h2 => ?_)
  obtain ⟨e2, hD2⟩ := h2
  subst e2
  have J2 := lj_m J1 hD2
  exact v_icmp_eq (tgt := 1446) C dL_law_334 (by decide) (fun _ => v_widen (by omega) (by omega) (kk _ _ _ J2 (tt_Names S _ _ _))) (fun h9 => absurd rfl h9)

set_option maxHeartbeats 4000000 in
set_option maxRecDepth 100000 in
theorem w_steps {p : Program} {l : Launch} {e : Env} {R : Room} {s : State} {m : MethodId} {args : Array Value} {below : List Frame} {meth : Method} {c : Code} {D : va_G} {B : Nat} {Q : State → Prop} {ce sl : Nat} {f : St} {K : Nat → ClassId} (C : Cx p s m args c cL_law 8 RL D B K) (hlT : l.stackTraces = false) {q r : Nat → Nat} {o b L j : Nat} {xs : Nat → Int32} {S : AS} {v : Nat → Int64} (hX : SC b L xs s B) (hj : 6 * j + 6 ≤ L) (hR : RN R 52) (hc : ce + 2 ≤ R.cells) (hs : sl + 8 ≤ R.slots) (hJ : LJ K q r o f S S v) (ht : tS S < 2 ^ 31) (kk : ∀ (f9 : St) (S9 : AS) (v9 : Nat → Int64), LJ K q r o f9 S9 S9 v9 → tS S9 ≤ tS S + 1 → V p l e R s m args below meth c D B 8 Q (ce + 2) (sl + 8) f9 (lof [(0, .ref b), (1, .ref (q 0)), (2, .ref (r 0)), (3, .ref o), (4, .int (nI (6 * j)))]) 1446 []) : V p l e R s m args below meth c D B 8 Q ce sl f (lof [(0, .ref b), (1, .ref (q 0)), (2, .ref (r 0)), (3, .ref o), (4, .int (nI (6 * j)))]) 339 [] := by
  obtain ⟨fs0, hq0⟩ := CL_h0 hJ.1
  refine v_aload_n C dL_law_339 rfl rfl ?_
  refine w_arg C hX 1 dL_law_340 dL_law_341 dL_law_343 dL_law_344 dL_law_345 (by decide) rfl rfl (by omega) ?_
  refine v_i2l C dL_law_346 ?_
  refine v_bipush (v := 32) C dL_law_347 (by decide) ?_
  refine v_lshl C dL_law_349 ?_
  refine w_arg C hX 2 dL_law_350 dL_law_351 dL_law_353 dL_law_354 dL_law_355 (by decide) rfl rfl (by omega) ?_
  refine v_i2l C dL_law_356 ?_
  refine v_ldc2 C dL_law_357 g_kl_L_50 ?_
  refine v_land C dL_law_360 ?_
  refine v_lor C dL_law_361 ?_
  refine w_arg C hX 3 dL_law_362 dL_law_363 dL_law_365 dL_law_366 dL_law_367 (by decide) rfl rfl (by omega) ?_
  refine v_i2l C dL_law_368 ?_
  refine v_bipush (v := 32) C dL_law_369 (by decide) ?_
  refine v_lshl C dL_law_371 ?_
  refine w_arg C hX 4 dL_law_372 dL_law_373 dL_law_375 dL_law_376 dL_law_377 (by decide) rfl rfl (by omega) ?_
  refine v_i2l C dL_law_378 ?_
  refine v_ldc2 C dL_law_379 g_kl_L_50 ?_
  refine v_land C dL_law_382 ?_
  refine v_lor C dL_law_383 ?_
  refine w_arg C hX 5 dL_law_384 dL_law_385 dL_law_387 dL_law_388 dL_law_389 (by decide) rfl rfl (by omega) ?_
  refine v_ci (r_V C (k_steps l D B K f q S hJ.1 _ _ _) dL_law_390 hq0 rfl g_ml_L_66 g_im_yX8_steps g_se_X8_yX8_steps_yX8_steps g_in_X8 g_cd_yX8_steps (rn_mono hR (by decide)) (by decide) rfl rfl hdn_yX8_steps (Nat.le_of_ble_eq_true rfl) ⟨by omega, by omega⟩) (fun a1 f1 h1 => ?_)
  obtain ⟨e1, hC1, hO1⟩ := h1
  subst e1
  have J1 := lj_c hJ hC1 hO1
  obtain ⟨fr1, hr1⟩ := MD_h0 J1.2.1
  refine v_aload_n C dL_law_393 rfl rfl ?_
  refine w_arg C hX 1 dL_law_394 dL_law_395 dL_law_397 dL_law_398 dL_law_399 (by decide) rfl rfl (by omega) ?_
  refine v_i2l C dL_law_400 ?_
  refine v_bipush (v := 32) C dL_law_401 (by decide) ?_
  refine v_lshl C dL_law_403 ?_
  refine w_arg C hX 2 dL_law_404 dL_law_405 dL_law_407 dL_law_408 dL_law_409 (by decide) rfl rfl (by omega) ?_
  refine v_i2l C dL_law_410 ?_
  refine v_ldc2 C dL_law_411 g_kl_L_50 ?_
  refine v_land C dL_law_414 ?_
  refine v_lor C dL_law_415 ?_
  refine w_arg C hX 3 dL_law_416 dL_law_417 dL_law_419 dL_law_420 dL_law_421 (by decide) rfl rfl (by omega) ?_
  refine v_i2l C dL_law_422 ?_
  refine v_bipush (v := 32) C dL_law_423 (by decide) ?_
  refine v_lshl C dL_law_425 ?_
  refine w_arg C hX 4 dL_law_426 dL_law_427 dL_law_429 dL_law_430 dL_law_431 (by decide) rfl rfl (by omega) ?_
  refine v_i2l C dL_law_432 ?_
  refine v_ldc2 C dL_law_433 g_kl_L_50 ?_
  refine v_land C dL_law_436 ?_
  refine v_lor C dL_law_437 ?_
  refine w_arg C hX 5 dL_law_438 dL_law_439 dL_law_441 dL_law_442 dL_law_443 (by decide) rfl rfl (by omega) ?_
  refine v_ci (r_V C (j_steps l D B K f1 r f1 S J1.2.1 _ _ _) dL_law_444 hr1 rfl g_ml_L_70 g_im_yX9_steps g_se_X9_yX9_steps_yX9_steps g_in_X9 g_cd_yX9_steps (rn_mono hR (by decide)) (by decide) rfl rfl hdn_yX9_steps (Nat.le_of_ble_eq_true rfl) ⟨by omega, by omega⟩) (fun a2 f2 h2 => ?_)
  obtain ⟨e2, hD2⟩ := h2
  subst e2
  have J2 := lj_m J1 hD2
  exact v_icmp_eq (tgt := 1446) C dL_law_447 (by decide) (fun _ => v_widen (by omega) (by omega) (kk _ _ _ J2 (tt_Steps S _ _ _))) (fun h9 => absurd rfl h9)

set_option maxHeartbeats 4000000 in
set_option maxRecDepth 100000 in
theorem w_back {p : Program} {l : Launch} {e : Env} {R : Room} {s : State} {m : MethodId} {args : Array Value} {below : List Frame} {meth : Method} {c : Code} {D : va_G} {B : Nat} {Q : State → Prop} {ce sl : Nat} {f : St} {K : Nat → ClassId} (C : Cx p s m args c cL_law 8 RL D B K) (hlT : l.stackTraces = false) {q r : Nat → Nat} {o b L j : Nat} {xs : Nat → Int32} {S : AS} {v : Nat → Int64} (hX : SC b L xs s B) (hj : 6 * j + 6 ≤ L) (hR : RN R 52) (hc : ce + 2 ≤ R.cells) (hs : sl + 8 ≤ R.slots) (hJ : LJ K q r o f S S v) (ht : tS S < 2 ^ 31) (kk : ∀ (f9 : St) (S9 : AS) (v9 : Nat → Int64), LJ K q r o f9 S9 S9 v9 → tS S9 ≤ tS S + 1 → V p l e R s m args below meth c D B 8 Q (ce + 2) (sl + 8) f9 (lof [(0, .ref b), (1, .ref (q 0)), (2, .ref (r 0)), (3, .ref o), (4, .int (nI (6 * j)))]) 1446 []) : V p l e R s m args below meth c D B 8 Q ce sl f (lof [(0, .ref b), (1, .ref (q 0)), (2, .ref (r 0)), (3, .ref o), (4, .int (nI (6 * j)))]) 452 [] := by
  obtain ⟨fs0, hq0⟩ := CL_h0 hJ.1
  refine v_aload_n C dL_law_452 rfl rfl ?_
  refine w_arg C hX 1 dL_law_453 dL_law_454 dL_law_456 dL_law_457 dL_law_458 (by decide) rfl rfl (by omega) ?_
  refine v_ci (r_V C (k_back l D B K f q S hJ.1 _) dL_law_459 hq0 rfl g_ml_L_71 g_im_yX8_back g_se_X8_yX8_back_yX8_back g_in_X8 g_cd_yX8_back (rn_mono hR (by decide)) (by decide) rfl rfl hdn_yX8_back (Nat.le_of_ble_eq_true rfl) ⟨by omega, by omega⟩) (fun a1 f1 h1 => ?_)
  obtain ⟨e1, hC1, hO1⟩ := h1
  subst e1
  have J1 := lj_c hJ hC1 hO1
  obtain ⟨fr1, hr1⟩ := MD_h0 J1.2.1
  refine v_aload_n C dL_law_462 rfl rfl ?_
  refine w_arg C hX 1 dL_law_463 dL_law_464 dL_law_466 dL_law_467 dL_law_468 (by decide) rfl rfl (by omega) ?_
  refine v_ci (r_V C (j_back l D B K f1 r f1 S J1.2.1 _) dL_law_469 hr1 rfl g_ml_L_74 g_im_yX9_back g_se_X9_yX9_back_yX9_back g_in_X9 g_cd_yX9_back (rn_mono hR (by decide)) (by decide) rfl rfl hdn_yX9_back (Nat.le_of_ble_eq_true rfl) ⟨by omega, by omega⟩) (fun a2 f2 h2 => ?_)
  obtain ⟨e2, hD2⟩ := h2
  subst e2
  have J2 := lj_m J1 hD2
  exact v_icmp_eq (tgt := 1446) C dL_law_472 (by decide) (fun _ => v_widen (by omega) (by omega) (kk _ _ _ J2 (tt_Back S _))) (fun h9 => absurd rfl h9)

set_option maxHeartbeats 4000000 in
set_option maxRecDepth 100000 in
theorem w_pair {p : Program} {l : Launch} {e : Env} {R : Room} {s : State} {m : MethodId} {args : Array Value} {below : List Frame} {meth : Method} {c : Code} {D : va_G} {B : Nat} {Q : State → Prop} {ce sl : Nat} {f : St} {K : Nat → ClassId} (C : Cx p s m args c cL_law 8 RL D B K) (hlT : l.stackTraces = false) {q r : Nat → Nat} {o b L j : Nat} {xs : Nat → Int32} {S : AS} {v : Nat → Int64} (hX : SC b L xs s B) (hj : 6 * j + 6 ≤ L) (hR : RN R 52) (hc : ce + 2 ≤ R.cells) (hs : sl + 8 ≤ R.slots) (hJ : LJ K q r o f S S v) (ht : tS S < 2 ^ 31) (kk : ∀ (f9 : St) (S9 : AS) (v9 : Nat → Int64), LJ K q r o f9 S9 S9 v9 → tS S9 ≤ tS S + 1 → V p l e R s m args below meth c D B 8 Q (ce + 2) (sl + 8) f9 (lof [(0, .ref b), (1, .ref (q 0)), (2, .ref (r 0)), (3, .ref o), (4, .int (nI (6 * j)))]) 1446 []) : V p l e R s m args below meth c D B 8 Q ce sl f (lof [(0, .ref b), (1, .ref (q 0)), (2, .ref (r 0)), (3, .ref o), (4, .int (nI (6 * j)))]) 477 [] := by
  obtain ⟨fs0, hq0⟩ := CL_h0 hJ.1
  refine v_aload_n C dL_law_477 rfl rfl ?_
  refine w_arg C hX 1 dL_law_478 dL_law_479 dL_law_481 dL_law_482 dL_law_483 (by decide) rfl rfl (by omega) ?_
  refine w_arg C hX 2 dL_law_484 dL_law_485 dL_law_487 dL_law_488 dL_law_489 (by decide) rfl rfl (by omega) ?_
  refine v_ci (r_V C (k_pair l D B K f q S hJ.1 _ _) dL_law_490 hq0 rfl g_ml_L_75 g_im_yX8_pair g_se_X8_yX8_pair_yX8_pair g_in_X8 g_cd_yX8_pair (rn_mono hR (by decide)) (by decide) rfl rfl hdn_yX8_pair (Nat.le_of_ble_eq_true rfl) ⟨by omega, by omega⟩) (fun a1 f1 h1 => ?_)
  obtain ⟨e1, hC1, hO1⟩ := h1
  subst e1
  have J1 := lj_c hJ hC1 hO1
  obtain ⟨fr1, hr1⟩ := MD_h0 J1.2.1
  refine v_aload_n C dL_law_493 rfl rfl ?_
  refine w_arg C hX 1 dL_law_494 dL_law_495 dL_law_497 dL_law_498 dL_law_499 (by decide) rfl rfl (by omega) ?_
  refine w_arg C hX 2 dL_law_500 dL_law_501 dL_law_503 dL_law_504 dL_law_505 (by decide) rfl rfl (by omega) ?_
  refine v_ci (r_V C (j_pair l D B K f1 r f1 S J1.2.1 _ _) dL_law_506 hr1 rfl g_ml_L_78 g_im_yX9_pair g_se_X9_yX9_pair_yX9_pair g_in_X9 g_cd_yX9_pair (rn_mono hR (by decide)) (by decide) rfl rfl hdn_yX9_pair (Nat.le_of_ble_eq_true rfl) ⟨by omega, by omega⟩) (fun a2 f2 h2 => ?_)
  obtain ⟨e2, hD2⟩ := h2
  subst e2
  have J2 := lj_m J1 hD2
  exact v_icmp_eq (tgt := 1446) C dL_law_509 (by decide) (fun _ => v_widen (by omega) (by omega) (kk _ _ _ J2 (tt_Pair S _ _))) (fun h9 => absurd rfl h9)

set_option maxHeartbeats 4000000 in
set_option maxRecDepth 100000 in
theorem w_triple {p : Program} {l : Launch} {e : Env} {R : Room} {s : State} {m : MethodId} {args : Array Value} {below : List Frame} {meth : Method} {c : Code} {D : va_G} {B : Nat} {Q : State → Prop} {ce sl : Nat} {f : St} {K : Nat → ClassId} (C : Cx p s m args c cL_law 8 RL D B K) (hlT : l.stackTraces = false) {q r : Nat → Nat} {o b L j : Nat} {xs : Nat → Int32} {S : AS} {v : Nat → Int64} (hX : SC b L xs s B) (hj : 6 * j + 6 ≤ L) (hR : RN R 52) (hc : ce + 2 ≤ R.cells) (hs : sl + 8 ≤ R.slots) (hJ : LJ K q r o f S S v) (ht : tS S < 2 ^ 31) (kk : ∀ (f9 : St) (S9 : AS) (v9 : Nat → Int64), LJ K q r o f9 S9 S9 v9 → tS S9 ≤ tS S + 1 → V p l e R s m args below meth c D B 8 Q (ce + 2) (sl + 8) f9 (lof [(0, .ref b), (1, .ref (q 0)), (2, .ref (r 0)), (3, .ref o), (4, .int (nI (6 * j)))]) 1446 []) : V p l e R s m args below meth c D B 8 Q ce sl f (lof [(0, .ref b), (1, .ref (q 0)), (2, .ref (r 0)), (3, .ref o), (4, .int (nI (6 * j)))]) 514 [] := by
  obtain ⟨fs0, hq0⟩ := CL_h0 hJ.1
  refine v_aload_n C dL_law_514 rfl rfl ?_
  refine w_arg C hX 1 dL_law_515 dL_law_516 dL_law_518 dL_law_519 dL_law_520 (by decide) rfl rfl (by omega) ?_
  refine w_arg C hX 2 dL_law_521 dL_law_522 dL_law_524 dL_law_525 dL_law_526 (by decide) rfl rfl (by omega) ?_
  refine w_arg C hX 3 dL_law_527 dL_law_528 dL_law_530 dL_law_531 dL_law_532 (by decide) rfl rfl (by omega) ?_
  refine v_ci (r_V C (k_triple l D B K f q S hJ.1 _ _ _) dL_law_533 hq0 rfl g_ml_L_79 g_im_yX8_triple g_se_X8_yX8_triple_yX8_triple g_in_X8 g_cd_yX8_triple (rn_mono hR (by decide)) (by decide) rfl rfl hdn_yX8_triple (Nat.le_of_ble_eq_true rfl) ⟨by omega, by omega⟩) (fun a1 f1 h1 => ?_)
  obtain ⟨e1, hC1, hO1⟩ := h1
  subst e1
  have J1 := lj_c hJ hC1 hO1
  obtain ⟨fr1, hr1⟩ := MD_h0 J1.2.1
  refine v_aload_n C dL_law_536 rfl rfl ?_
  refine w_arg C hX 1 dL_law_537 dL_law_538 dL_law_540 dL_law_541 dL_law_542 (by decide) rfl rfl (by omega) ?_
  refine w_arg C hX 2 dL_law_543 dL_law_544 dL_law_546 dL_law_547 dL_law_548 (by decide) rfl rfl (by omega) ?_
  refine w_arg C hX 3 dL_law_549 dL_law_550 dL_law_552 dL_law_553 dL_law_554 (by decide) rfl rfl (by omega) ?_
  refine v_ci (r_V C (j_triple l D B K f1 r f1 S J1.2.1 _ _ _) dL_law_555 hr1 rfl g_ml_L_82 g_im_yX9_triple g_se_X9_yX9_triple_yX9_triple g_in_X9 g_cd_yX9_triple (rn_mono hR (by decide)) (by decide) rfl rfl hdn_yX9_triple (Nat.le_of_ble_eq_true rfl) ⟨by omega, by omega⟩) (fun a2 f2 h2 => ?_)
  obtain ⟨e2, hD2⟩ := h2
  subst e2
  have J2 := lj_m J1 hD2
  exact v_icmp_eq (tgt := 1446) C dL_law_558 (by decide) (fun _ => v_widen (by omega) (by omega) (kk _ _ _ J2 (tt_Triple S _ _ _))) (fun h9 => absurd rfl h9)

set_option maxHeartbeats 4000000 in
set_option maxRecDepth 100000 in
theorem w_told {p : Program} {l : Launch} {e : Env} {R : Room} {s : State} {m : MethodId} {args : Array Value} {below : List Frame} {meth : Method} {c : Code} {D : va_G} {B : Nat} {Q : State → Prop} {ce sl : Nat} {f : St} {K : Nat → ClassId} (C : Cx p s m args c cL_law 8 RL D B K) (hlT : l.stackTraces = false) {q r : Nat → Nat} {o b L j : Nat} {xs : Nat → Int32} {S : AS} {v : Nat → Int64} (hX : SC b L xs s B) (hj : 6 * j + 6 ≤ L) (hR : RN R 52) (hc : ce + 2 ≤ R.cells) (hs : sl + 8 ≤ R.slots) (hJ : LJ K q r o f S S v) (ht : tS S < 2 ^ 31) (kk : ∀ (f9 : St) (S9 : AS) (v9 : Nat → Int64), LJ K q r o f9 S9 S9 v9 → tS S9 ≤ tS S + 1 → V p l e R s m args below meth c D B 8 Q (ce + 2) (sl + 8) f9 (lof [(0, .ref b), (1, .ref (q 0)), (2, .ref (r 0)), (3, .ref o), (4, .int (nI (6 * j)))]) 1446 []) : V p l e R s m args below meth c D B 8 Q ce sl f (lof [(0, .ref b), (1, .ref (q 0)), (2, .ref (r 0)), (3, .ref o), (4, .int (nI (6 * j)))]) 563 [] := by
  obtain ⟨fs0, hq0⟩ := CL_h0 hJ.1
  refine v_aload_n C dL_law_563 rfl rfl ?_
  refine w_arg C hX 1 dL_law_564 dL_law_565 dL_law_567 dL_law_568 dL_law_569 (by decide) rfl rfl (by omega) ?_
  refine w_arg C hX 2 dL_law_570 dL_law_571 dL_law_573 dL_law_574 dL_law_575 (by decide) rfl rfl (by omega) ?_
  refine v_ci (r_V C (k_told l D B K f q S hJ.1 _ _) dL_law_576 hq0 rfl g_ml_L_83 g_im_yX8_told g_se_X8_yX8_told_yX8_told g_in_X8 g_cd_yX8_told (rn_mono hR (by decide)) (by decide) rfl rfl hdn_yX8_told (Nat.le_of_ble_eq_true rfl) ⟨by omega, by omega⟩) (fun a1 f1 h1 => ?_)
  obtain ⟨e1, hC1, hO1⟩ := h1
  subst e1
  have J1 := lj_c hJ hC1 hO1
  obtain ⟨fr1, hr1⟩ := MD_h0 J1.2.1
  refine v_aload_n C dL_law_579 rfl rfl ?_
  refine w_arg C hX 1 dL_law_580 dL_law_581 dL_law_583 dL_law_584 dL_law_585 (by decide) rfl rfl (by omega) ?_
  refine w_arg C hX 2 dL_law_586 dL_law_587 dL_law_589 dL_law_590 dL_law_591 (by decide) rfl rfl (by omega) ?_
  refine v_ci (r_V C (j_told l D B K f1 r f1 S J1.2.1 _ _) dL_law_592 hr1 rfl g_ml_L_86 g_im_yX9_told g_se_X9_yX9_told_yX9_told g_in_X9 g_cd_yX9_told (rn_mono hR (by decide)) (by decide) rfl rfl hdn_yX9_told (Nat.le_of_ble_eq_true rfl) ⟨by omega, by omega⟩) (fun a2 f2 h2 => ?_)
  obtain ⟨e2, hD2⟩ := h2
  subst e2
  have J2 := lj_m J1 hD2
  exact v_icmp_eq (tgt := 1446) C dL_law_595 (by decide) (fun _ => v_widen (by omega) (by omega) (kk _ _ _ J2 (tt_Told S _ _))) (fun h9 => absurd rfl h9)

set_option maxHeartbeats 4000000 in
set_option maxRecDepth 100000 in
theorem w_size {p : Program} {l : Launch} {e : Env} {R : Room} {s : State} {m : MethodId} {args : Array Value} {below : List Frame} {meth : Method} {c : Code} {D : va_G} {B : Nat} {Q : State → Prop} {ce sl : Nat} {f : St} {K : Nat → ClassId} (C : Cx p s m args c cL_law 8 RL D B K) (hlT : l.stackTraces = false) {q r : Nat → Nat} {o b L j : Nat} {xs : Nat → Int32} {S : AS} {v : Nat → Int64} (hX : SC b L xs s B) (hj : 6 * j + 6 ≤ L) (hR : RN R 52) (hc : ce + 2 ≤ R.cells) (hs : sl + 8 ≤ R.slots) (hJ : LJ K q r o f S S v) (ht : tS S < 2 ^ 31) (kk : ∀ (f9 : St) (S9 : AS) (v9 : Nat → Int64), LJ K q r o f9 S9 S9 v9 → tS S9 ≤ tS S + 1 → V p l e R s m args below meth c D B 8 Q (ce + 2) (sl + 8) f9 (lof [(0, .ref b), (1, .ref (q 0)), (2, .ref (r 0)), (3, .ref o), (4, .int (nI (6 * j)))]) 1446 []) : V p l e R s m args below meth c D B 8 Q ce sl f (lof [(0, .ref b), (1, .ref (q 0)), (2, .ref (r 0)), (3, .ref o), (4, .int (nI (6 * j)))]) 600 [] := by
  obtain ⟨fs0, hq0⟩ := CL_h0 hJ.1
  refine v_aload_n C dL_law_600 rfl rfl ?_
  refine w_arg C hX 1 dL_law_601 dL_law_602 dL_law_604 dL_law_605 dL_law_606 (by decide) rfl rfl (by omega) ?_
  refine v_cl (r_V C (k_size l D B K f q S hJ.1 _) dL_law_607 hq0 rfl g_ml_L_87 g_im_yX8_size g_se_X8_yX8_size_yX8_size g_in_X8 g_cd_yX8_size (rn_mono hR (by decide)) (by decide) rfl rfl hdn_yX8_size (Nat.le_of_ble_eq_true rfl) ⟨by omega, by omega⟩) (fun a1 f1 h1 => ?_)
  obtain ⟨e1, hC1, hO1⟩ := h1
  subst e1
  have J1 := lj_c hJ hC1 hO1
  obtain ⟨fr1, hr1⟩ := MD_h0 J1.2.1
  refine v_aload_n C dL_law_610 rfl rfl ?_
  refine w_arg C hX 1 dL_law_611 dL_law_612 dL_law_614 dL_law_615 dL_law_616 (by decide) rfl rfl (by omega) ?_
  refine v_cl (r_V C (j_size l D B K f1 r f1 S J1.2.1 _) dL_law_617 hr1 rfl g_ml_L_90 g_im_yX9_size g_se_X9_yX9_size_yX9_size g_in_X9 g_cd_yX9_size (rn_mono hR (by decide)) (by decide) rfl rfl hdn_yX9_size (Nat.le_of_ble_eq_true rfl) ⟨by omega, by omega⟩) (fun a2 f2 h2 => ?_)
  obtain ⟨e2, hD2⟩ := h2
  subst e2
  have J2 := lj_m J1 hD2
  exact v_lc_eq (tgt := 1446) C dL_law_620 dL_law_621 (by decide) (fun _ => v_widen (by omega) (by omega) (kk _ _ _ J2 (tt_Size S _))) (fun h9 => absurd rfl h9)

set_option maxHeartbeats 4000000 in
set_option maxRecDepth 100000 in
theorem w_hold {p : Program} {l : Launch} {e : Env} {R : Room} {s : State} {m : MethodId} {args : Array Value} {below : List Frame} {meth : Method} {c : Code} {D : va_G} {B : Nat} {Q : State → Prop} {ce sl : Nat} {f : St} {K : Nat → ClassId} (C : Cx p s m args c cL_law 8 RL D B K) (hlT : l.stackTraces = false) {q r : Nat → Nat} {o b L j : Nat} {xs : Nat → Int32} {S : AS} {v : Nat → Int64} (hX : SC b L xs s B) (hj : 6 * j + 6 ≤ L) (hR : RN R 52) (hc : ce + 2 ≤ R.cells) (hs : sl + 8 ≤ R.slots) (hJ : LJ K q r o f S S v) (ht : tS S < 2 ^ 31) (kk : ∀ (f9 : St) (S9 : AS) (v9 : Nat → Int64), LJ K q r o f9 S9 S9 v9 → tS S9 ≤ tS S + 1 → V p l e R s m args below meth c D B 8 Q (ce + 2) (sl + 8) f9 (lof [(0, .ref b), (1, .ref (q 0)), (2, .ref (r 0)), (3, .ref o), (4, .int (nI (6 * j)))]) 1446 []) : V p l e R s m args below meth c D B 8 Q ce sl f (lof [(0, .ref b), (1, .ref (q 0)), (2, .ref (r 0)), (3, .ref o), (4, .int (nI (6 * j)))]) 626 [] := by
  obtain ⟨fs0, hq0⟩ := CL_h0 hJ.1
  refine v_aload_n C dL_law_626 rfl rfl ?_
  refine w_arg C hX 1 dL_law_627 dL_law_628 dL_law_630 dL_law_631 dL_law_632 (by decide) rfl rfl (by omega) ?_
  refine w_arg C hX 2 dL_law_633 dL_law_634 dL_law_636 dL_law_637 dL_law_638 (by decide) rfl rfl (by omega) ?_
  refine v_i2l C dL_law_639 ?_
  refine v_bipush (v := 32) C dL_law_640 (by decide) ?_
  refine v_lshl C dL_law_642 ?_
  refine w_arg C hX 3 dL_law_643 dL_law_644 dL_law_646 dL_law_647 dL_law_648 (by decide) rfl rfl (by omega) ?_
  refine v_i2l C dL_law_649 ?_
  refine v_ldc2 C dL_law_650 g_kl_L_50 ?_
  refine v_land C dL_law_653 ?_
  refine v_lor C dL_law_654 ?_
  refine v_aload_n C dL_law_655 rfl rfl ?_
  refine v_ci (r_SW C (l_hold l D B K f q r o S S v hlT hJ _ _) dL_law_656 g_ml_L_91 g_st_yL_hold g_in_L g_cw_yL_hold hR (by decide) rfl hdn_yL_hold (Nat.le_of_ble_eq_true rfl) ⟨by omega, by omega⟩) (fun a1 f1 h1 => ?_)
  obtain ⟨e1, v1, J1, ha1⟩ := h1
  subst e1
  obtain ⟨fr1, hr1⟩ := MD_h0 J1.2.1
  refine v_istore C dL_law_659 (by decide) rfl ?_
  refine v_aload_n C dL_law_661 rfl rfl ?_
  refine w_arg C hX 1 dL_law_662 dL_law_663 dL_law_665 dL_law_666 dL_law_667 (by decide) rfl rfl (by omega) ?_
  refine w_arg C hX 2 dL_law_668 dL_law_669 dL_law_671 dL_law_672 dL_law_673 (by decide) rfl rfl (by omega) ?_
  refine v_i2l C dL_law_674 ?_
  refine v_bipush (v := 32) C dL_law_675 (by decide) ?_
  refine v_lshl C dL_law_677 ?_
  refine w_arg C hX 3 dL_law_678 dL_law_679 dL_law_681 dL_law_682 dL_law_683 (by decide) rfl rfl (by omega) ?_
  refine v_i2l C dL_law_684 ?_
  refine v_ldc2 C dL_law_685 g_kl_L_50 ?_
  refine v_land C dL_law_688 ?_
  refine v_lor C dL_law_689 ?_
  refine v_cl (r_V C (j_hold l D B K f1 r f1 S J1.2.1 _ _) dL_law_690 hr1 rfl g_ml_L_96 g_im_yX9_hold g_se_X9_yX9_hold_yX9_hold g_in_X9 g_cd_yX9_hold (rn_mono hR (by decide)) (by decide) rfl rfl hdn_yX9_hold (Nat.le_of_ble_eq_true rfl) ⟨by omega, by omega⟩) (fun a2 f2 h2 => ?_)
  obtain ⟨ha2, hD2⟩ := h2
  obtain ⟨J2, hT2⟩ := lj_mt J1 hD2
  obtain ⟨fr2, hr2⟩ := MD_h0 J2.2.1
  refine v_lstore C dL_law_693 (by decide) rfl ?_
  refine v_aload_n C dL_law_695 rfl rfl ?_
  refine v_ci (r_V C (j_thrown l D B K f2 r f2 _ _ hT2) dL_law_696 hr2 rfl g_ml_L_97 g_im_yX9_thrown g_se_X9_yX9_thrown_yX9_thrown g_in_X9 g_cd_yX9_thrown (rn_mono hR (by decide)) (by decide) rfl rfl hdn_yX9_thrown (Nat.le_of_ble_eq_true rfl) ⟨by omega, by omega⟩) (fun a3 f3 h3 => ?_)
  obtain ⟨e3, e4⟩ := h3
  subst e3
  subst e4
  refine v_iload C dL_law_699 rfl ?_
  refine v_icmp_eq (tgt := 706) C dL_law_701 (by decide) (fun _ => ?_) (fun h9 => absurd rfl h9)
  refine v_iload C dL_law_706 rfl ?_
  refine v_if_ne (tgt := 722) C dL_law_708 (by decide) (fun h0 => v_goto (tgt := 1446) C dL_law_722 (by decide) (v_loc [(0, .ref b), (1, .ref (q 0)), (2, .ref (r 0)), (3, .ref o), (4, .int (nI (6 * j)))] ⟨rfl, rfl, rfl, rfl, rfl, trivial⟩ (v_widen (by omega) (by omega) (kk _ _ _ J2 (tt_Hold S _ _))))) (fun h0 => ?_)
  refine v_aload_n C dL_law_711 rfl rfl ?_
  refine v_iconst (v := 0) C dL_law_712 (by decide) ?_
  refine v_lald C dL_law_713 J2.2.2.1 (vp_in_nI (n := 0) (by decide) (by decide)) ?_
  refine v_lload C dL_law_714 rfl ?_
  exact v_lc_eq (tgt := 722) C dL_law_716 dL_law_717 (by decide) (fun _ => v_goto (tgt := 1446) C dL_law_722 (by decide) (v_loc [(0, .ref b), (1, .ref (q 0)), (2, .ref (r 0)), (3, .ref o), (4, .int (nI (6 * j)))] ⟨rfl, rfl, rfl, rfl, rfl, trivial⟩ (v_widen (by omega) (by omega) (kk _ _ _ J2 (tt_Hold S _ _))))) (fun h9 => absurd ((ha1 h0).trans (ha2 h0).symm) h9)

set_option maxHeartbeats 4000000 in
set_option maxRecDepth 100000 in
theorem w_held {p : Program} {l : Launch} {e : Env} {R : Room} {s : State} {m : MethodId} {args : Array Value} {below : List Frame} {meth : Method} {c : Code} {D : va_G} {B : Nat} {Q : State → Prop} {ce sl : Nat} {f : St} {K : Nat → ClassId} (C : Cx p s m args c cL_law 8 RL D B K) (hlT : l.stackTraces = false) {q r : Nat → Nat} {o b L j : Nat} {xs : Nat → Int32} {S : AS} {v : Nat → Int64} (hX : SC b L xs s B) (hj : 6 * j + 6 ≤ L) (hR : RN R 52) (hc : ce + 2 ≤ R.cells) (hs : sl + 8 ≤ R.slots) (hJ : LJ K q r o f S S v) (ht : tS S < 2 ^ 31) (kk : ∀ (f9 : St) (S9 : AS) (v9 : Nat → Int64), LJ K q r o f9 S9 S9 v9 → tS S9 ≤ tS S + 1 → V p l e R s m args below meth c D B 8 Q (ce + 2) (sl + 8) f9 (lof [(0, .ref b), (1, .ref (q 0)), (2, .ref (r 0)), (3, .ref o), (4, .int (nI (6 * j)))]) 1446 []) : V p l e R s m args below meth c D B 8 Q ce sl f (lof [(0, .ref b), (1, .ref (q 0)), (2, .ref (r 0)), (3, .ref o), (4, .int (nI (6 * j)))]) 725 [] := by
  obtain ⟨fs0, hq0⟩ := CL_h0 hJ.1
  refine v_aload_n C dL_law_725 rfl rfl ?_
  refine w_arg C hX 1 dL_law_726 dL_law_727 dL_law_729 dL_law_730 dL_law_731 (by decide) rfl rfl (by omega) ?_
  refine v_aload_n C dL_law_732 rfl rfl ?_
  refine v_ci (r_SW C (l_held l D B K f q r o S S v hlT hJ _) dL_law_733 g_ml_L_101 g_st_yL_held g_in_L g_cw_yL_held hR (by decide) rfl hdn_yL_held (Nat.le_of_ble_eq_true rfl) ⟨by omega, by omega⟩) (fun a1 f1 h1 => ?_)
  obtain ⟨e1, v1, J1, ha1⟩ := h1
  subst e1
  obtain ⟨fr1, hr1⟩ := MD_h0 J1.2.1
  refine v_istore C dL_law_736 (by decide) rfl ?_
  refine v_aload_n C dL_law_738 rfl rfl ?_
  refine w_arg C hX 1 dL_law_739 dL_law_740 dL_law_742 dL_law_743 dL_law_744 (by decide) rfl rfl (by omega) ?_
  refine v_cl (r_V C (j_held l D B K f1 r f1 S J1.2.1 _) dL_law_745 hr1 rfl g_ml_L_104 g_im_yX9_held g_se_X9_yX9_held_yX9_held g_in_X9 g_cd_yX9_held (rn_mono hR (by decide)) (by decide) rfl rfl hdn_yX9_held (Nat.le_of_ble_eq_true rfl) ⟨by omega, by omega⟩) (fun a2 f2 h2 => ?_)
  obtain ⟨ha2, hD2⟩ := h2
  obtain ⟨J2, hT2⟩ := lj_mt J1 hD2
  obtain ⟨fr2, hr2⟩ := MD_h0 J2.2.1
  refine v_lstore C dL_law_748 (by decide) rfl ?_
  refine v_aload_n C dL_law_750 rfl rfl ?_
  refine v_ci (r_V C (j_thrown l D B K f2 r f2 _ _ hT2) dL_law_751 hr2 rfl g_ml_L_97 g_im_yX9_thrown g_se_X9_yX9_thrown_yX9_thrown g_in_X9 g_cd_yX9_thrown (rn_mono hR (by decide)) (by decide) rfl rfl hdn_yX9_thrown (Nat.le_of_ble_eq_true rfl) ⟨by omega, by omega⟩) (fun a3 f3 h3 => ?_)
  obtain ⟨e3, e4⟩ := h3
  subst e3
  subst e4
  refine v_iload C dL_law_754 rfl ?_
  refine v_icmp_eq (tgt := 761) C dL_law_756 (by decide) (fun _ => ?_) (fun h9 => absurd rfl h9)
  refine v_iload C dL_law_761 rfl ?_
  refine v_if_ne (tgt := 777) C dL_law_763 (by decide) (fun h0 => v_goto (tgt := 1446) C dL_law_777 (by decide) (v_loc [(0, .ref b), (1, .ref (q 0)), (2, .ref (r 0)), (3, .ref o), (4, .int (nI (6 * j)))] ⟨rfl, rfl, rfl, rfl, rfl, trivial⟩ (v_widen (by omega) (by omega) (kk _ _ _ J2 (tt_Held S _))))) (fun h0 => ?_)
  refine v_aload_n C dL_law_766 rfl rfl ?_
  refine v_iconst (v := 0) C dL_law_767 (by decide) ?_
  refine v_lald C dL_law_768 J2.2.2.1 (vp_in_nI (n := 0) (by decide) (by decide)) ?_
  refine v_lload C dL_law_769 rfl ?_
  exact v_lc_eq (tgt := 777) C dL_law_771 dL_law_772 (by decide) (fun _ => v_goto (tgt := 1446) C dL_law_777 (by decide) (v_loc [(0, .ref b), (1, .ref (q 0)), (2, .ref (r 0)), (3, .ref o), (4, .int (nI (6 * j)))] ⟨rfl, rfl, rfl, rfl, rfl, trivial⟩ (v_widen (by omega) (by omega) (kk _ _ _ J2 (tt_Held S _))))) (fun h9 => absurd ((ha1 h0).trans (ha2 h0).symm) h9)

set_option maxHeartbeats 4000000 in
set_option maxRecDepth 100000 in
theorem w_index {p : Program} {l : Launch} {e : Env} {R : Room} {s : State} {m : MethodId} {args : Array Value} {below : List Frame} {meth : Method} {c : Code} {D : va_G} {B : Nat} {Q : State → Prop} {ce sl : Nat} {f : St} {K : Nat → ClassId} (C : Cx p s m args c cL_law 8 RL D B K) (hlT : l.stackTraces = false) {q r : Nat → Nat} {o b L j : Nat} {xs : Nat → Int32} {S : AS} {v : Nat → Int64} (hX : SC b L xs s B) (hj : 6 * j + 6 ≤ L) (hR : RN R 52) (hc : ce + 2 ≤ R.cells) (hs : sl + 8 ≤ R.slots) (hJ : LJ K q r o f S S v) (ht : tS S < 2 ^ 31) (kk : ∀ (f9 : St) (S9 : AS) (v9 : Nat → Int64), LJ K q r o f9 S9 S9 v9 → tS S9 ≤ tS S + 1 → V p l e R s m args below meth c D B 8 Q (ce + 2) (sl + 8) f9 (lof [(0, .ref b), (1, .ref (q 0)), (2, .ref (r 0)), (3, .ref o), (4, .int (nI (6 * j)))]) 1446 []) : V p l e R s m args below meth c D B 8 Q ce sl f (lof [(0, .ref b), (1, .ref (q 0)), (2, .ref (r 0)), (3, .ref o), (4, .int (nI (6 * j)))]) 780 [] := by
  obtain ⟨fs0, hq0⟩ := CL_h0 hJ.1
  refine v_aload_n C dL_law_780 rfl rfl ?_
  refine w_arg C hX 1 dL_law_781 dL_law_782 dL_law_784 dL_law_785 dL_law_786 (by decide) rfl rfl (by omega) ?_
  refine v_aload_n C dL_law_787 rfl rfl ?_
  refine v_ci (r_SW C (l_index l D B K f q r o S S v hlT hJ _) dL_law_788 g_ml_L_105 g_st_yL_index g_in_L g_cw_yL_index hR (by decide) rfl hdn_yL_index (Nat.le_of_ble_eq_true rfl) ⟨by omega, by omega⟩) (fun a1 f1 h1 => ?_)
  obtain ⟨e1, v1, J1, ha1⟩ := h1
  subst e1
  obtain ⟨fr1, hr1⟩ := MD_h0 J1.2.1
  refine v_istore C dL_law_791 (by decide) rfl ?_
  refine v_aload_n C dL_law_793 rfl rfl ?_
  refine w_arg C hX 1 dL_law_794 dL_law_795 dL_law_797 dL_law_798 dL_law_799 (by decide) rfl rfl (by omega) ?_
  refine v_cl (r_V C (j_index l D B K f1 r f1 S J1.2.1 _) dL_law_800 hr1 rfl g_ml_L_107 g_im_yX9_index g_se_X9_yX9_index_yX9_index g_in_X9 g_cd_yX9_index (rn_mono hR (by decide)) (by decide) rfl rfl hdn_yX9_index (Nat.le_of_ble_eq_true rfl) ⟨by omega, by omega⟩) (fun a2 f2 h2 => ?_)
  obtain ⟨ha2, hD2⟩ := h2
  obtain ⟨J2, hT2⟩ := lj_mt J1 hD2
  obtain ⟨fr2, hr2⟩ := MD_h0 J2.2.1
  refine v_lstore C dL_law_803 (by decide) rfl ?_
  refine v_aload_n C dL_law_805 rfl rfl ?_
  refine v_ci (r_V C (j_thrown l D B K f2 r f2 _ _ hT2) dL_law_806 hr2 rfl g_ml_L_97 g_im_yX9_thrown g_se_X9_yX9_thrown_yX9_thrown g_in_X9 g_cd_yX9_thrown (rn_mono hR (by decide)) (by decide) rfl rfl hdn_yX9_thrown (Nat.le_of_ble_eq_true rfl) ⟨by omega, by omega⟩) (fun a3 f3 h3 => ?_)
  obtain ⟨e3, e4⟩ := h3
  subst e3
  subst e4
  refine v_iload C dL_law_809 rfl ?_
  refine v_icmp_eq (tgt := 816) C dL_law_811 (by decide) (fun _ => ?_) (fun h9 => absurd rfl h9)
  refine v_iload C dL_law_816 rfl ?_
  refine v_if_ne (tgt := 832) C dL_law_818 (by decide) (fun h0 => v_goto (tgt := 1446) C dL_law_832 (by decide) (v_loc [(0, .ref b), (1, .ref (q 0)), (2, .ref (r 0)), (3, .ref o), (4, .int (nI (6 * j)))] ⟨rfl, rfl, rfl, rfl, rfl, trivial⟩ (v_widen (by omega) (by omega) (kk _ _ _ J2 (tt_Index S _))))) (fun h0 => ?_)
  refine v_aload_n C dL_law_821 rfl rfl ?_
  refine v_iconst (v := 0) C dL_law_822 (by decide) ?_
  refine v_lald C dL_law_823 J2.2.2.1 (vp_in_nI (n := 0) (by decide) (by decide)) ?_
  refine v_lload C dL_law_824 rfl ?_
  exact v_lc_eq (tgt := 832) C dL_law_826 dL_law_827 (by decide) (fun _ => v_goto (tgt := 1446) C dL_law_832 (by decide) (v_loc [(0, .ref b), (1, .ref (q 0)), (2, .ref (r 0)), (3, .ref o), (4, .int (nI (6 * j)))] ⟨rfl, rfl, rfl, rfl, rfl, trivial⟩ (v_widen (by omega) (by omega) (kk _ _ _ J2 (tt_Index S _))))) (fun h9 => absurd ((ha1 h0).trans (ha2 h0).symm) h9)

set_option maxHeartbeats 4000000 in
set_option maxRecDepth 100000 in
theorem w_has {p : Program} {l : Launch} {e : Env} {R : Room} {s : State} {m : MethodId} {args : Array Value} {below : List Frame} {meth : Method} {c : Code} {D : va_G} {B : Nat} {Q : State → Prop} {ce sl : Nat} {f : St} {K : Nat → ClassId} (C : Cx p s m args c cL_law 8 RL D B K) (hlT : l.stackTraces = false) {q r : Nat → Nat} {o b L j : Nat} {xs : Nat → Int32} {S : AS} {v : Nat → Int64} (hX : SC b L xs s B) (hj : 6 * j + 6 ≤ L) (hR : RN R 52) (hc : ce + 2 ≤ R.cells) (hs : sl + 8 ≤ R.slots) (hJ : LJ K q r o f S S v) (ht : tS S < 2 ^ 31) (kk : ∀ (f9 : St) (S9 : AS) (v9 : Nat → Int64), LJ K q r o f9 S9 S9 v9 → tS S9 ≤ tS S + 1 → V p l e R s m args below meth c D B 8 Q (ce + 2) (sl + 8) f9 (lof [(0, .ref b), (1, .ref (q 0)), (2, .ref (r 0)), (3, .ref o), (4, .int (nI (6 * j)))]) 1446 []) : V p l e R s m args below meth c D B 8 Q ce sl f (lof [(0, .ref b), (1, .ref (q 0)), (2, .ref (r 0)), (3, .ref o), (4, .int (nI (6 * j)))]) 835 [] := by
  obtain ⟨fs0, hq0⟩ := CL_h0 hJ.1
  refine v_aload_n C dL_law_835 rfl rfl ?_
  refine w_arg C hX 1 dL_law_836 dL_law_837 dL_law_839 dL_law_840 dL_law_841 (by decide) rfl rfl (by omega) ?_
  refine v_ci (r_V C (k_has l D B K f q S hJ.1 _) dL_law_842 hq0 rfl g_ml_L_108 g_im_yX8_has g_se_X8_yX8_has_yX8_has g_in_X8 g_cd_yX8_has (rn_mono hR (by decide)) (by decide) rfl rfl hdn_yX8_has (Nat.le_of_ble_eq_true rfl) ⟨by omega, by omega⟩) (fun a1 f1 h1 => ?_)
  obtain ⟨e1, hC1, hO1⟩ := h1
  subst e1
  have J1 := lj_c hJ hC1 hO1
  obtain ⟨fr1, hr1⟩ := MD_h0 J1.2.1
  refine v_aload_n C dL_law_845 rfl rfl ?_
  refine w_arg C hX 1 dL_law_846 dL_law_847 dL_law_849 dL_law_850 dL_law_851 (by decide) rfl rfl (by omega) ?_
  refine v_ci (r_V C (j_has l D B K f1 r f1 S J1.2.1 _) dL_law_852 hr1 rfl g_ml_L_111 g_im_yX9_has g_se_X9_yX9_has_yX9_has g_in_X9 g_cd_yX9_has (rn_mono hR (by decide)) (by decide) rfl rfl hdn_yX9_has (Nat.le_of_ble_eq_true rfl) ⟨by omega, by omega⟩) (fun a2 f2 h2 => ?_)
  obtain ⟨e2, hD2⟩ := h2
  subst e2
  have J2 := lj_m J1 hD2
  exact v_icmp_eq (tgt := 1446) C dL_law_855 (by decide) (fun _ => v_widen (by omega) (by omega) (kk _ _ _ J2 (tt_Has S _))) (fun h9 => absurd rfl h9)

set_option maxHeartbeats 4000000 in
set_option maxRecDepth 100000 in
theorem w_element {p : Program} {l : Launch} {e : Env} {R : Room} {s : State} {m : MethodId} {args : Array Value} {below : List Frame} {meth : Method} {c : Code} {D : va_G} {B : Nat} {Q : State → Prop} {ce sl : Nat} {f : St} {K : Nat → ClassId} (C : Cx p s m args c cL_law 8 RL D B K) (hlT : l.stackTraces = false) {q r : Nat → Nat} {o b L j : Nat} {xs : Nat → Int32} {S : AS} {v : Nat → Int64} (hX : SC b L xs s B) (hj : 6 * j + 6 ≤ L) (hR : RN R 52) (hc : ce + 2 ≤ R.cells) (hs : sl + 8 ≤ R.slots) (hJ : LJ K q r o f S S v) (ht : tS S < 2 ^ 31) (kk : ∀ (f9 : St) (S9 : AS) (v9 : Nat → Int64), LJ K q r o f9 S9 S9 v9 → tS S9 ≤ tS S + 1 → V p l e R s m args below meth c D B 8 Q (ce + 2) (sl + 8) f9 (lof [(0, .ref b), (1, .ref (q 0)), (2, .ref (r 0)), (3, .ref o), (4, .int (nI (6 * j)))]) 1446 []) : V p l e R s m args below meth c D B 8 Q ce sl f (lof [(0, .ref b), (1, .ref (q 0)), (2, .ref (r 0)), (3, .ref o), (4, .int (nI (6 * j)))]) 860 [] := by
  obtain ⟨fs0, hq0⟩ := CL_h0 hJ.1
  refine v_aload_n C dL_law_860 rfl rfl ?_
  refine w_arg C hX 1 dL_law_861 dL_law_862 dL_law_864 dL_law_865 dL_law_866 (by decide) rfl rfl (by omega) ?_
  refine w_arg C hX 2 dL_law_867 dL_law_868 dL_law_870 dL_law_871 dL_law_872 (by decide) rfl rfl (by omega) ?_
  refine v_i2l C dL_law_873 ?_
  refine v_bipush (v := 32) C dL_law_874 (by decide) ?_
  refine v_lshl C dL_law_876 ?_
  refine w_arg C hX 3 dL_law_877 dL_law_878 dL_law_880 dL_law_881 dL_law_882 (by decide) rfl rfl (by omega) ?_
  refine v_i2l C dL_law_883 ?_
  refine v_ldc2 C dL_law_884 g_kl_L_50 ?_
  refine v_land C dL_law_887 ?_
  refine v_lor C dL_law_888 ?_
  refine v_aload_n C dL_law_889 rfl rfl ?_
  refine v_ci (r_SW C (l_element l D B K f q r o S S v hlT hJ _ _) dL_law_890 g_ml_L_112 g_st_yL_element g_in_L g_cw_yL_element hR (by decide) rfl hdn_yL_element (Nat.le_of_ble_eq_true rfl) ⟨by omega, by omega⟩) (fun a1 f1 h1 => ?_)
  obtain ⟨e1, v1, J1, ha1⟩ := h1
  subst e1
  obtain ⟨fr1, hr1⟩ := MD_h0 J1.2.1
  refine v_istore C dL_law_893 (by decide) rfl ?_
  refine v_aload_n C dL_law_895 rfl rfl ?_
  refine w_arg C hX 1 dL_law_896 dL_law_897 dL_law_899 dL_law_900 dL_law_901 (by decide) rfl rfl (by omega) ?_
  refine w_arg C hX 2 dL_law_902 dL_law_903 dL_law_905 dL_law_906 dL_law_907 (by decide) rfl rfl (by omega) ?_
  refine v_i2l C dL_law_908 ?_
  refine v_bipush (v := 32) C dL_law_909 (by decide) ?_
  refine v_lshl C dL_law_911 ?_
  refine w_arg C hX 3 dL_law_912 dL_law_913 dL_law_915 dL_law_916 dL_law_917 (by decide) rfl rfl (by omega) ?_
  refine v_i2l C dL_law_918 ?_
  refine v_ldc2 C dL_law_919 g_kl_L_50 ?_
  refine v_land C dL_law_922 ?_
  refine v_lor C dL_law_923 ?_
  refine v_ci (r_V C (j_element l D B K f1 r f1 S J1.2.1 _ _) dL_law_924 hr1 rfl g_ml_L_114 g_im_yX9_element g_se_X9_yX9_element_yX9_element g_in_X9 g_cd_yX9_element (rn_mono hR (by decide)) (by decide) rfl rfl hdn_yX9_element (Nat.le_of_ble_eq_true rfl) ⟨by omega, by omega⟩) (fun a2 f2 h2 => ?_)
  obtain ⟨ha2, hD2⟩ := h2
  obtain ⟨J2, hT2⟩ := lj_mt J1 hD2
  obtain ⟨fr2, hr2⟩ := MD_h0 J2.2.1
  refine v_istore C dL_law_927 (by decide) rfl ?_
  refine v_aload_n C dL_law_929 rfl rfl ?_
  refine v_ci (r_V C (j_thrown l D B K f2 r f2 _ _ hT2) dL_law_930 hr2 rfl g_ml_L_97 g_im_yX9_thrown g_se_X9_yX9_thrown_yX9_thrown g_in_X9 g_cd_yX9_thrown (rn_mono hR (by decide)) (by decide) rfl rfl hdn_yX9_thrown (Nat.le_of_ble_eq_true rfl) ⟨by omega, by omega⟩) (fun a3 f3 h3 => ?_)
  obtain ⟨e3, e4⟩ := h3
  subst e3
  subst e4
  refine v_iload C dL_law_933 rfl ?_
  refine v_icmp_eq (tgt := 940) C dL_law_935 (by decide) (fun _ => ?_) (fun h9 => absurd rfl h9)
  refine v_iload C dL_law_940 rfl ?_
  refine v_if_ne (tgt := 957) C dL_law_942 (by decide) (fun h0 => v_goto (tgt := 1446) C dL_law_957 (by decide) (v_loc [(0, .ref b), (1, .ref (q 0)), (2, .ref (r 0)), (3, .ref o), (4, .int (nI (6 * j)))] ⟨rfl, rfl, rfl, rfl, rfl, trivial⟩ (v_widen (by omega) (by omega) (kk _ _ _ J2 (tt_Element S _ _))))) (fun h0 => ?_)
  refine v_aload_n C dL_law_945 rfl rfl ?_
  refine v_iconst (v := 0) C dL_law_946 (by decide) ?_
  refine v_lald C dL_law_947 J2.2.2.1 (vp_in_nI (n := 0) (by decide) (by decide)) ?_
  refine v_iload C dL_law_948 rfl ?_
  refine v_i2l C dL_law_950 ?_
  exact v_lc_eq (tgt := 957) C dL_law_951 dL_law_952 (by decide) (fun _ => v_goto (tgt := 1446) C dL_law_957 (by decide) (v_loc [(0, .ref b), (1, .ref (q 0)), (2, .ref (r 0)), (3, .ref o), (4, .int (nI (6 * j)))] ⟨rfl, rfl, rfl, rfl, rfl, trivial⟩ (v_widen (by omega) (by omega) (kk _ _ _ J2 (tt_Element S _ _))))) (fun h9 => absurd ((ha1 h0).trans (congrArg Int32.toInt64 (ha2 h0).symm)) h9)

set_option maxHeartbeats 4000000 in
set_option maxRecDepth 100000 in
theorem w_go {p : Program} {l : Launch} {e : Env} {R : Room} {s : State} {m : MethodId} {args : Array Value} {below : List Frame} {meth : Method} {c : Code} {D : va_G} {B : Nat} {Q : State → Prop} {ce sl : Nat} {f : St} {K : Nat → ClassId} (C : Cx p s m args c cL_law 8 RL D B K) (hlT : l.stackTraces = false) {q r : Nat → Nat} {o b L j : Nat} {xs : Nat → Int32} {S : AS} {v : Nat → Int64} (hX : SC b L xs s B) (hj : 6 * j + 6 ≤ L) (hR : RN R 52) (hc : ce + 2 ≤ R.cells) (hs : sl + 8 ≤ R.slots) (hJ : LJ K q r o f S S v) (ht : tS S < 2 ^ 31) (kk : ∀ (f9 : St) (S9 : AS) (v9 : Nat → Int64), LJ K q r o f9 S9 S9 v9 → tS S9 ≤ tS S + 1 → V p l e R s m args below meth c D B 8 Q (ce + 2) (sl + 8) f9 (lof [(0, .ref b), (1, .ref (q 0)), (2, .ref (r 0)), (3, .ref o), (4, .int (nI (6 * j)))]) 1446 []) : V p l e R s m args below meth c D B 8 Q ce sl f (lof [(0, .ref b), (1, .ref (q 0)), (2, .ref (r 0)), (3, .ref o), (4, .int (nI (6 * j)))]) 960 [] := by
  obtain ⟨fs0, hq0⟩ := CL_h0 hJ.1
  refine v_aload_n C dL_law_960 rfl rfl ?_
  refine w_arg C hX 1 dL_law_961 dL_law_962 dL_law_964 dL_law_965 dL_law_966 (by decide) rfl rfl (by omega) ?_
  refine w_arg C hX 2 dL_law_967 dL_law_968 dL_law_970 dL_law_971 dL_law_972 (by decide) rfl rfl (by omega) ?_
  refine v_i2l C dL_law_973 ?_
  refine v_bipush (v := 32) C dL_law_974 (by decide) ?_
  refine v_lshl C dL_law_976 ?_
  refine w_arg C hX 3 dL_law_977 dL_law_978 dL_law_980 dL_law_981 dL_law_982 (by decide) rfl rfl (by omega) ?_
  refine v_i2l C dL_law_983 ?_
  refine v_ldc2 C dL_law_984 g_kl_L_50 ?_
  refine v_land C dL_law_987 ?_
  refine v_lor C dL_law_988 ?_
  refine v_aload_n C dL_law_989 rfl rfl ?_
  refine v_ci (r_SW C (l_go l D B K f q r o S S v hlT hJ _ _) dL_law_990 g_ml_L_115 g_st_yL_go g_in_L g_cw_yL_go hR (by decide) rfl hdn_yL_go (Nat.le_of_ble_eq_true rfl) ⟨by omega, by omega⟩) (fun a1 f1 h1 => ?_)
  obtain ⟨e1, v1, J1, ha1⟩ := h1
  subst e1
  obtain ⟨fr1, hr1⟩ := MD_h0 J1.2.1
  refine v_istore C dL_law_993 (by decide) rfl ?_
  refine v_aload_n C dL_law_995 rfl rfl ?_
  refine w_arg C hX 1 dL_law_996 dL_law_997 dL_law_999 dL_law_1000 dL_law_1001 (by decide) rfl rfl (by omega) ?_
  refine w_arg C hX 2 dL_law_1002 dL_law_1003 dL_law_1005 dL_law_1006 dL_law_1007 (by decide) rfl rfl (by omega) ?_
  refine v_i2l C dL_law_1008 ?_
  refine v_bipush (v := 32) C dL_law_1009 (by decide) ?_
  refine v_lshl C dL_law_1011 ?_
  refine w_arg C hX 3 dL_law_1012 dL_law_1013 dL_law_1015 dL_law_1016 dL_law_1017 (by decide) rfl rfl (by omega) ?_
  refine v_i2l C dL_law_1018 ?_
  refine v_ldc2 C dL_law_1019 g_kl_L_50 ?_
  refine v_land C dL_law_1022 ?_
  refine v_lor C dL_law_1023 ?_
  refine v_cl (r_V C (j_go l D B K f1 r f1 S J1.2.1 _ _) dL_law_1024 hr1 rfl g_ml_L_117 g_im_yX9_go g_se_X9_yX9_go_yX9_go g_in_X9 g_cd_yX9_go (rn_mono hR (by decide)) (by decide) rfl rfl hdn_yX9_go (Nat.le_of_ble_eq_true rfl) ⟨by omega, by omega⟩) (fun a2 f2 h2 => ?_)
  obtain ⟨ha2, hD2⟩ := h2
  obtain ⟨J2, hT2⟩ := lj_mt J1 hD2
  obtain ⟨fr2, hr2⟩ := MD_h0 J2.2.1
  refine v_lstore C dL_law_1027 (by decide) rfl ?_
  refine v_aload_n C dL_law_1029 rfl rfl ?_
  refine v_ci (r_V C (j_thrown l D B K f2 r f2 _ _ hT2) dL_law_1030 hr2 rfl g_ml_L_97 g_im_yX9_thrown g_se_X9_yX9_thrown_yX9_thrown g_in_X9 g_cd_yX9_thrown (rn_mono hR (by decide)) (by decide) rfl rfl hdn_yX9_thrown (Nat.le_of_ble_eq_true rfl) ⟨by omega, by omega⟩) (fun a3 f3 h3 => ?_)
  obtain ⟨e3, e4⟩ := h3
  subst e3
  subst e4
  refine v_iload C dL_law_1033 rfl ?_
  refine v_icmp_eq (tgt := 1040) C dL_law_1035 (by decide) (fun _ => ?_) (fun h9 => absurd rfl h9)
  refine v_iload C dL_law_1040 rfl ?_
  refine v_if_ne (tgt := 1056) C dL_law_1042 (by decide) (fun h0 => v_goto (tgt := 1446) C dL_law_1056 (by decide) (v_loc [(0, .ref b), (1, .ref (q 0)), (2, .ref (r 0)), (3, .ref o), (4, .int (nI (6 * j)))] ⟨rfl, rfl, rfl, rfl, rfl, trivial⟩ (v_widen (by omega) (by omega) (kk _ _ _ J2 (tt_Go S _ _))))) (fun h0 => ?_)
  refine v_aload_n C dL_law_1045 rfl rfl ?_
  refine v_iconst (v := 0) C dL_law_1046 (by decide) ?_
  refine v_lald C dL_law_1047 J2.2.2.1 (vp_in_nI (n := 0) (by decide) (by decide)) ?_
  refine v_lload C dL_law_1048 rfl ?_
  exact v_lc_eq (tgt := 1056) C dL_law_1050 dL_law_1051 (by decide) (fun _ => v_goto (tgt := 1446) C dL_law_1056 (by decide) (v_loc [(0, .ref b), (1, .ref (q 0)), (2, .ref (r 0)), (3, .ref o), (4, .int (nI (6 * j)))] ⟨rfl, rfl, rfl, rfl, rfl, trivial⟩ (v_widen (by omega) (by omega) (kk _ _ _ J2 (tt_Go S _ _))))) (fun h9 => absurd ((ha1 h0).trans (ha2 h0).symm) h9)

set_option maxHeartbeats 4000000 in
set_option maxRecDepth 100000 in
theorem w_miss {p : Program} {l : Launch} {e : Env} {R : Room} {s : State} {m : MethodId} {args : Array Value} {below : List Frame} {meth : Method} {c : Code} {D : va_G} {B : Nat} {Q : State → Prop} {ce sl : Nat} {f : St} {K : Nat → ClassId} (C : Cx p s m args c cL_law 8 RL D B K) (hlT : l.stackTraces = false) {q r : Nat → Nat} {o b L j : Nat} {xs : Nat → Int32} {S : AS} {v : Nat → Int64} (hX : SC b L xs s B) (hj : 6 * j + 6 ≤ L) (hR : RN R 52) (hc : ce + 2 ≤ R.cells) (hs : sl + 8 ≤ R.slots) (hJ : LJ K q r o f S S v) (ht : tS S < 2 ^ 31) (kk : ∀ (f9 : St) (S9 : AS) (v9 : Nat → Int64), LJ K q r o f9 S9 S9 v9 → tS S9 ≤ tS S + 1 → V p l e R s m args below meth c D B 8 Q (ce + 2) (sl + 8) f9 (lof [(0, .ref b), (1, .ref (q 0)), (2, .ref (r 0)), (3, .ref o), (4, .int (nI (6 * j)))]) 1446 []) : V p l e R s m args below meth c D B 8 Q ce sl f (lof [(0, .ref b), (1, .ref (q 0)), (2, .ref (r 0)), (3, .ref o), (4, .int (nI (6 * j)))]) 1059 [] := by
  obtain ⟨fs0, hq0⟩ := CL_h0 hJ.1
  refine v_aload_n C dL_law_1059 rfl rfl ?_
  refine w_arg C hX 1 dL_law_1060 dL_law_1061 dL_law_1063 dL_law_1064 dL_law_1065 (by decide) rfl rfl (by omega) ?_
  refine v_ci (r_V C (k_miss l D B K f q S hJ.1 _) dL_law_1066 hq0 rfl g_ml_L_118 g_im_yX8_miss g_se_X8_yX8_miss_yX8_miss g_in_X8 g_cd_yX8_miss (rn_mono hR (by decide)) (by decide) rfl rfl hdn_yX8_miss (Nat.le_of_ble_eq_true rfl) ⟨by omega, by omega⟩) (fun a1 f1 h1 => ?_)
  obtain ⟨e1, hC1, hO1⟩ := h1
  subst e1
  have J1 := lj_c hJ hC1 hO1
  obtain ⟨fr1, hr1⟩ := MD_h0 J1.2.1
  refine v_aload_n C dL_law_1069 rfl rfl ?_
  refine w_arg C hX 1 dL_law_1070 dL_law_1071 dL_law_1073 dL_law_1074 dL_law_1075 (by decide) rfl rfl (by omega) ?_
  refine v_ci (r_V C (j_miss l D B K f1 r f1 S J1.2.1 _ ht) dL_law_1076 hr1 rfl g_ml_L_121 g_im_yX9_miss g_se_X9_yX9_miss_yX9_miss g_in_X9 g_cd_yX9_miss (rn_mono hR (by decide)) (by decide) rfl rfl hdn_yX9_miss (Nat.le_of_ble_eq_true rfl) ⟨by omega, by omega⟩) (fun a2 f2 h2 => ?_)
  obtain ⟨e2, hD2⟩ := h2
  subst e2
  have J2 := lj_m J1 hD2
  exact v_icmp_eq (tgt := 1446) C dL_law_1079 (by decide) (fun _ => v_widen (by omega) (by omega) (kk _ _ _ J2 (tt_Miss S _))) (fun h9 => absurd rfl h9)

set_option maxHeartbeats 4000000 in
set_option maxRecDepth 100000 in
theorem w_within {p : Program} {l : Launch} {e : Env} {R : Room} {s : State} {m : MethodId} {args : Array Value} {below : List Frame} {meth : Method} {c : Code} {D : va_G} {B : Nat} {Q : State → Prop} {ce sl : Nat} {f : St} {K : Nat → ClassId} (C : Cx p s m args c cL_law 8 RL D B K) (hlT : l.stackTraces = false) {q r : Nat → Nat} {o b L j : Nat} {xs : Nat → Int32} {S : AS} {v : Nat → Int64} (hX : SC b L xs s B) (hj : 6 * j + 6 ≤ L) (hR : RN R 52) (hc : ce + 2 ≤ R.cells) (hs : sl + 8 ≤ R.slots) (hJ : LJ K q r o f S S v) (ht : tS S < 2 ^ 31) (kk : ∀ (f9 : St) (S9 : AS) (v9 : Nat → Int64), LJ K q r o f9 S9 S9 v9 → tS S9 ≤ tS S + 1 → V p l e R s m args below meth c D B 8 Q (ce + 2) (sl + 8) f9 (lof [(0, .ref b), (1, .ref (q 0)), (2, .ref (r 0)), (3, .ref o), (4, .int (nI (6 * j)))]) 1446 []) : V p l e R s m args below meth c D B 8 Q ce sl f (lof [(0, .ref b), (1, .ref (q 0)), (2, .ref (r 0)), (3, .ref o), (4, .int (nI (6 * j)))]) 1084 [] := by
  obtain ⟨fs0, hq0⟩ := CL_h0 hJ.1
  refine v_aload_n C dL_law_1084 rfl rfl ?_
  refine w_arg C hX 1 dL_law_1085 dL_law_1086 dL_law_1088 dL_law_1089 dL_law_1090 (by decide) rfl rfl (by omega) ?_
  refine w_arg C hX 2 dL_law_1091 dL_law_1092 dL_law_1094 dL_law_1095 dL_law_1096 (by decide) rfl rfl (by omega) ?_
  refine v_ci (r_V C (k_within l D B K f q S hJ.1 _ _) dL_law_1097 hq0 rfl g_ml_L_122 g_im_yX8_within g_se_X8_yX8_within_yX8_within g_in_X8 g_cd_yX8_within (rn_mono hR (by decide)) (by decide) rfl rfl hdn_yX8_within (Nat.le_of_ble_eq_true rfl) ⟨by omega, by omega⟩) (fun a1 f1 h1 => ?_)
  obtain ⟨e1, hC1, hO1⟩ := h1
  subst e1
  have J1 := lj_c hJ hC1 hO1
  obtain ⟨fr1, hr1⟩ := MD_h0 J1.2.1
  refine v_aload_n C dL_law_1100 rfl rfl ?_
  refine w_arg C hX 1 dL_law_1101 dL_law_1102 dL_law_1104 dL_law_1105 dL_law_1106 (by decide) rfl rfl (by omega) ?_
  refine w_arg C hX 2 dL_law_1107 dL_law_1108 dL_law_1110 dL_law_1111 dL_law_1112 (by decide) rfl rfl (by omega) ?_
  refine v_ci (r_V C (j_within l D B K f1 r f1 S J1.2.1 _ _) dL_law_1113 hr1 rfl g_ml_L_125 g_im_yX9_within g_se_X9_yX9_within_yX9_within g_in_X9 g_cd_yX9_within (rn_mono hR (by decide)) (by decide) rfl rfl hdn_yX9_within (Nat.le_of_ble_eq_true rfl) ⟨by omega, by omega⟩) (fun a2 f2 h2 => ?_)
  obtain ⟨e2, hD2⟩ := h2
  subst e2
  have J2 := lj_m J1 hD2
  exact v_icmp_eq (tgt := 1446) C dL_law_1116 (by decide) (fun _ => v_widen (by omega) (by omega) (kk _ _ _ J2 (tt_Within S _ _))) (fun h9 => absurd rfl h9)

set_option maxHeartbeats 4000000 in
set_option maxRecDepth 100000 in
theorem w_array {p : Program} {l : Launch} {e : Env} {R : Room} {s : State} {m : MethodId} {args : Array Value} {below : List Frame} {meth : Method} {c : Code} {D : va_G} {B : Nat} {Q : State → Prop} {ce sl : Nat} {f : St} {K : Nat → ClassId} (C : Cx p s m args c cL_law 8 RL D B K) (hlT : l.stackTraces = false) {q r : Nat → Nat} {o b L j : Nat} {xs : Nat → Int32} {S : AS} {v : Nat → Int64} (hX : SC b L xs s B) (hj : 6 * j + 6 ≤ L) (hR : RN R 52) (hc : ce + 2 ≤ R.cells) (hs : sl + 8 ≤ R.slots) (hJ : LJ K q r o f S S v) (ht : tS S < 2 ^ 31) (kk : ∀ (f9 : St) (S9 : AS) (v9 : Nat → Int64), LJ K q r o f9 S9 S9 v9 → tS S9 ≤ tS S + 1 → V p l e R s m args below meth c D B 8 Q (ce + 2) (sl + 8) f9 (lof [(0, .ref b), (1, .ref (q 0)), (2, .ref (r 0)), (3, .ref o), (4, .int (nI (6 * j)))]) 1446 []) : V p l e R s m args below meth c D B 8 Q ce sl f (lof [(0, .ref b), (1, .ref (q 0)), (2, .ref (r 0)), (3, .ref o), (4, .int (nI (6 * j)))]) 1121 [] := by
  obtain ⟨fs0, hq0⟩ := CL_h0 hJ.1
  refine v_aload_n C dL_law_1121 rfl rfl ?_
  refine w_arg C hX 1 dL_law_1122 dL_law_1123 dL_law_1125 dL_law_1126 dL_law_1127 (by decide) rfl rfl (by omega) ?_
  refine v_aload_n C dL_law_1128 rfl rfl ?_
  refine v_ci (r_SW C (l_array l D B K f q r o S S v hlT hJ _) dL_law_1129 g_ml_L_126 g_st_yL_array g_in_L g_cw_yL_array hR (by decide) rfl hdn_yL_array (Nat.le_of_ble_eq_true rfl) ⟨by omega, by omega⟩) (fun a1 f1 h1 => ?_)
  obtain ⟨e1, v1, J1, ha1⟩ := h1
  subst e1
  obtain ⟨fr1, hr1⟩ := MD_h0 J1.2.1
  refine v_istore C dL_law_1132 (by decide) rfl ?_
  refine v_aload_n C dL_law_1134 rfl rfl ?_
  refine w_arg C hX 1 dL_law_1135 dL_law_1136 dL_law_1138 dL_law_1139 dL_law_1140 (by decide) rfl rfl (by omega) ?_
  refine v_ci (r_V C (j_array l D B K f1 r f1 S J1.2.1 _) dL_law_1141 hr1 rfl g_ml_L_128 g_im_yX9_array g_se_X9_yX9_array_yX9_array g_in_X9 g_cd_yX9_array (rn_mono hR (by decide)) (by decide) rfl rfl hdn_yX9_array (Nat.le_of_ble_eq_true rfl) ⟨by omega, by omega⟩) (fun a2 f2 h2 => ?_)
  obtain ⟨ha2, hD2⟩ := h2
  obtain ⟨J2, hT2⟩ := lj_mt J1 hD2
  obtain ⟨fr2, hr2⟩ := MD_h0 J2.2.1
  refine v_istore C dL_law_1144 (by decide) rfl ?_
  refine v_aload_n C dL_law_1146 rfl rfl ?_
  refine v_ci (r_V C (j_thrown l D B K f2 r f2 _ _ hT2) dL_law_1147 hr2 rfl g_ml_L_97 g_im_yX9_thrown g_se_X9_yX9_thrown_yX9_thrown g_in_X9 g_cd_yX9_thrown (rn_mono hR (by decide)) (by decide) rfl rfl hdn_yX9_thrown (Nat.le_of_ble_eq_true rfl) ⟨by omega, by omega⟩) (fun a3 f3 h3 => ?_)
  obtain ⟨e3, e4⟩ := h3
  subst e3
  subst e4
  refine v_iload C dL_law_1150 rfl ?_
  refine v_icmp_eq (tgt := 1157) C dL_law_1152 (by decide) (fun _ => ?_) (fun h9 => absurd rfl h9)
  refine v_iload C dL_law_1157 rfl ?_
  refine v_if_ne (tgt := 1174) C dL_law_1159 (by decide) (fun h0 => v_goto (tgt := 1446) C dL_law_1174 (by decide) (v_loc [(0, .ref b), (1, .ref (q 0)), (2, .ref (r 0)), (3, .ref o), (4, .int (nI (6 * j)))] ⟨rfl, rfl, rfl, rfl, rfl, trivial⟩ (v_widen (by omega) (by omega) (kk _ _ _ J2 (tt_Array S _))))) (fun h0 => ?_)
  refine v_aload_n C dL_law_1162 rfl rfl ?_
  refine v_iconst (v := 0) C dL_law_1163 (by decide) ?_
  refine v_lald C dL_law_1164 J2.2.2.1 (vp_in_nI (n := 0) (by decide) (by decide)) ?_
  refine v_iload C dL_law_1165 rfl ?_
  refine v_i2l C dL_law_1167 ?_
  exact v_lc_eq (tgt := 1174) C dL_law_1168 dL_law_1169 (by decide) (fun _ => v_goto (tgt := 1446) C dL_law_1174 (by decide) (v_loc [(0, .ref b), (1, .ref (q 0)), (2, .ref (r 0)), (3, .ref o), (4, .int (nI (6 * j)))] ⟨rfl, rfl, rfl, rfl, rfl, trivial⟩ (v_widen (by omega) (by omega) (kk _ _ _ J2 (tt_Array S _))))) (fun h9 => absurd ((ha1 h0).trans (congrArg Int32.toInt64 (ha2 h0).symm)) h9)

set_option maxHeartbeats 4000000 in
set_option maxRecDepth 100000 in
theorem w_put {p : Program} {l : Launch} {e : Env} {R : Room} {s : State} {m : MethodId} {args : Array Value} {below : List Frame} {meth : Method} {c : Code} {D : va_G} {B : Nat} {Q : State → Prop} {ce sl : Nat} {f : St} {K : Nat → ClassId} (C : Cx p s m args c cL_law 8 RL D B K) (hlT : l.stackTraces = false) {q r : Nat → Nat} {o b L j : Nat} {xs : Nat → Int32} {S : AS} {v : Nat → Int64} (hX : SC b L xs s B) (hj : 6 * j + 6 ≤ L) (hR : RN R 52) (hc : ce + 2 ≤ R.cells) (hs : sl + 8 ≤ R.slots) (hJ : LJ K q r o f S S v) (ht : tS S < 2 ^ 31) (kk : ∀ (f9 : St) (S9 : AS) (v9 : Nat → Int64), LJ K q r o f9 S9 S9 v9 → tS S9 ≤ tS S + 1 → V p l e R s m args below meth c D B 8 Q (ce + 2) (sl + 8) f9 (lof [(0, .ref b), (1, .ref (q 0)), (2, .ref (r 0)), (3, .ref o), (4, .int (nI (6 * j)))]) 1446 []) : V p l e R s m args below meth c D B 8 Q ce sl f (lof [(0, .ref b), (1, .ref (q 0)), (2, .ref (r 0)), (3, .ref o), (4, .int (nI (6 * j)))]) 1177 [] := by
  obtain ⟨fs0, hq0⟩ := CL_h0 hJ.1
  refine v_aload_n C dL_law_1177 rfl rfl ?_
  refine w_arg C hX 1 dL_law_1178 dL_law_1179 dL_law_1181 dL_law_1182 dL_law_1183 (by decide) rfl rfl (by omega) ?_
  refine w_arg C hX 2 dL_law_1184 dL_law_1185 dL_law_1187 dL_law_1188 dL_law_1189 (by decide) rfl rfl (by omega) ?_
  refine v_aload_n C dL_law_1190 rfl rfl ?_
  refine v_ci (r_SW C (l_put l D B K f q r o S S v hlT hJ _ _) dL_law_1191 g_ml_L_129 g_st_yL_put g_in_L g_cw_yL_put hR (by decide) rfl hdn_yL_put (Nat.le_of_ble_eq_true rfl) ⟨by omega, by omega⟩) (fun a1 f1 h1 => ?_)
  obtain ⟨e1, v1, J1, ha1⟩ := h1
  subst e1
  obtain ⟨fr1, hr1⟩ := MD_h0 J1.2.1
  refine v_istore C dL_law_1194 (by decide) rfl ?_
  refine v_aload_n C dL_law_1196 rfl rfl ?_
  refine w_arg C hX 1 dL_law_1197 dL_law_1198 dL_law_1200 dL_law_1201 dL_law_1202 (by decide) rfl rfl (by omega) ?_
  refine w_arg C hX 2 dL_law_1203 dL_law_1204 dL_law_1206 dL_law_1207 dL_law_1208 (by decide) rfl rfl (by omega) ?_
  refine v_ci (r_V C (j_put l D B K f1 r f1 S J1.2.1 _ _) dL_law_1209 hr1 rfl g_ml_L_132 g_im_yX9_put g_se_X9_yX9_put_yX9_put g_in_X9 g_cd_yX9_put (rn_mono hR (by decide)) (by decide) rfl rfl hdn_yX9_put (Nat.le_of_ble_eq_true rfl) ⟨by omega, by omega⟩) (fun a2 f2 h2 => ?_)
  obtain ⟨ha2, hD2⟩ := h2
  obtain ⟨J2, hT2⟩ := lj_mt J1 hD2
  obtain ⟨fr2, hr2⟩ := MD_h0 J2.2.1
  refine v_istore C dL_law_1212 (by decide) rfl ?_
  refine v_aload_n C dL_law_1214 rfl rfl ?_
  refine v_ci (r_V C (j_thrown l D B K f2 r f2 _ _ hT2) dL_law_1215 hr2 rfl g_ml_L_97 g_im_yX9_thrown g_se_X9_yX9_thrown_yX9_thrown g_in_X9 g_cd_yX9_thrown (rn_mono hR (by decide)) (by decide) rfl rfl hdn_yX9_thrown (Nat.le_of_ble_eq_true rfl) ⟨by omega, by omega⟩) (fun a3 f3 h3 => ?_)
  obtain ⟨e3, e4⟩ := h3
  subst e3
  subst e4
  refine v_iload C dL_law_1218 rfl ?_
  refine v_icmp_eq (tgt := 1225) C dL_law_1220 (by decide) (fun _ => ?_) (fun h9 => absurd rfl h9)
  refine v_iload C dL_law_1225 rfl ?_
  refine v_if_ne (tgt := 1242) C dL_law_1227 (by decide) (fun h0 => v_goto (tgt := 1446) C dL_law_1242 (by decide) (v_loc [(0, .ref b), (1, .ref (q 0)), (2, .ref (r 0)), (3, .ref o), (4, .int (nI (6 * j)))] ⟨rfl, rfl, rfl, rfl, rfl, trivial⟩ (v_widen (by omega) (by omega) (kk _ _ _ J2 (tt_Put S _ _))))) (fun h0 => ?_)
  refine v_aload_n C dL_law_1230 rfl rfl ?_
  refine v_iconst (v := 0) C dL_law_1231 (by decide) ?_
  refine v_lald C dL_law_1232 J2.2.2.1 (vp_in_nI (n := 0) (by decide) (by decide)) ?_
  refine v_iload C dL_law_1233 rfl ?_
  refine v_i2l C dL_law_1235 ?_
  exact v_lc_eq (tgt := 1242) C dL_law_1236 dL_law_1237 (by decide) (fun _ => v_goto (tgt := 1446) C dL_law_1242 (by decide) (v_loc [(0, .ref b), (1, .ref (q 0)), (2, .ref (r 0)), (3, .ref o), (4, .int (nI (6 * j)))] ⟨rfl, rfl, rfl, rfl, rfl, trivial⟩ (v_widen (by omega) (by omega) (kk _ _ _ J2 (tt_Put S _ _))))) (fun h9 => absurd ((ha1 h0).trans (congrArg Int32.toInt64 (ha2 h0).symm)) h9)

set_option maxHeartbeats 4000000 in
set_option maxRecDepth 100000 in
theorem w_at {p : Program} {l : Launch} {e : Env} {R : Room} {s : State} {m : MethodId} {args : Array Value} {below : List Frame} {meth : Method} {c : Code} {D : va_G} {B : Nat} {Q : State → Prop} {ce sl : Nat} {f : St} {K : Nat → ClassId} (C : Cx p s m args c cL_law 8 RL D B K) (hlT : l.stackTraces = false) {q r : Nat → Nat} {o b L j : Nat} {xs : Nat → Int32} {S : AS} {v : Nat → Int64} (hX : SC b L xs s B) (hj : 6 * j + 6 ≤ L) (hR : RN R 52) (hc : ce + 2 ≤ R.cells) (hs : sl + 8 ≤ R.slots) (hJ : LJ K q r o f S S v) (ht : tS S < 2 ^ 31) (kk : ∀ (f9 : St) (S9 : AS) (v9 : Nat → Int64), LJ K q r o f9 S9 S9 v9 → tS S9 ≤ tS S + 1 → V p l e R s m args below meth c D B 8 Q (ce + 2) (sl + 8) f9 (lof [(0, .ref b), (1, .ref (q 0)), (2, .ref (r 0)), (3, .ref o), (4, .int (nI (6 * j)))]) 1446 []) : V p l e R s m args below meth c D B 8 Q ce sl f (lof [(0, .ref b), (1, .ref (q 0)), (2, .ref (r 0)), (3, .ref o), (4, .int (nI (6 * j)))]) 1245 [] := by
  obtain ⟨fs0, hq0⟩ := CL_h0 hJ.1
  refine v_aload_n C dL_law_1245 rfl rfl ?_
  refine w_arg C hX 1 dL_law_1246 dL_law_1247 dL_law_1249 dL_law_1250 dL_law_1251 (by decide) rfl rfl (by omega) ?_
  refine v_aload_n C dL_law_1252 rfl rfl ?_
  refine v_ci (r_SW C (l_at l D B K f q r o S S v hlT hJ _) dL_law_1253 g_ml_L_133 g_st_yL_at g_in_L g_cw_yL_at hR (by decide) rfl hdn_yL_at (Nat.le_of_ble_eq_true rfl) ⟨by omega, by omega⟩) (fun a1 f1 h1 => ?_)
  obtain ⟨e1, v1, J1, ha1⟩ := h1
  subst e1
  obtain ⟨fr1, hr1⟩ := MD_h0 J1.2.1
  refine v_istore C dL_law_1256 (by decide) rfl ?_
  refine v_aload_n C dL_law_1258 rfl rfl ?_
  refine w_arg C hX 1 dL_law_1259 dL_law_1260 dL_law_1262 dL_law_1263 dL_law_1264 (by decide) rfl rfl (by omega) ?_
  refine v_ci (r_V C (j_at l D B K f1 r f1 S J1.2.1 _) dL_law_1265 hr1 rfl g_ml_L_135 g_im_yX9_at g_se_X9_yX9_at_yX9_at g_in_X9 g_cd_yX9_at (rn_mono hR (by decide)) (by decide) rfl rfl hdn_yX9_at (Nat.le_of_ble_eq_true rfl) ⟨by omega, by omega⟩) (fun a2 f2 h2 => ?_)
  obtain ⟨ha2, hD2⟩ := h2
  obtain ⟨J2, hT2⟩ := lj_mt J1 hD2
  obtain ⟨fr2, hr2⟩ := MD_h0 J2.2.1
  refine v_istore C dL_law_1268 (by decide) rfl ?_
  refine v_aload_n C dL_law_1270 rfl rfl ?_
  refine v_ci (r_V C (j_thrown l D B K f2 r f2 _ _ hT2) dL_law_1271 hr2 rfl g_ml_L_97 g_im_yX9_thrown g_se_X9_yX9_thrown_yX9_thrown g_in_X9 g_cd_yX9_thrown (rn_mono hR (by decide)) (by decide) rfl rfl hdn_yX9_thrown (Nat.le_of_ble_eq_true rfl) ⟨by omega, by omega⟩) (fun a3 f3 h3 => ?_)
  obtain ⟨e3, e4⟩ := h3
  subst e3
  subst e4
  refine v_iload C dL_law_1274 rfl ?_
  refine v_icmp_eq (tgt := 1281) C dL_law_1276 (by decide) (fun _ => ?_) (fun h9 => absurd rfl h9)
  refine v_iload C dL_law_1281 rfl ?_
  refine v_if_ne (tgt := 1298) C dL_law_1283 (by decide) (fun h0 => v_goto (tgt := 1446) C dL_law_1298 (by decide) (v_loc [(0, .ref b), (1, .ref (q 0)), (2, .ref (r 0)), (3, .ref o), (4, .int (nI (6 * j)))] ⟨rfl, rfl, rfl, rfl, rfl, trivial⟩ (v_widen (by omega) (by omega) (kk _ _ _ J2 (tt_At S _))))) (fun h0 => ?_)
  refine v_aload_n C dL_law_1286 rfl rfl ?_
  refine v_iconst (v := 0) C dL_law_1287 (by decide) ?_
  refine v_lald C dL_law_1288 J2.2.2.1 (vp_in_nI (n := 0) (by decide) (by decide)) ?_
  refine v_iload C dL_law_1289 rfl ?_
  refine v_i2l C dL_law_1291 ?_
  exact v_lc_eq (tgt := 1298) C dL_law_1292 dL_law_1293 (by decide) (fun _ => v_goto (tgt := 1446) C dL_law_1298 (by decide) (v_loc [(0, .ref b), (1, .ref (q 0)), (2, .ref (r 0)), (3, .ref o), (4, .int (nI (6 * j)))] ⟨rfl, rfl, rfl, rfl, rfl, trivial⟩ (v_widen (by omega) (by omega) (kk _ _ _ J2 (tt_At S _))))) (fun h9 => absurd ((ha1 h0).trans (congrArg Int32.toInt64 (ha2 h0).symm)) h9)

set_option maxHeartbeats 4000000 in
set_option maxRecDepth 100000 in
theorem w_sum {p : Program} {l : Launch} {e : Env} {R : Room} {s : State} {m : MethodId} {args : Array Value} {below : List Frame} {meth : Method} {c : Code} {D : va_G} {B : Nat} {Q : State → Prop} {ce sl : Nat} {f : St} {K : Nat → ClassId} (C : Cx p s m args c cL_law 8 RL D B K) (hlT : l.stackTraces = false) {q r : Nat → Nat} {o b L j : Nat} {xs : Nat → Int32} {S : AS} {v : Nat → Int64} (hX : SC b L xs s B) (hj : 6 * j + 6 ≤ L) (hR : RN R 52) (hc : ce + 2 ≤ R.cells) (hs : sl + 8 ≤ R.slots) (hJ : LJ K q r o f S S v) (ht : tS S < 2 ^ 31) (kk : ∀ (f9 : St) (S9 : AS) (v9 : Nat → Int64), LJ K q r o f9 S9 S9 v9 → tS S9 ≤ tS S + 1 → V p l e R s m args below meth c D B 8 Q (ce + 2) (sl + 8) f9 (lof [(0, .ref b), (1, .ref (q 0)), (2, .ref (r 0)), (3, .ref o), (4, .int (nI (6 * j)))]) 1446 []) : V p l e R s m args below meth c D B 8 Q ce sl f (lof [(0, .ref b), (1, .ref (q 0)), (2, .ref (r 0)), (3, .ref o), (4, .int (nI (6 * j)))]) 1301 [] := by
  obtain ⟨fs0, hq0⟩ := CL_h0 hJ.1
  refine v_aload_n C dL_law_1301 rfl rfl ?_
  refine w_arg C hX 1 dL_law_1302 dL_law_1303 dL_law_1305 dL_law_1306 dL_law_1307 (by decide) rfl rfl (by omega) ?_
  refine w_arg C hX 2 dL_law_1308 dL_law_1309 dL_law_1311 dL_law_1312 dL_law_1313 (by decide) rfl rfl (by omega) ?_
  refine w_arg C hX 3 dL_law_1314 dL_law_1315 dL_law_1317 dL_law_1318 dL_law_1319 (by decide) rfl rfl (by omega) ?_
  refine v_i2l C dL_law_1320 ?_
  refine v_bipush (v := 32) C dL_law_1321 (by decide) ?_
  refine v_lshl C dL_law_1323 ?_
  refine w_arg C hX 4 dL_law_1324 dL_law_1325 dL_law_1327 dL_law_1328 dL_law_1329 (by decide) rfl rfl (by omega) ?_
  refine v_i2l C dL_law_1330 ?_
  refine v_ldc2 C dL_law_1331 g_kl_L_50 ?_
  refine v_land C dL_law_1334 ?_
  refine v_lor C dL_law_1335 ?_
  refine v_cl (r_V C (k_sum l D B K f q S hJ.1 _ _ _) dL_law_1336 hq0 rfl g_ml_L_136 g_im_yX8_sum g_se_X8_yX8_sum_yX8_sum g_in_X8 g_cd_yX8_sum (rn_mono hR (by decide)) (by decide) rfl rfl hdn_yX8_sum (Nat.le_of_ble_eq_true rfl) ⟨by omega, by omega⟩) (fun a1 f1 h1 => ?_)
  obtain ⟨e1, hC1, hO1⟩ := h1
  subst e1
  have J1 := lj_c hJ hC1 hO1
  obtain ⟨fr1, hr1⟩ := MD_h0 J1.2.1
  refine v_aload_n C dL_law_1339 rfl rfl ?_
  refine w_arg C hX 1 dL_law_1340 dL_law_1341 dL_law_1343 dL_law_1344 dL_law_1345 (by decide) rfl rfl (by omega) ?_
  refine w_arg C hX 2 dL_law_1346 dL_law_1347 dL_law_1349 dL_law_1350 dL_law_1351 (by decide) rfl rfl (by omega) ?_
  refine w_arg C hX 3 dL_law_1352 dL_law_1353 dL_law_1355 dL_law_1356 dL_law_1357 (by decide) rfl rfl (by omega) ?_
  refine v_i2l C dL_law_1358 ?_
  refine v_bipush (v := 32) C dL_law_1359 (by decide) ?_
  refine v_lshl C dL_law_1361 ?_
  refine w_arg C hX 4 dL_law_1362 dL_law_1363 dL_law_1365 dL_law_1366 dL_law_1367 (by decide) rfl rfl (by omega) ?_
  refine v_i2l C dL_law_1368 ?_
  refine v_ldc2 C dL_law_1369 g_kl_L_50 ?_
  refine v_land C dL_law_1372 ?_
  refine v_lor C dL_law_1373 ?_
  refine v_cl (r_V C (j_sum l D B K f1 r f1 S J1.2.1 _ _ _) dL_law_1374 hr1 rfl g_ml_L_140 g_im_yX9_sum g_se_X9_yX9_sum_yX9_sum g_in_X9 g_cd_yX9_sum (rn_mono hR (by decide)) (by decide) rfl rfl hdn_yX9_sum (Nat.le_of_ble_eq_true rfl) ⟨by omega, by omega⟩) (fun a2 f2 h2 => ?_)
  obtain ⟨e2, hD2⟩ := h2
  subst e2
  have J2 := lj_m J1 hD2
  exact v_lc_eq (tgt := 1446) C dL_law_1377 dL_law_1378 (by decide) (fun _ => v_widen (by omega) (by omega) (kk _ _ _ J2 (tt_Sum S _ _ _))) (fun h9 => absurd rfl h9)

set_option maxHeartbeats 4000000 in
set_option maxRecDepth 100000 in
theorem w_over {p : Program} {l : Launch} {e : Env} {R : Room} {s : State} {m : MethodId} {args : Array Value} {below : List Frame} {meth : Method} {c : Code} {D : va_G} {B : Nat} {Q : State → Prop} {ce sl : Nat} {f : St} {K : Nat → ClassId} (C : Cx p s m args c cL_law 8 RL D B K) (hlT : l.stackTraces = false) {q r : Nat → Nat} {o b L j : Nat} {xs : Nat → Int32} {S : AS} {v : Nat → Int64} (hX : SC b L xs s B) (hj : 6 * j + 6 ≤ L) (hR : RN R 52) (hc : ce + 2 ≤ R.cells) (hs : sl + 8 ≤ R.slots) (hJ : LJ K q r o f S S v) (ht : tS S < 2 ^ 31) (kk : ∀ (f9 : St) (S9 : AS) (v9 : Nat → Int64), LJ K q r o f9 S9 S9 v9 → tS S9 ≤ tS S + 1 → V p l e R s m args below meth c D B 8 Q (ce + 2) (sl + 8) f9 (lof [(0, .ref b), (1, .ref (q 0)), (2, .ref (r 0)), (3, .ref o), (4, .int (nI (6 * j)))]) 1446 []) : V p l e R s m args below meth c D B 8 Q ce sl f (lof [(0, .ref b), (1, .ref (q 0)), (2, .ref (r 0)), (3, .ref o), (4, .int (nI (6 * j)))]) 1383 [] := by
  obtain ⟨fs0, hq0⟩ := CL_h0 hJ.1
  refine v_aload_n C dL_law_1383 rfl rfl ?_
  refine w_arg C hX 1 dL_law_1384 dL_law_1385 dL_law_1387 dL_law_1388 dL_law_1389 (by decide) rfl rfl (by omega) ?_
  refine v_ci (r_V C (k_over l D B K f q S hJ.1 _) dL_law_1390 hq0 rfl g_ml_L_141 g_im_yX8_over g_se_X8_yX8_over_yX8_over g_in_X8 g_cd_yX8_over (rn_mono hR (by decide)) (by decide) rfl rfl hdn_yX8_over (Nat.le_of_ble_eq_true rfl) ⟨by omega, by omega⟩) (fun a1 f1 h1 => ?_)
  obtain ⟨e1, hC1, hO1⟩ := h1
  subst e1
  have J1 := lj_c hJ hC1 hO1
  obtain ⟨fr1, hr1⟩ := MD_h0 J1.2.1
  refine v_aload_n C dL_law_1393 rfl rfl ?_
  refine w_arg C hX 1 dL_law_1394 dL_law_1395 dL_law_1397 dL_law_1398 dL_law_1399 (by decide) rfl rfl (by omega) ?_
  refine v_ci (r_V C (j_over l D B K f1 r f1 S J1.2.1 _) dL_law_1400 hr1 rfl g_ml_L_144 g_im_yX9_over g_se_X9_yX9_over_yX9_over g_in_X9 g_cd_yX9_over (rn_mono hR (by decide)) (by decide) rfl rfl hdn_yX9_over (Nat.le_of_ble_eq_true rfl) ⟨by omega, by omega⟩) (fun a2 f2 h2 => ?_)
  obtain ⟨e2, hD2⟩ := h2
  subst e2
  have J2 := lj_m J1 hD2
  exact v_icmp_eq (tgt := 1446) C dL_law_1403 (by decide) (fun _ => v_widen (by omega) (by omega) (kk _ _ _ J2 (tt_Over S _))) (fun h9 => absurd rfl h9)

set_option maxHeartbeats 4000000 in
set_option maxRecDepth 100000 in
theorem w_count {p : Program} {l : Launch} {e : Env} {R : Room} {s : State} {m : MethodId} {args : Array Value} {below : List Frame} {meth : Method} {c : Code} {D : va_G} {B : Nat} {Q : State → Prop} {ce sl : Nat} {f : St} {K : Nat → ClassId} (C : Cx p s m args c cL_law 8 RL D B K) (hlT : l.stackTraces = false) {q r : Nat → Nat} {o b L j : Nat} {xs : Nat → Int32} {S : AS} {v : Nat → Int64} (hX : SC b L xs s B) (hj : 6 * j + 6 ≤ L) (hR : RN R 52) (hc : ce + 2 ≤ R.cells) (hs : sl + 8 ≤ R.slots) (hJ : LJ K q r o f S S v) (ht : tS S < 2 ^ 31) (kk : ∀ (f9 : St) (S9 : AS) (v9 : Nat → Int64), LJ K q r o f9 S9 S9 v9 → tS S9 ≤ tS S + 1 → V p l e R s m args below meth c D B 8 Q (ce + 2) (sl + 8) f9 (lof [(0, .ref b), (1, .ref (q 0)), (2, .ref (r 0)), (3, .ref o), (4, .int (nI (6 * j)))]) 1446 []) : V p l e R s m args below meth c D B 8 Q ce sl f (lof [(0, .ref b), (1, .ref (q 0)), (2, .ref (r 0)), (3, .ref o), (4, .int (nI (6 * j)))]) 1408 [] := by
  obtain ⟨fs0, hq0⟩ := CL_h0 hJ.1
  refine v_aload_n C dL_law_1408 rfl rfl ?_
  refine w_arg C hX 1 dL_law_1409 dL_law_1410 dL_law_1412 dL_law_1413 dL_law_1414 (by decide) rfl rfl (by omega) ?_
  refine v_ci (r_V C (k_count l D B K f q S hJ.1 _) dL_law_1415 hq0 rfl g_ml_L_145 g_im_yX8_count g_se_X8_yX8_count_yX8_count g_in_X8 g_cd_yX8_count (rn_mono hR (by decide)) (by decide) rfl rfl hdn_yX8_count (Nat.le_of_ble_eq_true rfl) ⟨by omega, by omega⟩) (fun a1 f1 h1 => ?_)
  obtain ⟨e1, hC1, hO1⟩ := h1
  subst e1
  have J1 := lj_c hJ hC1 hO1
  obtain ⟨fr1, hr1⟩ := MD_h0 J1.2.1
  refine v_aload_n C dL_law_1418 rfl rfl ?_
  refine w_arg C hX 1 dL_law_1419 dL_law_1420 dL_law_1422 dL_law_1423 dL_law_1424 (by decide) rfl rfl (by omega) ?_
  refine v_ci (r_V C (j_count l D B K f1 r f1 S J1.2.1 _) dL_law_1425 hr1 rfl g_ml_L_148 g_im_yX9_count g_se_X9_yX9_count_yX9_count g_in_X9 g_cd_yX9_count (rn_mono hR (by decide)) (by decide) rfl rfl hdn_yX9_count (Nat.le_of_ble_eq_true rfl) ⟨by omega, by omega⟩) (fun a2 f2 h2 => ?_)
  obtain ⟨e2, hD2⟩ := h2
  subst e2
  have J2 := lj_m J1 hD2
  exact v_icmp_eq (tgt := 1446) C dL_law_1428 (by decide) (fun _ => v_widen (by omega) (by omega) (kk _ _ _ J2 (tt_Count S _))) (fun h9 => absurd rfl h9)

set_option maxHeartbeats 4000000 in
set_option maxRecDepth 100000 in
theorem w_clear {p : Program} {l : Launch} {e : Env} {R : Room} {s : State} {m : MethodId} {args : Array Value} {below : List Frame} {meth : Method} {c : Code} {D : va_G} {B : Nat} {Q : State → Prop} {ce sl : Nat} {f : St} {K : Nat → ClassId} (C : Cx p s m args c cL_law 8 RL D B K) (hlT : l.stackTraces = false) {q r : Nat → Nat} {o b L j : Nat} {xs : Nat → Int32} {S : AS} {v : Nat → Int64} (hX : SC b L xs s B) (hj : 6 * j + 6 ≤ L) (hR : RN R 52) (hc : ce + 2 ≤ R.cells) (hs : sl + 8 ≤ R.slots) (hJ : LJ K q r o f S S v) (ht : tS S < 2 ^ 31) (kk : ∀ (f9 : St) (S9 : AS) (v9 : Nat → Int64), LJ K q r o f9 S9 S9 v9 → tS S9 ≤ tS S + 1 → V p l e R s m args below meth c D B 8 Q (ce + 2) (sl + 8) f9 (lof [(0, .ref b), (1, .ref (q 0)), (2, .ref (r 0)), (3, .ref o), (4, .int (nI (6 * j)))]) 1446 []) : V p l e R s m args below meth c D B 8 Q ce sl f (lof [(0, .ref b), (1, .ref (q 0)), (2, .ref (r 0)), (3, .ref o), (4, .int (nI (6 * j)))]) 1433 [] := by
  obtain ⟨fs0, hq0⟩ := CL_h0 hJ.1
  refine v_aload_n C dL_law_1433 rfl rfl ?_
  refine v_ci (r_V C (k_clear l D B K f q S hJ.1) dL_law_1434 hq0 rfl g_ml_L_149 g_im_yX8_clear g_se_X8_yX8_clear_yX8_clear g_in_X8 g_cd_yX8_clear (rn_mono hR (by decide)) (by decide) rfl rfl hdn_yX8_clear (Nat.le_of_ble_eq_true rfl) ⟨by omega, by omega⟩) (fun a1 f1 h1 => ?_)
  obtain ⟨e1, hC1, hO1⟩ := h1
  subst e1
  have J1 := lj_c hJ hC1 hO1
  obtain ⟨fr1, hr1⟩ := MD_h0 J1.2.1
  refine v_aload_n C dL_law_1437 rfl rfl ?_
  refine v_ci (r_V C (j_clear l D B K f1 r f1 S J1.2.1) dL_law_1438 hr1 rfl g_ml_L_152 g_im_yX9_clear g_se_X9_yX9_clear_yX9_clear g_in_X9 g_cd_yX9_clear (rn_mono hR (by decide)) (by decide) rfl rfl hdn_yX9_clear (Nat.le_of_ble_eq_true rfl) ⟨by omega, by omega⟩) (fun a2 f2 h2 => ?_)
  obtain ⟨e2, hD2⟩ := h2
  subst e2
  have J2 := lj_m J1 hD2
  exact v_icmp_eq (tgt := 1446) C dL_law_1441 (by decide) (fun _ => v_widen (by omega) (by omega) (kk _ _ _ J2 (tt_Clear S))) (fun h9 => absurd rfl h9)

set_option maxHeartbeats 4000000 in
set_option maxRecDepth 100000 in
theorem w_turn {p : Program} {l : Launch} {e : Env} {R : Room} {s : State} {m : MethodId} {args : Array Value} {below : List Frame} {meth : Method} {c : Code} {D : va_G} {B : Nat} {Q : State → Prop} {ce sl : Nat} {f : St} {K : Nat → ClassId} (C : Cx p s m args c cL_law 8 RL D B K) (hlT : l.stackTraces = false) {q r : Nat → Nat} {o b L j : Nat} {xs : Nat → Int32} {S : AS} {v : Nat → Int64} (hX : SC b L xs s B) (hj : 6 * j + 6 ≤ L) (hR : RN R 52) (hc : ce + 2 ≤ R.cells) (hs : sl + 8 ≤ R.slots) (hJ : LJ K q r o f S S v) (ht : tS S < 2 ^ 31) (kk : ∀ (f9 : St) (S9 : AS) (v9 : Nat → Int64), LJ K q r o f9 S9 S9 v9 → tS S9 ≤ tS S + 1 → V p l e R s m args below meth c D B 8 Q (ce + 2) (sl + 8) f9 (lof [(0, .ref b), (1, .ref (q 0)), (2, .ref (r 0)), (3, .ref o), (4, .int (nI (6 * j)))]) 1446 []) : V p l e R s m args below meth c D B 8 Q ce sl f (lof [(0, .ref b), (1, .ref (q 0)), (2, .ref (r 0)), (3, .ref o), (4, .int (nI (6 * j)))]) 33 [] := by
  have hL := hX.2.2.2
  refine v_aload_n C dL_law_33 rfl rfl ?_
  refine v_iload C dL_law_34 rfl ?_
  refine v_sld C hX dL_law_36 (vp_in_nI (by omega) (by omega)) ?_
  refine v_bipush (v := 31) C dL_law_37 (by decide) ?_
  refine v_iand C dL_law_39 ?_
  refine v_topi (fun z _ => ?_)
  have hz : z.toInt = 0 ∨ z.toInt = 1 ∨ z.toInt = 2 ∨ z.toInt = 3 ∨ z.toInt = 4 ∨ z.toInt = 5 ∨ z.toInt = 6 ∨ z.toInt = 7 ∨ z.toInt = 8 ∨ z.toInt = 9 ∨ z.toInt = 10 ∨ z.toInt = 11 ∨ z.toInt = 12 ∨ z.toInt = 13 ∨ z.toInt = 14 ∨ z.toInt = 15 ∨ z.toInt = 16 ∨ z.toInt = 17 ∨ z.toInt = 18 ∨ z.toInt = 19 ∨ z.toInt = 20 ∨ z.toInt = 21 ∨ z.toInt = 22 ∨ z.toInt = 23 ∨ (z.toInt < 0 ∨ 23 < z.toInt) := by omega
  rcases hz with hz | hz | hz | hz | hz | hz | hz | hz | hz | hz | hz | hz | hz | hz | hz | hz | hz | hz | hz | hz | hz | hz | hz | hz | hz
  · exact v_tabIn (off := 112) (tgt := 152) C dL_law_40 (by rw [hz]; decide) (by rw [hz]; decide) (by rw [hz]; rfl) (by decide) (w_wholes C hlT hX hj hR hc hs hJ ht kk)
  · exact v_tabIn (off := 213) (tgt := 253) C dL_law_40 (by rw [hz]; decide) (by rw [hz]; decide) (by rw [hz]; rfl) (by decide) (w_signs C hlT hX hj hR hc hs hJ ht kk)
  · exact v_tabIn (off := 250) (tgt := 290) C dL_law_40 (by rw [hz]; decide) (by rw [hz]; decide) (by rw [hz]; rfl) (by decide) (w_names C hlT hX hj hR hc hs hJ ht kk)
  · exact v_tabIn (off := 299) (tgt := 339) C dL_law_40 (by rw [hz]; decide) (by rw [hz]; decide) (by rw [hz]; rfl) (by decide) (w_steps C hlT hX hj hR hc hs hJ ht kk)
  · exact v_tabIn (off := 412) (tgt := 452) C dL_law_40 (by rw [hz]; decide) (by rw [hz]; decide) (by rw [hz]; rfl) (by decide) (w_back C hlT hX hj hR hc hs hJ ht kk)
  · exact v_tabIn (off := 437) (tgt := 477) C dL_law_40 (by rw [hz]; decide) (by rw [hz]; decide) (by rw [hz]; rfl) (by decide) (w_pair C hlT hX hj hR hc hs hJ ht kk)
  · exact v_tabIn (off := 474) (tgt := 514) C dL_law_40 (by rw [hz]; decide) (by rw [hz]; decide) (by rw [hz]; rfl) (by decide) (w_triple C hlT hX hj hR hc hs hJ ht kk)
  · exact v_tabIn (off := 523) (tgt := 563) C dL_law_40 (by rw [hz]; decide) (by rw [hz]; decide) (by rw [hz]; rfl) (by decide) (w_told C hlT hX hj hR hc hs hJ ht kk)
  · exact v_tabIn (off := 560) (tgt := 600) C dL_law_40 (by rw [hz]; decide) (by rw [hz]; decide) (by rw [hz]; rfl) (by decide) (w_size C hlT hX hj hR hc hs hJ ht kk)
  · exact v_tabIn (off := 586) (tgt := 626) C dL_law_40 (by rw [hz]; decide) (by rw [hz]; decide) (by rw [hz]; rfl) (by decide) (w_hold C hlT hX hj hR hc hs hJ ht kk)
  · exact v_tabIn (off := 685) (tgt := 725) C dL_law_40 (by rw [hz]; decide) (by rw [hz]; decide) (by rw [hz]; rfl) (by decide) (w_held C hlT hX hj hR hc hs hJ ht kk)
  · exact v_tabIn (off := 740) (tgt := 780) C dL_law_40 (by rw [hz]; decide) (by rw [hz]; decide) (by rw [hz]; rfl) (by decide) (w_index C hlT hX hj hR hc hs hJ ht kk)
  · exact v_tabIn (off := 795) (tgt := 835) C dL_law_40 (by rw [hz]; decide) (by rw [hz]; decide) (by rw [hz]; rfl) (by decide) (w_has C hlT hX hj hR hc hs hJ ht kk)
  · exact v_tabIn (off := 820) (tgt := 860) C dL_law_40 (by rw [hz]; decide) (by rw [hz]; decide) (by rw [hz]; rfl) (by decide) (w_element C hlT hX hj hR hc hs hJ ht kk)
  · exact v_tabIn (off := 920) (tgt := 960) C dL_law_40 (by rw [hz]; decide) (by rw [hz]; decide) (by rw [hz]; rfl) (by decide) (w_go C hlT hX hj hR hc hs hJ ht kk)
  · exact v_tabIn (off := 1019) (tgt := 1059) C dL_law_40 (by rw [hz]; decide) (by rw [hz]; decide) (by rw [hz]; rfl) (by decide) (w_miss C hlT hX hj hR hc hs hJ ht kk)
  · exact v_tabIn (off := 1044) (tgt := 1084) C dL_law_40 (by rw [hz]; decide) (by rw [hz]; decide) (by rw [hz]; rfl) (by decide) (w_within C hlT hX hj hR hc hs hJ ht kk)
  · exact v_tabIn (off := 1081) (tgt := 1121) C dL_law_40 (by rw [hz]; decide) (by rw [hz]; decide) (by rw [hz]; rfl) (by decide) (w_array C hlT hX hj hR hc hs hJ ht kk)
  · exact v_tabIn (off := 1137) (tgt := 1177) C dL_law_40 (by rw [hz]; decide) (by rw [hz]; decide) (by rw [hz]; rfl) (by decide) (w_put C hlT hX hj hR hc hs hJ ht kk)
  · exact v_tabIn (off := 1205) (tgt := 1245) C dL_law_40 (by rw [hz]; decide) (by rw [hz]; decide) (by rw [hz]; rfl) (by decide) (w_at C hlT hX hj hR hc hs hJ ht kk)
  · exact v_tabIn (off := 1261) (tgt := 1301) C dL_law_40 (by rw [hz]; decide) (by rw [hz]; decide) (by rw [hz]; rfl) (by decide) (w_sum C hlT hX hj hR hc hs hJ ht kk)
  · exact v_tabIn (off := 1343) (tgt := 1383) C dL_law_40 (by rw [hz]; decide) (by rw [hz]; decide) (by rw [hz]; rfl) (by decide) (w_over C hlT hX hj hR hc hs hJ ht kk)
  · exact v_tabIn (off := 1368) (tgt := 1408) C dL_law_40 (by rw [hz]; decide) (by rw [hz]; decide) (by rw [hz]; rfl) (by decide) (w_count C hlT hX hj hR hc hs hJ ht kk)
  · exact v_tabIn (off := 1393) (tgt := 1433) C dL_law_40 (by rw [hz]; decide) (by rw [hz]; decide) (by rw [hz]; rfl) (by decide) (w_clear C hlT hX hj hR hc hs hJ ht kk)
  · exact v_tabOut (tgt := 1446) C dL_law_40 hz (by decide) (v_widen (by omega) (by omega) (kk _ _ _ hJ (Nat.le_succ _)))

theorem lim6 {L j : Nat} (hL : L ≤ 3072) (hj : 6 * j ≤ 3072) : (nI L - 6 < nI (6 * j)) ↔ L < 6 * j + 6 := by
  rw [Int32.lt_iff_toInt_lt, Int32.toInt_sub, nI_toInt (show L < 2 ^ 31 by omega), nI_toInt (show 6 * j < 2 ^ 31 by omega)]
  have e6 : (6 : Int32).toInt = 6 := rfl
  rw [e6]
  have hb : ((L : Int) - 6).bmod (2 ^ 32) = (L : Int) - 6 := Int.bmod_eq_of_le (by omega) (by omega)
  rw [hb]
  constructor <;> intro h <;> omega

set_option maxHeartbeats 4000000 in
set_option maxRecDepth 100000 in
theorem w_loop {p : Program} {l : Launch} {e : Env} {R : Room} {s : State} {m : MethodId} {args : Array Value} {below : List Frame} {meth : Method} {c : Code} {D : va_G} {B : Nat} {Q : State → Prop} {K : Nat → ClassId} {CE SL : Nat} (C : Cx p s m args c cL_law 8 RL D B K) (hlT : l.stackTraces = false) {q r : Nat → Nat} {o b L : Nat} {xs : Nat → Int32} (hX : SC b L xs s B) (hR : RN R 52) (hCE : CE ≤ R.cells) (hSL : SL ≤ R.slots) (kend : ∀ (f9 : St) (lv9 : Lv), V p l e R s m args below meth c D B 8 Q CE SL f9 lv9 1452 []) (n : Nat) : ∀ (j : Nat) (f : St) (S : AS) (v : Nat → Int64) (ce sl : Nat), LJ K q r o f S S v → tS S + n < 2 ^ 31 → L < 6 * j + 6 + 6 * n → 6 * j ≤ 3072 → ce + 2 * n ≤ CE → sl + 8 * n ≤ SL → V p l e R s m args below meth c D B 8 Q ce sl f (lof [(0, .ref b), (1, .ref (q 0)), (2, .ref (r 0)), (3, .ref o), (4, .int (nI (6 * j)))]) 23 [] := by
  have hL := hX.2.2.2
  induction n with
  | zero =>
    intro j f S v ce sl hJ ht hn hj hc hs
    refine v_iload C dL_law_23 rfl ?_
    refine v_aload_n C dL_law_25 rfl rfl ?_
    refine v_slen C hX dL_law_26 ?_
    refine v_bipush (v := 6) C dL_law_27 (by decide) ?_
    refine v_isub C dL_law_29 ?_
    exact v_icmp_gt (tgt := 1452) C dL_law_30 (by decide) (fun _ => v_widen (by omega) (by omega) (kend _ _)) (fun h9 => absurd ((lim6 hL hj).mpr (by omega)) h9)
  | succ n ih =>
    intro j f S v ce sl hJ ht hn hj hc hs
    refine v_iload C dL_law_23 rfl ?_
    refine v_aload_n C dL_law_25 rfl rfl ?_
    refine v_slen C hX dL_law_26 ?_
    refine v_bipush (v := 6) C dL_law_27 (by decide) ?_
    refine v_isub C dL_law_29 ?_
    refine v_icmp_gt (tgt := 1452) C dL_law_30 (by decide) (fun _ => v_widen (by omega) (by omega) (kend _ _)) (fun h9 => ?_)
    have hlt : 6 * j + 6 ≤ L := Nat.le_of_not_lt (fun h8 => h9 ((lim6 hL hj).mpr h8))
    refine w_turn C hlT hX hlt hR (by omega) (by omega) hJ (by omega) (fun f9 S9 v9 hJ9 ht9 => ?_)
    refine v_iinc (y := 6) C dL_law_1446 rfl (by decide) (by decide) rfl ?_
    refine v_goto (tgt := 23) C dL_law_1449 (by decide) ?_
    refine v_loc [(0, .ref b), (1, .ref (q 0)), (2, .ref (r 0)), (3, .ref o), (4, .int (nI (6 * (j + 1))))] ⟨rfl, rfl, rfl, rfl, congrArg (fun z : Int32 => some (Value.int z)) (nI_plus (6 * j) 6), trivial⟩ ?_
    exact ih (j + 1) f9 S9 v9 (ce + 2) (sl + 8) hJ9 (by omega) (by omega) (by omega) (by omega) (by omega)

theorem CL_qs {K : Nat → ClassId} {q : Nat → Nat} {f : St} {S : AS} (h : CL K q f S) : ∀ j, j < 15 → ∃ x, f (q j) = some x := by
  obtain ⟨n, na, sg, E, kd, ⟨t, x, y, z⟩, h9, bs, cl⟩ := S
  obtain ⟨hh, cl2, ehh, ecl, fi, ra, g, gb, hs, hc, _⟩ := h
  exact cl_qs hc
theorem MC_rs {K : Nat → ClassId} {r : Nat → Nat} {f0 f : St} {A : Nat → Nat → Int32} {L : Nat → Nat → Int64} {I : Nat → Int32} (h : MC K r f0 f A L I) : ∀ j ∈ maL, ∃ x, f (r j) = some x := fun j hj => by
  rcases (by decide : ∀ j ∈ maL, j = 0 ∨ j = 9 ∨ j ∈ miL ∨ j ∈ mlL) j hj with e | e | e | e
  · subst e; exact ⟨_, h.1⟩
  · subst e; exact ⟨_, h.2.2.1⟩
  · exact ⟨_, h.2.1 j e⟩
  · exact ⟨_, h.2.2.2.1 j e⟩
theorem LJ_0 {K : Nat → ClassId} {q r : Nat → Nat} {o : Nat} {f1 f3 : St} {y : va_E} (hC : CL K q f1 S0) (h0 : f1 (r 0) = none) (hM : MC K r (va_up f1 (r 0) (some y)) f3 (fun _ _ => 0) (fun _ _ => 0) (fun _ => 0)) (hF : ∀ k ∈ maL, r k = r 0 ∨ va_up f1 (r 0) (some y) (r k) = none) (ho : f3 o = none) : LJ K q r o (va_up f3 o (some (.inl (K 1, 1, .inr (.inl (fun _ => 0)))))) S0 S0 (fun _ => 0) := by
  have hr1 : ∀ k ∈ maL, f1 (r k) = none := fun k hk => by
    rcases hF k hk with e | e
    · rw [e]; exact h0
    · by_cases e2 : r k = r 0
      · rw [e2]; exact h0
      · rw [va_up_ne _ _ e2] at e; exact e
  have hqr : ∀ i, i < 15 → ∀ j ∈ maL, q i ≠ r j := fun i hi j hj e => by
    obtain ⟨x, hx⟩ := CL_qs hC i hi
    rw [e, hr1 j hj] at hx; cases hx
  have hC3 : CL K q f3 S0 := CL_keep (w := fun a => ∃ j ∈ maL, a = r j) hC (fun i hi ⟨j, hj, e⟩ => hqr i hi j hj e) (fun a x ⟨j, hj, e⟩ hx => by rw [e, hr1 j hj] at hx; cases hx) (fun a x ha hx => hM.2.2.2.2.2 a x (fun j hj e => ha ⟨j, hj, e⟩) (by rw [va_up_ne _ _ (fun e => ha ⟨0, by decide, e⟩)]; exact hx))
  have hqo : ∀ i, i < 15 → q i ≠ o := fun i hi e => by
    obtain ⟨x, hx⟩ := CL_qs hC3 i hi
    rw [e, ho] at hx; cases hx
  have hro : ∀ j ∈ maL, r j ≠ o := fun j hj e => by
    obtain ⟨x, hx⟩ := MC_rs hM j hj
    rw [e, ho] at hx; cases hx
  have hk : ∀ a x, f3 a = some x → va_up f3 o (some (.inl (K 1, 1, .inr (.inl (fun _ => 0))))) a = some x := fun a x hx => by
    rw [va_up_ne _ _ (fun e => by rw [e, ho] at hx; cases hx)]; exact hx
  exact ⟨CL_keep (w := fun _ => False) hC3 (fun _ _ h => h) (fun _ _ h => h.elim) (fun a x _ hx => hk a x hx), (MD_S0 hM).keep (fun j hj x hx => hk _ _ hx), va_up_self _ _ _, hqr, hqo, hro⟩

set_option maxHeartbeats 4000000 in
set_option maxRecDepth 100000 in
theorem w_law {p : Program} {l : Launch} {e : Env} {R : Room} {s : State} {m : MethodId} {args : Array Value} {below : List Frame} {meth : Method} {c : Code} {D : va_G} {B : Nat} {Q : State → Prop} {K : Nat → ClassId} (C : Cx p s m args c cL_law 8 RL D B K) (hlT : l.stackTraces = false) {b L : Nat} {xs : Nat → Int32} (hX : SC b L xs s B) (hR : RN R 52) (hCE : 1200 ≤ R.cells) (hSL : 11500 ≤ R.slots) (kend : ∀ (f9 : St) (lv9 : Lv), V p l e R s m args below meth c D B 8 Q 1200 11500 f9 lv9 1452 []) : V p l e R s m args below meth c D B 8 Q 0 0 (fun _ => none) (lof [(0, .ref b)]) 0 [] := by
  have hL := hX.2.2.2
  refine v_new (ci := 6) (fs := [.null, .null, .null, .null, .null, .null, .int 0, .int 0]) C dL_law_0 rfl in_X8 tyX8 tyX8_ok g_cl_L_8 g_ins_X8 g_in_X8 (by decide) (by omega) (by omega) (fun q0 hq0 => ?_)
  refine v_dup C dL_law_3 rfl ?_
  refine v_cv (r_I C (c_Ranges_init l D B K _ q0 (va_up_self _ _ _)) dL_law_4 g_ml_L_46 g_im_yX8_init g_in_X8 g_cd_yX8_init rfl (rn_mono hR (by decide)) (by decide) rfl hdn_yX8_init (Nat.le_of_ble_eq_true rfl) ⟨by omega, by omega⟩) (fun f1 h1 => ?_)
  obtain ⟨q, e0, hC, hO, hfr⟩ := h1
  subst e0
  refine v_astore_n C dL_law_7 rfl (by decide) rfl ?_
  refine v_new (ci := 7) (fs := [.int 0, .null, .null, .null, .null, .null, .null, .null, .null, .null, .null, .null, .null, .int 0, .int 0, .int 0, .int 0, .int 0, .int 0, .null, .null, .int 0]) C dL_law_8 rfl in_X9 tyX9 tyX9_ok g_cl_L_47 g_ins_X9 g_in_X9 (by decide) (by omega) (by omega) (fun r0 hr0 => ?_)
  refine v_dup C dL_law_11 rfl ?_
  refine v_cv (r_I C (c_Model_init l D B K _ r0 (va_up_self _ _ _)) dL_law_12 g_ml_L_49 g_im_yX9_init g_in_X9 g_cd_yX9_init rfl (rn_mono hR (by decide)) (by decide) rfl hdn_yX9_init (Nat.le_of_ble_eq_true rfl) ⟨by omega, by omega⟩) (fun f3 h3 => ?_)
  obtain ⟨r, e1, hM, hF⟩ := h3
  subst e1
  refine v_astore_n C dL_law_15 rfl (by decide) rfl ?_
  refine v_iconst (v := 1) C dL_law_16 (by decide) ?_
  refine v_newa (N := 1) (a0 := (1, .inr (.inl (fun _ => 0)))) C dL_law_17 1 rfl rfl g_ac_long (fun cA => rfl) (by decide) rfl (by decide) (by omega) (by omega) (fun o ho => ?_)
  refine v_astore_n C dL_law_19 rfl (by decide) rfl ?_
  refine v_iconst (v := 0) C dL_law_20 (by decide) ?_
  refine v_istore C dL_law_21 (by decide) rfl ?_
  refine v_loc [(0, .ref b), (1, .ref (q 0)), (2, .ref (r 0)), (3, .ref o), (4, .int (nI (6 * 0)))] ⟨rfl, rfl, rfl, rfl, rfl, trivial⟩ ?_
  exact w_loop C hlT hX hR hCE hSL kend 512 0 _ S0 (fun _ => 0) _ _ (LJ_0 hC hr0 hM hF ho) (by decide) (by omega) (by decide) (by omega) (by omega)

