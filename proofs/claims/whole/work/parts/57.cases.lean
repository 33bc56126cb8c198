/-! THE CASES OF THE LAW'S SWITCH -/
theorem rmk {k n fr maxL lo mc ms : Nat} {rest : List Value} (h1 : fr + 1 ≤ 11) (h2 : 8 + (maxL + 11) + lo ≤ 388) (h3 : k + mc ≤ 601024) (h4 : n + ms ≤ 7293034) (h5 : (rest.map fun v => v.category).sum ≤ 8) : Rm room_1 k n fr maxL lo mc ms rest := ⟨h1, h2, h3, h4, h5⟩
abbrev LL_ (b x i : Nat) : List (Nat × Value) := [(4, .int (nI i)), (3, .ref (x + 28)), (2, .ref (x + 21)), (1, .ref x), (0, .ref b)]
theorem vinD {i N : Nat} (d : Nat) (h : i + d < N) (hN : N ≤ 2048) : vp_in (nI i + nI d) N := by
  rw [nI_add]
  exact vp_in_nI h (by omega)
set_option maxHeartbeats 1600000 in
set_option maxRecDepth 100000 in
theorem k_0 {p : Program} {l : Launch} {e : Env} {s : State} {m : MethodId} {args : Array Value} {below : List Frame} {meth : Method} {c : Code} {Q : State → Prop} {G : ga_} {nm : String} {h : HP} {sz x n k mm b0 N i : Nat} {xs : Nat → Int32} (C : Cx p l room_1 s m args meth c G RL code 9 ret nm) (X : Sx G s b0 N xs) (hst : l.stackTraces = false) (I : LI G h sz x n) (hn : n < 999000) (hi : i + 3 < N) (hN : N ≤ 2048) (hk : k + 13 ≤ 601024) (hm : mm + 400 ≤ 7293034)
    (kk : ∀ h3 s3, LI G h3 s3 x (n + 2) → V p l e room_1 s m args below meth c G 9 Q h3 s3 (k + 13) (mm + 400) 1434 (LL_ b0 x i) []) : V p l e room_1 s m args below meth c G 9 Q h sz k mm 160 (LL_ b0 x i) [] := by
  have v1 : vp_in (nI i + 1) N := vinD 1 (by omega) hN
  have v2 : vp_in (nI i + 2) N := vinD 2 (by omega) hN
  have v3 : vp_in (nI i + 3) N := vinD 3 (by omega) hN
  refine r_aload_n C dL_law_160 rfl rfl ?_
  refine r_aload_n C dL_law_161 rfl rfl ?_
  refine r_iload C dL_law_162 rfl ?_
  refine r_iconst C (v := 1) dL_law_164 rfl ?_
  refine r_iadd C dL_law_165 ?_
  refine r_sld C X v1 dL_law_166 ?_
  refine r_aload_n C dL_law_167 rfl rfl ?_
  refine r_iload C dL_law_168 rfl ?_
  refine r_iconst C (v := 2) dL_law_170 rfl ?_
  refine r_iadd C dL_law_171 ?_
  refine r_sld C X v2 dL_law_172 ?_
  refine r_aload_n C dL_law_173 rfl rfl ?_
  obtain ⟨Po, M, K⟩ := w_begin (l := l) (a := (xs (nI i + 1).toNatClampNeg)) (b := (xs (nI i + 2).toNatClampNeg)) hst I hn
  refine r_cSW C M lk_L_77 rfl rfl (rmk (by decide) (by decide) (by omega) (by omega) (by decide)) dL_law_174 (fun v h1 s1 hp => ?_)
  obtain ⟨k1, rfl, b1, h3, ⟨fs6, ho6⟩, M2, I3, ⟨S3, A3, dg3, w3, e3⟩, hq⟩ := K v h1 s1 hp
  refine r_istore C dL_law_177 (by decide) ?_
  refine r_aload_n C dL_law_179 rfl rfl ?_
  refine r_aload_n C dL_law_180 rfl rfl ?_
  refine r_iload C dL_law_181 rfl ?_
  refine r_iconst C (v := 1) dL_law_183 rfl ?_
  refine r_iadd C dL_law_184 ?_
  refine r_sld C X v1 dL_law_185 ?_
  refine r_aload_n C dL_law_186 rfl rfl ?_
  refine r_iload C dL_law_187 rfl ?_
  refine r_iconst C (v := 2) dL_law_189 rfl ?_
  refine r_iadd C dL_law_190 ?_
  refine r_sld C X v2 dL_law_191 ?_
  refine r_cVi C M2 lk_L_82 rfl ho6 rfl rfl (rmk (by decide) (by decide) (by omega) (by omega) (by decide)) dL_law_192 ?_
  refine r_istore C dL_law_195 (by decide) ?_
  refine r_aload_n C dL_law_197 rfl rfl ?_
  refine r_cVi C (c_X6_thrown w3) lk_L_83 rfl (MA_o w3) rfl rfl (rmk (by decide) (by decide) (by omega) (by omega) (by decide)) dL_law_198 ?_
  refine r_iload C dL_law_201 rfl ?_
  refine r_icmp_eq C 208 dL_law_203 (by decide) (fun _ => ?_) (fun q => absurd e3 q)
  refine r_iload C dL_law_208 rfl ?_
  refine r_if_ne C 225 dL_law_210 (by decide) (fun _ => ?_) (fun q0 => ?_)
  · refine r_goto C 1434 dL_law_225 (by decide) ?_
    exact V.sub (LL_ b0 x i) ⟨rfl, rfl, rfl, rfl, rfl, trivial⟩ (V.widen (by omega) (by omega) (kk _ _ I3))
  · obtain ⟨f, hf1, hf2⟩ := hq q0
    refine r_aload_n C dL_law_213 rfl rfl ?_
    refine r_iconst C (v := 0) dL_law_214 rfl ?_
    refine r_lald C hf1 vin0 dL_law_215 ?_
    refine r_iload C dL_law_216 rfl ?_
    refine r_i2l C dL_law_218 ?_
    refine r_lcmp C dL_law_219 ?_
    refine r_if_eq C 225 dL_law_220 (by decide) (fun _ => ?_) (fun q => absurd (by rw [hf2]; exact lcmp_s _) q)
    refine r_goto C 1434 dL_law_225 (by decide) ?_
    exact V.sub (LL_ b0 x i) ⟨rfl, rfl, rfl, rfl, rfl, trivial⟩ (V.widen (by omega) (by omega) (kk _ _ I3))
set_option maxHeartbeats 1600000 in
set_option maxRecDepth 100000 in
theorem k_1 {p : Program} {l : Launch} {e : Env} {s : State} {m : MethodId} {args : Array Value} {below : List Frame} {meth : Method} {c : Code} {Q : State → Prop} {G : ga_} {nm : String} {h : HP} {sz x n k mm b0 N i : Nat} {xs : Nat → Int32} (C : Cx p l room_1 s m args meth c G RL code 9 ret nm) (X : Sx G s b0 N xs) (hst : l.stackTraces = false) (I : LI G h sz x n) (hn : n < 999000) (hi : i + 3 < N) (hN : N ≤ 2048) (hk : k + 13 ≤ 601024) (hm : mm + 400 ≤ 7293034)
    (kk : ∀ h3 s3, LI G h3 s3 x (n + 2) → V p l e room_1 s m args below meth c G 9 Q h3 s3 (k + 13) (mm + 400) 1434 (LL_ b0 x i) []) : V p l e room_1 s m args below meth c G 9 Q h sz k mm 228 (LL_ b0 x i) [] := by
  have v1 : vp_in (nI i + 1) N := vinD 1 (by omega) hN
  have v2 : vp_in (nI i + 2) N := vinD 2 (by omega) hN
  have v3 : vp_in (nI i + 3) N := vinD 3 (by omega) hN
  refine r_aload_n C dL_law_228 rfl rfl ?_
  refine r_aload_n C dL_law_229 rfl rfl ?_
  refine r_iload C dL_law_230 rfl ?_
  refine r_iconst C (v := 1) dL_law_232 rfl ?_
  refine r_iadd C dL_law_233 ?_
  refine r_sld C X v1 dL_law_234 ?_
  refine r_aload_n C dL_law_235 rfl rfl ?_
  refine r_iload C dL_law_236 rfl ?_
  refine r_iconst C (v := 2) dL_law_238 rfl ?_
  refine r_iadd C dL_law_239 ?_
  refine r_sld C X v2 dL_law_240 ?_
  refine r_aload_n C dL_law_241 rfl rfl ?_
  refine r_iload C dL_law_242 rfl ?_
  refine r_iconst C (v := 3) dL_law_244 rfl ?_
  refine r_iadd C dL_law_245 ?_
  refine r_sld C X v3 dL_law_246 ?_
  refine r_aload_n C dL_law_247 rfl rfl ?_
  obtain ⟨Po, M, K⟩ := w_lay (l := l) (a := (xs (nI i + 1).toNatClampNeg)) (b := (xs (nI i + 2).toNatClampNeg)) (d := (xs (nI i + 3).toNatClampNeg)) hst I hn
  refine r_cSW C M lk_L_86 rfl rfl (rmk (by decide) (by decide) (by omega) (by omega) (by decide)) dL_law_248 (fun v h1 s1 hp => ?_)
  obtain ⟨k1, rfl, b1, h3, ⟨fs6, ho6⟩, M2, I3, ⟨S3, A3, dg3, w3, e3⟩, hq⟩ := K v h1 s1 hp
  refine r_istore C dL_law_251 (by decide) ?_
  refine r_aload_n C dL_law_253 rfl rfl ?_
  refine r_aload_n C dL_law_254 rfl rfl ?_
  refine r_iload C dL_law_255 rfl ?_
  refine r_iconst C (v := 1) dL_law_257 rfl ?_
  refine r_iadd C dL_law_258 ?_
  refine r_sld C X v1 dL_law_259 ?_
  refine r_aload_n C dL_law_260 rfl rfl ?_
  refine r_iload C dL_law_261 rfl ?_
  refine r_iconst C (v := 2) dL_law_263 rfl ?_
  refine r_iadd C dL_law_264 ?_
  refine r_sld C X v2 dL_law_265 ?_
  refine r_aload_n C dL_law_266 rfl rfl ?_
  refine r_iload C dL_law_267 rfl ?_
  refine r_iconst C (v := 3) dL_law_269 rfl ?_
  refine r_iadd C dL_law_270 ?_
  refine r_sld C X v3 dL_law_271 ?_
  refine r_cVi C M2 lk_L_89 rfl ho6 rfl rfl (rmk (by decide) (by decide) (by omega) (by omega) (by decide)) dL_law_272 ?_
  refine r_istore C dL_law_275 (by decide) ?_
  refine r_aload_n C dL_law_277 rfl rfl ?_
  refine r_cVi C (c_X6_thrown w3) lk_L_83 rfl (MA_o w3) rfl rfl (rmk (by decide) (by decide) (by omega) (by omega) (by decide)) dL_law_278 ?_
  refine r_iload C dL_law_281 rfl ?_
  refine r_icmp_eq C 288 dL_law_283 (by decide) (fun _ => ?_) (fun q => absurd e3 q)
  refine r_iload C dL_law_288 rfl ?_
  refine r_if_ne C 305 dL_law_290 (by decide) (fun _ => ?_) (fun q0 => ?_)
  · refine r_goto C 1434 dL_law_305 (by decide) ?_
    exact V.sub (LL_ b0 x i) ⟨rfl, rfl, rfl, rfl, rfl, trivial⟩ (V.widen (by omega) (by omega) (kk _ _ I3))
  · obtain ⟨f, hf1, hf2⟩ := hq q0
    refine r_aload_n C dL_law_293 rfl rfl ?_
    refine r_iconst C (v := 0) dL_law_294 rfl ?_
    refine r_lald C hf1 vin0 dL_law_295 ?_
    refine r_iload C dL_law_296 rfl ?_
    refine r_i2l C dL_law_298 ?_
    refine r_lcmp C dL_law_299 ?_
    refine r_if_eq C 305 dL_law_300 (by decide) (fun _ => ?_) (fun q => absurd (by rw [hf2]; exact lcmp_s _) q)
    refine r_goto C 1434 dL_law_305 (by decide) ?_
    exact V.sub (LL_ b0 x i) ⟨rfl, rfl, rfl, rfl, rfl, trivial⟩ (V.widen (by omega) (by omega) (kk _ _ I3))
set_option maxHeartbeats 1600000 in
set_option maxRecDepth 100000 in
theorem k_2 {p : Program} {l : Launch} {e : Env} {s : State} {m : MethodId} {args : Array Value} {below : List Frame} {meth : Method} {c : Code} {Q : State → Prop} {G : ga_} {nm : String} {h : HP} {sz x n k mm b0 N i : Nat} {xs : Nat → Int32} (C : Cx p l room_1 s m args meth c G RL code 9 ret nm) (X : Sx G s b0 N xs) (hst : l.stackTraces = false) (I : LI G h sz x n) (hn : n < 999000) (hi : i + 3 < N) (hN : N ≤ 2048) (hk : k + 13 ≤ 601024) (hm : mm + 400 ≤ 7293034)
    (kk : ∀ h3 s3, LI G h3 s3 x (n + 2) → V p l e room_1 s m args below meth c G 9 Q h3 s3 (k + 13) (mm + 400) 1434 (LL_ b0 x i) []) : V p l e room_1 s m args below meth c G 9 Q h sz k mm 308 (LL_ b0 x i) [] := by
  have v1 : vp_in (nI i + 1) N := vinD 1 (by omega) hN
  have v2 : vp_in (nI i + 2) N := vinD 2 (by omega) hN
  have v3 : vp_in (nI i + 3) N := vinD 3 (by omega) hN
  refine r_aload_n C dL_law_308 rfl rfl ?_
  obtain ⟨fs5, Po, hx5, M, K⟩ := d_draw (l := l) I hn
  refine r_callV C M lk_L_90 rfl hx5 rfl rfl (rmk (by decide) (by decide) (by omega) (by omega) (by decide)) dL_law_309 (fun v h1 s1 hp => ?_)
  obtain ⟨r, h3, rfl, ⟨fs6, ho6⟩, M2, I3⟩ := K v h1 s1 hp
  refine r_aload_n C dL_law_312 rfl rfl ?_
  refine r_cVi C M2 lk_L_93 rfl ho6 rfl rfl (rmk (by decide) (by decide) (by omega) (by omega) (Nat.le_of_ble_eq_true rfl)) dL_law_313 ?_
  refine r_icmp_eq C 1434 dL_law_316 (by decide) (fun _ => ?_) (fun q => absurd rfl q)
  exact V.sub (LL_ b0 x i) ⟨rfl, rfl, rfl, rfl, rfl, trivial⟩ (V.widen (by omega) (by omega) (kk _ _ I3))
set_option maxHeartbeats 1600000 in
set_option maxRecDepth 100000 in
theorem k_3 {p : Program} {l : Launch} {e : Env} {s : State} {m : MethodId} {args : Array Value} {below : List Frame} {meth : Method} {c : Code} {Q : State → Prop} {G : ga_} {nm : String} {h : HP} {sz x n k mm b0 N i : Nat} {xs : Nat → Int32} (C : Cx p l room_1 s m args meth c G RL code 9 ret nm) (X : Sx G s b0 N xs) (hst : l.stackTraces = false) (I : LI G h sz x n) (hn : n < 999000) (hi : i + 3 < N) (hN : N ≤ 2048) (hk : k + 13 ≤ 601024) (hm : mm + 400 ≤ 7293034)
    (kk : ∀ h3 s3, LI G h3 s3 x (n + 2) → V p l e room_1 s m args below meth c G 9 Q h3 s3 (k + 13) (mm + 400) 1434 (LL_ b0 x i) []) : V p l e room_1 s m args below meth c G 9 Q h sz k mm 321 (LL_ b0 x i) [] := by
  have v1 : vp_in (nI i + 1) N := vinD 1 (by omega) hN
  have v2 : vp_in (nI i + 2) N := vinD 2 (by omega) hN
  have v3 : vp_in (nI i + 3) N := vinD 3 (by omega) hN
  refine r_aload_n C dL_law_321 rfl rfl ?_
  obtain ⟨fs5, Po, hx5, M, K⟩ := d_pass (l := l) I hn
  refine r_callV C M lk_L_94 rfl hx5 rfl rfl (rmk (by decide) (by decide) (by omega) (by omega) (by decide)) dL_law_322 (fun v h1 s1 hp => ?_)
  obtain ⟨r, h3, rfl, ⟨fs6, ho6⟩, M2, I3⟩ := K v h1 s1 hp
  refine r_aload_n C dL_law_325 rfl rfl ?_
  refine r_cVi C M2 lk_L_97 rfl ho6 rfl rfl (rmk (by decide) (by decide) (by omega) (by omega) (Nat.le_of_ble_eq_true rfl)) dL_law_326 ?_
  refine r_icmp_eq C 1434 dL_law_329 (by decide) (fun _ => ?_) (fun q => absurd rfl q)
  exact V.sub (LL_ b0 x i) ⟨rfl, rfl, rfl, rfl, rfl, trivial⟩ (V.widen (by omega) (by omega) (kk _ _ I3))
set_option maxHeartbeats 1600000 in
set_option maxRecDepth 100000 in
theorem k_4 {p : Program} {l : Launch} {e : Env} {s : State} {m : MethodId} {args : Array Value} {below : List Frame} {meth : Method} {c : Code} {Q : State → Prop} {G : ga_} {nm : String} {h : HP} {sz x n k mm b0 N i : Nat} {xs : Nat → Int32} (C : Cx p l room_1 s m args meth c G RL code 9 ret nm) (X : Sx G s b0 N xs) (hst : l.stackTraces = false) (I : LI G h sz x n) (hn : n < 999000) (hi : i + 3 < N) (hN : N ≤ 2048) (hk : k + 13 ≤ 601024) (hm : mm + 400 ≤ 7293034)
    (kk : ∀ h3 s3, LI G h3 s3 x (n + 2) → V p l e room_1 s m args below meth c G 9 Q h3 s3 (k + 13) (mm + 400) 1434 (LL_ b0 x i) []) : V p l e room_1 s m args below meth c G 9 Q h sz k mm 334 (LL_ b0 x i) [] := by
  have v1 : vp_in (nI i + 1) N := vinD 1 (by omega) hN
  have v2 : vp_in (nI i + 2) N := vinD 2 (by omega) hN
  have v3 : vp_in (nI i + 3) N := vinD 3 (by omega) hN
  refine r_aload_n C dL_law_334 rfl rfl ?_
  refine r_aload_n C dL_law_335 rfl rfl ?_
  refine r_iload C dL_law_336 rfl ?_
  refine r_iconst C (v := 1) dL_law_338 rfl ?_
  refine r_iadd C dL_law_339 ?_
  refine r_sld C X v1 dL_law_340 ?_
  refine r_aload_n C dL_law_341 rfl rfl ?_
  obtain ⟨Po, M, K⟩ := w_oil (l := l) (a := (xs (nI i + 1).toNatClampNeg)) hst I hn
  refine r_cSW C M lk_L_98 rfl rfl (rmk (by decide) (by decide) (by omega) (by omega) (by decide)) dL_law_342 (fun v h1 s1 hp => ?_)
  obtain ⟨k1, rfl, b1, h3, ⟨fs6, ho6⟩, M2, I3, ⟨S3, A3, dg3, w3, e3⟩, hq⟩ := K v h1 s1 hp
  refine r_istore C dL_law_345 (by decide) ?_
  refine r_aload_n C dL_law_347 rfl rfl ?_
  refine r_aload_n C dL_law_348 rfl rfl ?_
  refine r_iload C dL_law_349 rfl ?_
  refine r_iconst C (v := 1) dL_law_351 rfl ?_
  refine r_iadd C dL_law_352 ?_
  refine r_sld C X v1 dL_law_353 ?_
  refine r_cVi C M2 lk_L_101 rfl ho6 rfl rfl (rmk (by decide) (by decide) (by omega) (by omega) (by decide)) dL_law_354 ?_
  refine r_istore C dL_law_357 (by decide) ?_
  refine r_aload_n C dL_law_359 rfl rfl ?_
  refine r_cVi C (c_X6_thrown w3) lk_L_83 rfl (MA_o w3) rfl rfl (rmk (by decide) (by decide) (by omega) (by omega) (by decide)) dL_law_360 ?_
  refine r_iload C dL_law_363 rfl ?_
  refine r_icmp_eq C 370 dL_law_365 (by decide) (fun _ => ?_) (fun q => absurd e3 q)
  refine r_iload C dL_law_370 rfl ?_
  refine r_if_ne C 387 dL_law_372 (by decide) (fun _ => ?_) (fun q0 => ?_)
  · refine r_goto C 1434 dL_law_387 (by decide) ?_
    exact V.sub (LL_ b0 x i) ⟨rfl, rfl, rfl, rfl, rfl, trivial⟩ (V.widen (by omega) (by omega) (kk _ _ I3))
  · obtain ⟨f, hf1, hf2⟩ := hq q0
    refine r_aload_n C dL_law_375 rfl rfl ?_
    refine r_iconst C (v := 0) dL_law_376 rfl ?_
    refine r_lald C hf1 vin0 dL_law_377 ?_
    refine r_iload C dL_law_378 rfl ?_
    refine r_i2l C dL_law_380 ?_
    refine r_lcmp C dL_law_381 ?_
    refine r_if_eq C 387 dL_law_382 (by decide) (fun _ => ?_) (fun q => absurd (by rw [hf2]; exact lcmp_s _) q)
    refine r_goto C 1434 dL_law_387 (by decide) ?_
    exact V.sub (LL_ b0 x i) ⟨rfl, rfl, rfl, rfl, rfl, trivial⟩ (V.widen (by omega) (by omega) (kk _ _ I3))
set_option maxHeartbeats 1600000 in
set_option maxRecDepth 100000 in
theorem k_5 {p : Program} {l : Launch} {e : Env} {s : State} {m : MethodId} {args : Array Value} {below : List Frame} {meth : Method} {c : Code} {Q : State → Prop} {G : ga_} {nm : String} {h : HP} {sz x n k mm b0 N i : Nat} {xs : Nat → Int32} (C : Cx p l room_1 s m args meth c G RL code 9 ret nm) (X : Sx G s b0 N xs) (hst : l.stackTraces = false) (I : LI G h sz x n) (hn : n < 999000) (hi : i + 3 < N) (hN : N ≤ 2048) (hk : k + 13 ≤ 601024) (hm : mm + 400 ≤ 7293034)
    (kk : ∀ h3 s3, LI G h3 s3 x (n + 2) → V p l e room_1 s m args below meth c G 9 Q h3 s3 (k + 13) (mm + 400) 1434 (LL_ b0 x i) []) : V p l e room_1 s m args below meth c G 9 Q h sz k mm 390 (LL_ b0 x i) [] := by
  have v1 : vp_in (nI i + 1) N := vinD 1 (by omega) hN
  have v2 : vp_in (nI i + 2) N := vinD 2 (by omega) hN
  have v3 : vp_in (nI i + 3) N := vinD 3 (by omega) hN
  refine r_aload_n C dL_law_390 rfl rfl ?_
  refine r_aload_n C dL_law_391 rfl rfl ?_
  refine r_iload C dL_law_392 rfl ?_
  refine r_iconst C (v := 1) dL_law_394 rfl ?_
  refine r_iadd C dL_law_395 ?_
  refine r_sld C X v1 dL_law_396 ?_
  refine r_aload_n C dL_law_397 rfl rfl ?_
  obtain ⟨Po, M, K⟩ := w_set (l := l) (a := (xs (nI i + 1).toNatClampNeg)) hst I hn
  refine r_cSW C M lk_L_102 rfl rfl (rmk (by decide) (by decide) (by omega) (by omega) (by decide)) dL_law_398 (fun v h1 s1 hp => ?_)
  obtain ⟨k1, rfl, b1, h3, ⟨fs6, ho6⟩, M2, I3, ⟨S3, A3, dg3, w3, e3⟩, hq⟩ := K v h1 s1 hp
  refine r_istore C dL_law_401 (by decide) ?_
  refine r_aload_n C dL_law_403 rfl rfl ?_
  refine r_aload_n C dL_law_404 rfl rfl ?_
  refine r_iload C dL_law_405 rfl ?_
  refine r_iconst C (v := 1) dL_law_407 rfl ?_
  refine r_iadd C dL_law_408 ?_
  refine r_sld C X v1 dL_law_409 ?_
  refine r_cVi C M2 lk_L_104 rfl ho6 rfl rfl (rmk (by decide) (by decide) (by omega) (by omega) (by decide)) dL_law_410 ?_
  refine r_istore C dL_law_413 (by decide) ?_
  refine r_aload_n C dL_law_415 rfl rfl ?_
  refine r_cVi C (c_X6_thrown w3) lk_L_83 rfl (MA_o w3) rfl rfl (rmk (by decide) (by decide) (by omega) (by omega) (by decide)) dL_law_416 ?_
  refine r_iload C dL_law_419 rfl ?_
  refine r_icmp_eq C 426 dL_law_421 (by decide) (fun _ => ?_) (fun q => absurd e3 q)
  refine r_iload C dL_law_426 rfl ?_
  refine r_if_ne C 443 dL_law_428 (by decide) (fun _ => ?_) (fun q0 => ?_)
  · refine r_goto C 1434 dL_law_443 (by decide) ?_
    exact V.sub (LL_ b0 x i) ⟨rfl, rfl, rfl, rfl, rfl, trivial⟩ (V.widen (by omega) (by omega) (kk _ _ I3))
  · obtain ⟨f, hf1, hf2⟩ := hq q0
    refine r_aload_n C dL_law_431 rfl rfl ?_
    refine r_iconst C (v := 0) dL_law_432 rfl ?_
    refine r_lald C hf1 vin0 dL_law_433 ?_
    refine r_iload C dL_law_434 rfl ?_
    refine r_i2l C dL_law_436 ?_
    refine r_lcmp C dL_law_437 ?_
    refine r_if_eq C 443 dL_law_438 (by decide) (fun _ => ?_) (fun q => absurd (by rw [hf2]; exact lcmp_s _) q)
    refine r_goto C 1434 dL_law_443 (by decide) ?_
    exact V.sub (LL_ b0 x i) ⟨rfl, rfl, rfl, rfl, rfl, trivial⟩ (V.widen (by omega) (by omega) (kk _ _ I3))
set_option maxHeartbeats 1600000 in
set_option maxRecDepth 100000 in
theorem k_6 {p : Program} {l : Launch} {e : Env} {s : State} {m : MethodId} {args : Array Value} {below : List Frame} {meth : Method} {c : Code} {Q : State → Prop} {G : ga_} {nm : String} {h : HP} {sz x n k mm b0 N i : Nat} {xs : Nat → Int32} (C : Cx p l room_1 s m args meth c G RL code 9 ret nm) (X : Sx G s b0 N xs) (hst : l.stackTraces = false) (I : LI G h sz x n) (hn : n < 999000) (hi : i + 3 < N) (hN : N ≤ 2048) (hk : k + 13 ≤ 601024) (hm : mm + 400 ≤ 7293034)
    (kk : ∀ h3 s3, LI G h3 s3 x (n + 2) → V p l e room_1 s m args below meth c G 9 Q h3 s3 (k + 13) (mm + 400) 1434 (LL_ b0 x i) []) : V p l e room_1 s m args below meth c G 9 Q h sz k mm 446 (LL_ b0 x i) [] := by
  have v1 : vp_in (nI i + 1) N := vinD 1 (by omega) hN
  have v2 : vp_in (nI i + 2) N := vinD 2 (by omega) hN
  have v3 : vp_in (nI i + 3) N := vinD 3 (by omega) hN
  refine r_aload_n C dL_law_446 rfl rfl ?_
  refine r_aload_n C dL_law_447 rfl rfl ?_
  refine r_iload C dL_law_448 rfl ?_
  refine r_iconst C (v := 1) dL_law_450 rfl ?_
  refine r_iadd C dL_law_451 ?_
  refine r_sld C X v1 dL_law_452 ?_
  refine r_aload_n C dL_law_453 rfl rfl ?_
  obtain ⟨Po, M, K⟩ := w_append (l := l) (a := (xs (nI i + 1).toNatClampNeg)) hst I hn
  refine r_cSW C M lk_L_105 rfl rfl (rmk (by decide) (by decide) (by omega) (by omega) (by decide)) dL_law_454 (fun v h1 s1 hp => ?_)
  obtain ⟨k1, rfl, b1, h3, ⟨fs6, ho6⟩, M2, I3, ⟨S3, A3, dg3, w3, e3⟩, hq⟩ := K v h1 s1 hp
  refine r_istore C dL_law_457 (by decide) ?_
  refine r_aload_n C dL_law_459 rfl rfl ?_
  refine r_aload_n C dL_law_460 rfl rfl ?_
  refine r_iload C dL_law_461 rfl ?_
  refine r_iconst C (v := 1) dL_law_463 rfl ?_
  refine r_iadd C dL_law_464 ?_
  refine r_sld C X v1 dL_law_465 ?_
  refine r_cVi C M2 lk_L_107 rfl ho6 rfl rfl (rmk (by decide) (by decide) (by omega) (by omega) (by decide)) dL_law_466 ?_
  refine r_istore C dL_law_469 (by decide) ?_
  refine r_aload_n C dL_law_471 rfl rfl ?_
  refine r_cVi C (c_X6_thrown w3) lk_L_83 rfl (MA_o w3) rfl rfl (rmk (by decide) (by decide) (by omega) (by omega) (by decide)) dL_law_472 ?_
  refine r_iload C dL_law_475 rfl ?_
  refine r_icmp_eq C 482 dL_law_477 (by decide) (fun _ => ?_) (fun q => absurd e3 q)
  refine r_iload C dL_law_482 rfl ?_
  refine r_if_ne C 499 dL_law_484 (by decide) (fun _ => ?_) (fun q0 => ?_)
  · refine r_goto C 1434 dL_law_499 (by decide) ?_
    exact V.sub (LL_ b0 x i) ⟨rfl, rfl, rfl, rfl, rfl, trivial⟩ (V.widen (by omega) (by omega) (kk _ _ I3))
  · obtain ⟨f, hf1, hf2⟩ := hq q0
    refine r_aload_n C dL_law_487 rfl rfl ?_
    refine r_iconst C (v := 0) dL_law_488 rfl ?_
    refine r_lald C hf1 vin0 dL_law_489 ?_
    refine r_iload C dL_law_490 rfl ?_
    refine r_i2l C dL_law_492 ?_
    refine r_lcmp C dL_law_493 ?_
    refine r_if_eq C 499 dL_law_494 (by decide) (fun _ => ?_) (fun q => absurd (by rw [hf2]; exact lcmp_s _) q)
    refine r_goto C 1434 dL_law_499 (by decide) ?_
    exact V.sub (LL_ b0 x i) ⟨rfl, rfl, rfl, rfl, rfl, trivial⟩ (V.widen (by omega) (by omega) (kk _ _ I3))
set_option maxHeartbeats 1600000 in
set_option maxRecDepth 100000 in
theorem k_7 {p : Program} {l : Launch} {e : Env} {s : State} {m : MethodId} {args : Array Value} {below : List Frame} {meth : Method} {c : Code} {Q : State → Prop} {G : ga_} {nm : String} {h : HP} {sz x n k mm b0 N i : Nat} {xs : Nat → Int32} (C : Cx p l room_1 s m args meth c G RL code 9 ret nm) (X : Sx G s b0 N xs) (hst : l.stackTraces = false) (I : LI G h sz x n) (hn : n < 999000) (hi : i + 3 < N) (hN : N ≤ 2048) (hk : k + 13 ≤ 601024) (hm : mm + 400 ≤ 7293034)
    (kk : ∀ h3 s3, LI G h3 s3 x (n + 2) → V p l e room_1 s m args below meth c G 9 Q h3 s3 (k + 13) (mm + 400) 1434 (LL_ b0 x i) []) : V p l e room_1 s m args below meth c G 9 Q h sz k mm 502 (LL_ b0 x i) [] := by
  have v1 : vp_in (nI i + 1) N := vinD 1 (by omega) hN
  have v2 : vp_in (nI i + 2) N := vinD 2 (by omega) hN
  have v3 : vp_in (nI i + 3) N := vinD 3 (by omega) hN
  refine r_aload_n C dL_law_502 rfl rfl ?_
  obtain ⟨fs5, Po, hx5, M, K⟩ := d_clearBuffer (l := l) I hn
  refine r_callV C M lk_L_108 rfl hx5 rfl rfl (rmk (by decide) (by decide) (by omega) (by omega) (by decide)) dL_law_503 (fun v h1 s1 hp => ?_)
  obtain ⟨r, h3, rfl, ⟨fs6, ho6⟩, M2, I3⟩ := K v h1 s1 hp
  refine r_aload_n C dL_law_506 rfl rfl ?_
  refine r_cVi C M2 lk_L_111 rfl ho6 rfl rfl (rmk (by decide) (by decide) (by omega) (by omega) (Nat.le_of_ble_eq_true rfl)) dL_law_507 ?_
  refine r_icmp_eq C 1434 dL_law_510 (by decide) (fun _ => ?_) (fun q => absurd rfl q)
  exact V.sub (LL_ b0 x i) ⟨rfl, rfl, rfl, rfl, rfl, trivial⟩ (V.widen (by omega) (by omega) (kk _ _ I3))
set_option maxHeartbeats 1600000 in
set_option maxRecDepth 100000 in
theorem k_8 {p : Program} {l : Launch} {e : Env} {s : State} {m : MethodId} {args : Array Value} {below : List Frame} {meth : Method} {c : Code} {Q : State → Prop} {G : ga_} {nm : String} {h : HP} {sz x n k mm b0 N i : Nat} {xs : Nat → Int32} (C : Cx p l room_1 s m args meth c G RL code 9 ret nm) (X : Sx G s b0 N xs) (hst : l.stackTraces = false) (I : LI G h sz x n) (hn : n < 999000) (hi : i + 3 < N) (hN : N ≤ 2048) (hk : k + 13 ≤ 601024) (hm : mm + 400 ≤ 7293034)
    (kk : ∀ h3 s3, LI G h3 s3 x (n + 2) → V p l e room_1 s m args below meth c G 9 Q h3 s3 (k + 13) (mm + 400) 1434 (LL_ b0 x i) []) : V p l e room_1 s m args below meth c G 9 Q h sz k mm 515 (LL_ b0 x i) [] := by
  have v1 : vp_in (nI i + 1) N := vinD 1 (by omega) hN
  have v2 : vp_in (nI i + 2) N := vinD 2 (by omega) hN
  have v3 : vp_in (nI i + 3) N := vinD 3 (by omega) hN
  refine r_aload_n C dL_law_515 rfl rfl ?_
  obtain ⟨fs5, Po, hx5, M, K⟩ := d_firstError (l := l) I hn
  refine r_callV C M lk_L_112 rfl hx5 rfl rfl (rmk (by decide) (by decide) (by omega) (by omega) (by decide)) dL_law_516 (fun v h1 s1 hp => ?_)
  obtain ⟨r, h3, rfl, ⟨fs6, ho6⟩, M2, I3⟩ := K v h1 s1 hp
  refine r_aload_n C dL_law_519 rfl rfl ?_
  refine r_cVi C M2 lk_L_115 rfl ho6 rfl rfl (rmk (by decide) (by decide) (by omega) (by omega) (Nat.le_of_ble_eq_true rfl)) dL_law_520 ?_
  refine r_icmp_eq C 1434 dL_law_523 (by decide) (fun _ => ?_) (fun q => absurd rfl q)
  exact V.sub (LL_ b0 x i) ⟨rfl, rfl, rfl, rfl, rfl, trivial⟩ (V.widen (by omega) (by omega) (kk _ _ I3))
set_option maxHeartbeats 1600000 in
set_option maxRecDepth 100000 in
theorem k_9 {p : Program} {l : Launch} {e : Env} {s : State} {m : MethodId} {args : Array Value} {below : List Frame} {meth : Method} {c : Code} {Q : State → Prop} {G : ga_} {nm : String} {h : HP} {sz x n k mm b0 N i : Nat} {xs : Nat → Int32} (C : Cx p l room_1 s m args meth c G RL code 9 ret nm) (X : Sx G s b0 N xs) (hst : l.stackTraces = false) (I : LI G h sz x n) (hn : n < 999000) (hi : i + 3 < N) (hN : N ≤ 2048) (hk : k + 13 ≤ 601024) (hm : mm + 400 ≤ 7293034)
    (kk : ∀ h3 s3, LI G h3 s3 x (n + 2) → V p l e room_1 s m args below meth c G 9 Q h3 s3 (k + 13) (mm + 400) 1434 (LL_ b0 x i) []) : V p l e room_1 s m args below meth c G 9 Q h sz k mm 528 (LL_ b0 x i) [] := by
  have v1 : vp_in (nI i + 1) N := vinD 1 (by omega) hN
  have v2 : vp_in (nI i + 2) N := vinD 2 (by omega) hN
  have v3 : vp_in (nI i + 3) N := vinD 3 (by omega) hN
  refine r_aload_n C dL_law_528 rfl rfl ?_
  refine r_aload_n C dL_law_529 rfl rfl ?_
  obtain ⟨Po, M, K⟩ := w_run (l := l)  hst I hn
  refine r_cSW C M lk_L_116 rfl rfl (rmk (by decide) (by decide) (by omega) (by omega) (by decide)) dL_law_530 (fun v h1 s1 hp => ?_)
  obtain ⟨k1, rfl, b1, h3, ⟨fs6, ho6⟩, M2, I3, ⟨S3, A3, dg3, w3, e3⟩, hq⟩ := K v h1 s1 hp
  refine r_istore C dL_law_533 (by decide) ?_
  refine r_aload_n C dL_law_535 rfl rfl ?_
  refine r_cVi C M2 lk_L_119 rfl ho6 rfl rfl (rmk (by decide) (by decide) (by omega) (by omega) (by decide)) dL_law_536 ?_
  refine r_istore C dL_law_539 (by decide) ?_
  refine r_aload_n C dL_law_541 rfl rfl ?_
  refine r_cVi C (c_X6_thrown w3) lk_L_83 rfl (MA_o w3) rfl rfl (rmk (by decide) (by decide) (by omega) (by omega) (by decide)) dL_law_542 ?_
  refine r_iload C dL_law_545 rfl ?_
  refine r_icmp_eq C 552 dL_law_547 (by decide) (fun _ => ?_) (fun q => absurd e3 q)
  refine r_iload C dL_law_552 rfl ?_
  refine r_if_ne C 569 dL_law_554 (by decide) (fun _ => ?_) (fun q0 => ?_)
  · refine r_goto C 1434 dL_law_569 (by decide) ?_
    exact V.sub (LL_ b0 x i) ⟨rfl, rfl, rfl, rfl, rfl, trivial⟩ (V.widen (by omega) (by omega) (kk _ _ I3))
  · obtain ⟨f, hf1, hf2⟩ := hq q0
    refine r_aload_n C dL_law_557 rfl rfl ?_
    refine r_iconst C (v := 0) dL_law_558 rfl ?_
    refine r_lald C hf1 vin0 dL_law_559 ?_
    refine r_iload C dL_law_560 rfl ?_
    refine r_i2l C dL_law_562 ?_
    refine r_lcmp C dL_law_563 ?_
    refine r_if_eq C 569 dL_law_564 (by decide) (fun _ => ?_) (fun q => absurd (by rw [hf2]; exact lcmp_s _) q)
    refine r_goto C 1434 dL_law_569 (by decide) ?_
    exact V.sub (LL_ b0 x i) ⟨rfl, rfl, rfl, rfl, rfl, trivial⟩ (V.widen (by omega) (by omega) (kk _ _ I3))
set_option maxHeartbeats 1600000 in
set_option maxRecDepth 100000 in
theorem k_10 {p : Program} {l : Launch} {e : Env} {s : State} {m : MethodId} {args : Array Value} {below : List Frame} {meth : Method} {c : Code} {Q : State → Prop} {G : ga_} {nm : String} {h : HP} {sz x n k mm b0 N i : Nat} {xs : Nat → Int32} (C : Cx p l room_1 s m args meth c G RL code 9 ret nm) (X : Sx G s b0 N xs) (hst : l.stackTraces = false) (I : LI G h sz x n) (hn : n < 999000) (hi : i + 3 < N) (hN : N ≤ 2048) (hk : k + 13 ≤ 601024) (hm : mm + 400 ≤ 7293034)
    (kk : ∀ h3 s3, LI G h3 s3 x (n + 2) → V p l e room_1 s m args below meth c G 9 Q h3 s3 (k + 13) (mm + 400) 1434 (LL_ b0 x i) []) : V p l e room_1 s m args below meth c G 9 Q h sz k mm 572 (LL_ b0 x i) [] := by
  have v1 : vp_in (nI i + 1) N := vinD 1 (by omega) hN
  have v2 : vp_in (nI i + 2) N := vinD 2 (by omega) hN
  have v3 : vp_in (nI i + 3) N := vinD 3 (by omega) hN
  refine r_aload_n C dL_law_572 rfl rfl ?_
  refine r_aload_n C dL_law_573 rfl rfl ?_
  refine r_iload C dL_law_574 rfl ?_
  refine r_iconst C (v := 1) dL_law_576 rfl ?_
  refine r_iadd C dL_law_577 ?_
  refine r_sld C X v1 dL_law_578 ?_
  refine r_aload_n C dL_law_579 rfl rfl ?_
  obtain ⟨Po, M, K⟩ := w_keep (l := l) (a := (xs (nI i + 1).toNatClampNeg)) hst I hn
  refine r_cSW C M lk_L_120 rfl rfl (rmk (by decide) (by decide) (by omega) (by omega) (by decide)) dL_law_580 (fun v h1 s1 hp => ?_)
  obtain ⟨k1, rfl, b1, h3, ⟨fs6, ho6⟩, M2, I3, ⟨S3, A3, dg3, w3, e3⟩, hq⟩ := K v h1 s1 hp
  refine r_istore C dL_law_583 (by decide) ?_
  refine r_aload_n C dL_law_585 rfl rfl ?_
  refine r_aload_n C dL_law_586 rfl rfl ?_
  refine r_iload C dL_law_587 rfl ?_
  refine r_iconst C (v := 1) dL_law_589 rfl ?_
  refine r_iadd C dL_law_590 ?_
  refine r_sld C X v1 dL_law_591 ?_
  refine r_cVi C M2 lk_L_122 rfl ho6 rfl rfl (rmk (by decide) (by decide) (by omega) (by omega) (by decide)) dL_law_592 ?_
  refine r_istore C dL_law_595 (by decide) ?_
  refine r_aload_n C dL_law_597 rfl rfl ?_
  refine r_cVi C (c_X6_thrown w3) lk_L_83 rfl (MA_o w3) rfl rfl (rmk (by decide) (by decide) (by omega) (by omega) (by decide)) dL_law_598 ?_
  refine r_iload C dL_law_601 rfl ?_
  refine r_icmp_eq C 608 dL_law_603 (by decide) (fun _ => ?_) (fun q => absurd e3 q)
  refine r_iload C dL_law_608 rfl ?_
  refine r_if_ne C 625 dL_law_610 (by decide) (fun _ => ?_) (fun q0 => ?_)
  · refine r_goto C 1434 dL_law_625 (by decide) ?_
    exact V.sub (LL_ b0 x i) ⟨rfl, rfl, rfl, rfl, rfl, trivial⟩ (V.widen (by omega) (by omega) (kk _ _ I3))
  · obtain ⟨f, hf1, hf2⟩ := hq q0
    refine r_aload_n C dL_law_613 rfl rfl ?_
    refine r_iconst C (v := 0) dL_law_614 rfl ?_
    refine r_lald C hf1 vin0 dL_law_615 ?_
    refine r_iload C dL_law_616 rfl ?_
    refine r_i2l C dL_law_618 ?_
    refine r_lcmp C dL_law_619 ?_
    refine r_if_eq C 625 dL_law_620 (by decide) (fun _ => ?_) (fun q => absurd (by rw [hf2]; exact lcmp_s _) q)
    refine r_goto C 1434 dL_law_625 (by decide) ?_
    exact V.sub (LL_ b0 x i) ⟨rfl, rfl, rfl, rfl, rfl, trivial⟩ (V.widen (by omega) (by omega) (kk _ _ I3))
set_option maxHeartbeats 1600000 in
set_option maxRecDepth 100000 in
theorem k_11 {p : Program} {l : Launch} {e : Env} {s : State} {m : MethodId} {args : Array Value} {below : List Frame} {meth : Method} {c : Code} {Q : State → Prop} {G : ga_} {nm : String} {h : HP} {sz x n k mm b0 N i : Nat} {xs : Nat → Int32} (C : Cx p l room_1 s m args meth c G RL code 9 ret nm) (X : Sx G s b0 N xs) (hst : l.stackTraces = false) (I : LI G h sz x n) (hn : n < 999000) (hi : i + 3 < N) (hN : N ≤ 2048) (hk : k + 13 ≤ 601024) (hm : mm + 400 ≤ 7293034)
    (kk : ∀ h3 s3, LI G h3 s3 x (n + 2) → V p l e room_1 s m args below meth c G 9 Q h3 s3 (k + 13) (mm + 400) 1434 (LL_ b0 x i) []) : V p l e room_1 s m args below meth c G 9 Q h sz k mm 628 (LL_ b0 x i) [] := by
  have v1 : vp_in (nI i + 1) N := vinD 1 (by omega) hN
  have v2 : vp_in (nI i + 2) N := vinD 2 (by omega) hN
  have v3 : vp_in (nI i + 3) N := vinD 3 (by omega) hN
  refine r_aload_n C dL_law_628 rfl rfl ?_
  refine r_aload_n C dL_law_629 rfl rfl ?_
  refine r_iload C dL_law_630 rfl ?_
  refine r_iconst C (v := 1) dL_law_632 rfl ?_
  refine r_iadd C dL_law_633 ?_
  refine r_sld C X v1 dL_law_634 ?_
  refine r_aload_n C dL_law_635 rfl rfl ?_
  obtain ⟨Po, M, K⟩ := w_goBack (l := l) (a := (xs (nI i + 1).toNatClampNeg)) hst I hn
  refine r_cSW C M lk_L_123 rfl rfl (rmk (by decide) (by decide) (by omega) (by omega) (by decide)) dL_law_636 (fun v h1 s1 hp => ?_)
  obtain ⟨k1, rfl, b1, h3, ⟨fs6, ho6⟩, M2, I3, ⟨S3, A3, dg3, w3, e3⟩, hq⟩ := K v h1 s1 hp
  refine r_istore C dL_law_639 (by decide) ?_
  refine r_aload_n C dL_law_641 rfl rfl ?_
  refine r_aload_n C dL_law_642 rfl rfl ?_
  refine r_iload C dL_law_643 rfl ?_
  refine r_iconst C (v := 1) dL_law_645 rfl ?_
  refine r_iadd C dL_law_646 ?_
  refine r_sld C X v1 dL_law_647 ?_
  refine r_cVi C M2 lk_L_125 rfl ho6 rfl rfl (rmk (by decide) (by decide) (by omega) (by omega) (by decide)) dL_law_648 ?_
  refine r_istore C dL_law_651 (by decide) ?_
  refine r_aload_n C dL_law_653 rfl rfl ?_
  refine r_cVi C (c_X6_thrown w3) lk_L_83 rfl (MA_o w3) rfl rfl (rmk (by decide) (by decide) (by omega) (by omega) (by decide)) dL_law_654 ?_
  refine r_iload C dL_law_657 rfl ?_
  refine r_icmp_eq C 664 dL_law_659 (by decide) (fun _ => ?_) (fun q => absurd e3 q)
  refine r_iload C dL_law_664 rfl ?_
  refine r_if_ne C 681 dL_law_666 (by decide) (fun _ => ?_) (fun q0 => ?_)
  · refine r_goto C 1434 dL_law_681 (by decide) ?_
    exact V.sub (LL_ b0 x i) ⟨rfl, rfl, rfl, rfl, rfl, trivial⟩ (V.widen (by omega) (by omega) (kk _ _ I3))
  · obtain ⟨f, hf1, hf2⟩ := hq q0
    refine r_aload_n C dL_law_669 rfl rfl ?_
    refine r_iconst C (v := 0) dL_law_670 rfl ?_
    refine r_lald C hf1 vin0 dL_law_671 ?_
    refine r_iload C dL_law_672 rfl ?_
    refine r_i2l C dL_law_674 ?_
    refine r_lcmp C dL_law_675 ?_
    refine r_if_eq C 681 dL_law_676 (by decide) (fun _ => ?_) (fun q => absurd (by rw [hf2]; exact lcmp_s _) q)
    refine r_goto C 1434 dL_law_681 (by decide) ?_
    exact V.sub (LL_ b0 x i) ⟨rfl, rfl, rfl, rfl, rfl, trivial⟩ (V.widen (by omega) (by omega) (kk _ _ I3))
set_option maxHeartbeats 1600000 in
set_option maxRecDepth 100000 in
theorem k_12 {p : Program} {l : Launch} {e : Env} {s : State} {m : MethodId} {args : Array Value} {below : List Frame} {meth : Method} {c : Code} {Q : State → Prop} {G : ga_} {nm : String} {h : HP} {sz x n k mm b0 N i : Nat} {xs : Nat → Int32} (C : Cx p l room_1 s m args meth c G RL code 9 ret nm) (X : Sx G s b0 N xs) (hst : l.stackTraces = false) (I : LI G h sz x n) (hn : n < 999000) (hi : i + 3 < N) (hN : N ≤ 2048) (hk : k + 13 ≤ 601024) (hm : mm + 400 ≤ 7293034)
    (kk : ∀ h3 s3, LI G h3 s3 x (n + 2) → V p l e room_1 s m args below meth c G 9 Q h3 s3 (k + 13) (mm + 400) 1434 (LL_ b0 x i) []) : V p l e room_1 s m args below meth c G 9 Q h sz k mm 684 (LL_ b0 x i) [] := by
  have v1 : vp_in (nI i + 1) N := vinD 1 (by omega) hN
  have v2 : vp_in (nI i + 2) N := vinD 2 (by omega) hN
  have v3 : vp_in (nI i + 3) N := vinD 3 (by omega) hN
  refine r_aload_n C dL_law_684 rfl rfl ?_
  refine r_aload_n C dL_law_685 rfl rfl ?_
  obtain ⟨Po, M, K⟩ := w_undo (l := l)  hst I hn
  refine r_cSW C M lk_L_126 rfl rfl (rmk (by decide) (by decide) (by omega) (by omega) (by decide)) dL_law_686 (fun v h1 s1 hp => ?_)
  obtain ⟨k1, rfl, b1, h3, ⟨fs6, ho6⟩, M2, I3, ⟨S3, A3, dg3, w3, e3⟩, hq⟩ := K v h1 s1 hp
  refine r_istore C dL_law_689 (by decide) ?_
  refine r_aload_n C dL_law_691 rfl rfl ?_
  refine r_cVi C M2 lk_L_128 rfl ho6 rfl rfl (rmk (by decide) (by decide) (by omega) (by omega) (by decide)) dL_law_692 ?_
  refine r_istore C dL_law_695 (by decide) ?_
  refine r_aload_n C dL_law_697 rfl rfl ?_
  refine r_cVi C (c_X6_thrown w3) lk_L_83 rfl (MA_o w3) rfl rfl (rmk (by decide) (by decide) (by omega) (by omega) (by decide)) dL_law_698 ?_
  refine r_iload C dL_law_701 rfl ?_
  refine r_icmp_eq C 708 dL_law_703 (by decide) (fun _ => ?_) (fun q => absurd e3 q)
  refine r_iload C dL_law_708 rfl ?_
  refine r_if_ne C 725 dL_law_710 (by decide) (fun _ => ?_) (fun q0 => ?_)
  · refine r_goto C 1434 dL_law_725 (by decide) ?_
    exact V.sub (LL_ b0 x i) ⟨rfl, rfl, rfl, rfl, rfl, trivial⟩ (V.widen (by omega) (by omega) (kk _ _ I3))
  · obtain ⟨f, hf1, hf2⟩ := hq q0
    refine r_aload_n C dL_law_713 rfl rfl ?_
    refine r_iconst C (v := 0) dL_law_714 rfl ?_
    refine r_lald C hf1 vin0 dL_law_715 ?_
    refine r_iload C dL_law_716 rfl ?_
    refine r_i2l C dL_law_718 ?_
    refine r_lcmp C dL_law_719 ?_
    refine r_if_eq C 725 dL_law_720 (by decide) (fun _ => ?_) (fun q => absurd (by rw [hf2]; exact lcmp_s _) q)
    refine r_goto C 1434 dL_law_725 (by decide) ?_
    exact V.sub (LL_ b0 x i) ⟨rfl, rfl, rfl, rfl, rfl, trivial⟩ (V.widen (by omega) (by omega) (kk _ _ I3))
set_option maxHeartbeats 1600000 in
set_option maxRecDepth 100000 in
theorem k_13 {p : Program} {l : Launch} {e : Env} {s : State} {m : MethodId} {args : Array Value} {below : List Frame} {meth : Method} {c : Code} {Q : State → Prop} {G : ga_} {nm : String} {h : HP} {sz x n k mm b0 N i : Nat} {xs : Nat → Int32} (C : Cx p l room_1 s m args meth c G RL code 9 ret nm) (X : Sx G s b0 N xs) (hst : l.stackTraces = false) (I : LI G h sz x n) (hn : n < 999000) (hi : i + 3 < N) (hN : N ≤ 2048) (hk : k + 13 ≤ 601024) (hm : mm + 400 ≤ 7293034)
    (kk : ∀ h3 s3, LI G h3 s3 x (n + 2) → V p l e room_1 s m args below meth c G 9 Q h3 s3 (k + 13) (mm + 400) 1434 (LL_ b0 x i) []) : V p l e room_1 s m args below meth c G 9 Q h sz k mm 728 (LL_ b0 x i) [] := by
  have v1 : vp_in (nI i + 1) N := vinD 1 (by omega) hN
  have v2 : vp_in (nI i + 2) N := vinD 2 (by omega) hN
  have v3 : vp_in (nI i + 3) N := vinD 3 (by omega) hN
  refine r_aload_n C dL_law_728 rfl rfl ?_
  refine r_aload_n C dL_law_729 rfl rfl ?_
  refine r_iload C dL_law_730 rfl ?_
  refine r_iconst C (v := 1) dL_law_732 rfl ?_
  refine r_iadd C dL_law_733 ?_
  refine r_sld C X v1 dL_law_734 ?_
  refine r_aload_n C dL_law_735 rfl rfl ?_
  refine r_iload C dL_law_736 rfl ?_
  refine r_iconst C (v := 2) dL_law_738 rfl ?_
  refine r_iadd C dL_law_739 ?_
  refine r_sld C X v2 dL_law_740 ?_
  refine r_aload_n C dL_law_741 rfl rfl ?_
  obtain ⟨Po, M, K⟩ := w_tileOf (l := l) (a := (xs (nI i + 1).toNatClampNeg)) (b := (xs (nI i + 2).toNatClampNeg)) hst I hn
  refine r_cSW C M lk_L_129 rfl rfl (rmk (by decide) (by decide) (by omega) (by omega) (by decide)) dL_law_742 (fun v h1 s1 hp => ?_)
  obtain ⟨k1, rfl, b1, h3, ⟨fs6, ho6⟩, M2, I3, ⟨S3, A3, dg3, w3, e3⟩, hq⟩ := K v h1 s1 hp
  refine r_istore C dL_law_745 (by decide) ?_
  refine r_aload_n C dL_law_747 rfl rfl ?_
  refine r_aload_n C dL_law_748 rfl rfl ?_
  refine r_iload C dL_law_749 rfl ?_
  refine r_iconst C (v := 1) dL_law_751 rfl ?_
  refine r_iadd C dL_law_752 ?_
  refine r_sld C X v1 dL_law_753 ?_
  refine r_aload_n C dL_law_754 rfl rfl ?_
  refine r_iload C dL_law_755 rfl ?_
  refine r_iconst C (v := 2) dL_law_757 rfl ?_
  refine r_iadd C dL_law_758 ?_
  refine r_sld C X v2 dL_law_759 ?_
  refine r_cVi C M2 lk_L_131 rfl ho6 rfl rfl (rmk (by decide) (by decide) (by omega) (by omega) (by decide)) dL_law_760 ?_
  refine r_istore C dL_law_763 (by decide) ?_
  refine r_aload_n C dL_law_765 rfl rfl ?_
  refine r_cVi C (c_X6_thrown w3) lk_L_83 rfl (MA_o w3) rfl rfl (rmk (by decide) (by decide) (by omega) (by omega) (by decide)) dL_law_766 ?_
  refine r_iload C dL_law_769 rfl ?_
  refine r_icmp_eq C 776 dL_law_771 (by decide) (fun _ => ?_) (fun q => absurd e3 q)
  refine r_iload C dL_law_776 rfl ?_
  refine r_if_ne C 793 dL_law_778 (by decide) (fun _ => ?_) (fun q0 => ?_)
  · refine r_goto C 1434 dL_law_793 (by decide) ?_
    exact V.sub (LL_ b0 x i) ⟨rfl, rfl, rfl, rfl, rfl, trivial⟩ (V.widen (by omega) (by omega) (kk _ _ I3))
  · obtain ⟨f, hf1, hf2⟩ := hq q0
    refine r_aload_n C dL_law_781 rfl rfl ?_
    refine r_iconst C (v := 0) dL_law_782 rfl ?_
    refine r_lald C hf1 vin0 dL_law_783 ?_
    refine r_iload C dL_law_784 rfl ?_
    refine r_i2l C dL_law_786 ?_
    refine r_lcmp C dL_law_787 ?_
    refine r_if_eq C 793 dL_law_788 (by decide) (fun _ => ?_) (fun q => absurd (by rw [hf2]; exact lcmp_s _) q)
    refine r_goto C 1434 dL_law_793 (by decide) ?_
    exact V.sub (LL_ b0 x i) ⟨rfl, rfl, rfl, rfl, rfl, trivial⟩ (V.widen (by omega) (by omega) (kk _ _ I3))
set_option maxHeartbeats 1600000 in
set_option maxRecDepth 100000 in
theorem k_14 {p : Program} {l : Launch} {e : Env} {s : State} {m : MethodId} {args : Array Value} {below : List Frame} {meth : Method} {c : Code} {Q : State → Prop} {G : ga_} {nm : String} {h : HP} {sz x n k mm b0 N i : Nat} {xs : Nat → Int32} (C : Cx p l room_1 s m args meth c G RL code 9 ret nm) (X : Sx G s b0 N xs) (hst : l.stackTraces = false) (I : LI G h sz x n) (hn : n < 999000) (hi : i + 3 < N) (hN : N ≤ 2048) (hk : k + 13 ≤ 601024) (hm : mm + 400 ≤ 7293034)
    (kk : ∀ h3 s3, LI G h3 s3 x (n + 2) → V p l e room_1 s m args below meth c G 9 Q h3 s3 (k + 13) (mm + 400) 1434 (LL_ b0 x i) []) : V p l e room_1 s m args below meth c G 9 Q h sz k mm 796 (LL_ b0 x i) [] := by
  have v1 : vp_in (nI i + 1) N := vinD 1 (by omega) hN
  have v2 : vp_in (nI i + 2) N := vinD 2 (by omega) hN
  have v3 : vp_in (nI i + 3) N := vinD 3 (by omega) hN
  refine r_aload_n C dL_law_796 rfl rfl ?_
  refine r_aload_n C dL_law_797 rfl rfl ?_
  refine r_iload C dL_law_798 rfl ?_
  refine r_iconst C (v := 1) dL_law_800 rfl ?_
  refine r_iadd C dL_law_801 ?_
  refine r_sld C X v1 dL_law_802 ?_
  refine r_aload_n C dL_law_803 rfl rfl ?_
  refine r_iload C dL_law_804 rfl ?_
  refine r_iconst C (v := 2) dL_law_806 rfl ?_
  refine r_iadd C dL_law_807 ?_
  refine r_sld C X v2 dL_law_808 ?_
  refine r_aload_n C dL_law_809 rfl rfl ?_
  obtain ⟨Po, M, K⟩ := w_hand (l := l) (a := (xs (nI i + 1).toNatClampNeg)) (b := (xs (nI i + 2).toNatClampNeg)) hst I hn
  refine r_cSW C M lk_L_132 rfl rfl (rmk (by decide) (by decide) (by omega) (by omega) (by decide)) dL_law_810 (fun v h1 s1 hp => ?_)
  obtain ⟨k1, rfl, b1, h3, ⟨fs6, ho6⟩, M2, I3, ⟨S3, A3, dg3, w3, e3⟩, hq⟩ := K v h1 s1 hp
  refine r_istore C dL_law_813 (by decide) ?_
  refine r_aload_n C dL_law_815 rfl rfl ?_
  refine r_aload_n C dL_law_816 rfl rfl ?_
  refine r_iload C dL_law_817 rfl ?_
  refine r_iconst C (v := 1) dL_law_819 rfl ?_
  refine r_iadd C dL_law_820 ?_
  refine r_sld C X v1 dL_law_821 ?_
  refine r_aload_n C dL_law_822 rfl rfl ?_
  refine r_iload C dL_law_823 rfl ?_
  refine r_iconst C (v := 2) dL_law_825 rfl ?_
  refine r_iadd C dL_law_826 ?_
  refine r_sld C X v2 dL_law_827 ?_
  refine r_cVi C M2 lk_L_134 rfl ho6 rfl rfl (rmk (by decide) (by decide) (by omega) (by omega) (by decide)) dL_law_828 ?_
  refine r_istore C dL_law_831 (by decide) ?_
  refine r_aload_n C dL_law_833 rfl rfl ?_
  refine r_cVi C (c_X6_thrown w3) lk_L_83 rfl (MA_o w3) rfl rfl (rmk (by decide) (by decide) (by omega) (by omega) (by decide)) dL_law_834 ?_
  refine r_iload C dL_law_837 rfl ?_
  refine r_icmp_eq C 844 dL_law_839 (by decide) (fun _ => ?_) (fun q => absurd e3 q)
  refine r_iload C dL_law_844 rfl ?_
  refine r_if_ne C 861 dL_law_846 (by decide) (fun _ => ?_) (fun q0 => ?_)
  · refine r_goto C 1434 dL_law_861 (by decide) ?_
    exact V.sub (LL_ b0 x i) ⟨rfl, rfl, rfl, rfl, rfl, trivial⟩ (V.widen (by omega) (by omega) (kk _ _ I3))
  · obtain ⟨f, hf1, hf2⟩ := hq q0
    refine r_aload_n C dL_law_849 rfl rfl ?_
    refine r_iconst C (v := 0) dL_law_850 rfl ?_
    refine r_lald C hf1 vin0 dL_law_851 ?_
    refine r_iload C dL_law_852 rfl ?_
    refine r_i2l C dL_law_854 ?_
    refine r_lcmp C dL_law_855 ?_
    refine r_if_eq C 861 dL_law_856 (by decide) (fun _ => ?_) (fun q => absurd (by rw [hf2]; exact lcmp_s _) q)
    refine r_goto C 1434 dL_law_861 (by decide) ?_
    exact V.sub (LL_ b0 x i) ⟨rfl, rfl, rfl, rfl, rfl, trivial⟩ (V.widen (by omega) (by omega) (kk _ _ I3))
set_option maxHeartbeats 1600000 in
set_option maxRecDepth 100000 in
theorem k_15 {p : Program} {l : Launch} {e : Env} {s : State} {m : MethodId} {args : Array Value} {below : List Frame} {meth : Method} {c : Code} {Q : State → Prop} {G : ga_} {nm : String} {h : HP} {sz x n k mm b0 N i : Nat} {xs : Nat → Int32} (C : Cx p l room_1 s m args meth c G RL code 9 ret nm) (X : Sx G s b0 N xs) (hst : l.stackTraces = false) (I : LI G h sz x n) (hn : n < 999000) (hi : i + 3 < N) (hN : N ≤ 2048) (hk : k + 13 ≤ 601024) (hm : mm + 400 ≤ 7293034)
    (kk : ∀ h3 s3, LI G h3 s3 x (n + 2) → V p l e room_1 s m args below meth c G 9 Q h3 s3 (k + 13) (mm + 400) 1434 (LL_ b0 x i) []) : V p l e room_1 s m args below meth c G 9 Q h sz k mm 864 (LL_ b0 x i) [] := by
  have v1 : vp_in (nI i + 1) N := vinD 1 (by omega) hN
  have v2 : vp_in (nI i + 2) N := vinD 2 (by omega) hN
  have v3 : vp_in (nI i + 3) N := vinD 3 (by omega) hN
  refine r_aload_n C dL_law_864 rfl rfl ?_
  refine r_aload_n C dL_law_865 rfl rfl ?_
  refine r_iload C dL_law_866 rfl ?_
  refine r_iconst C (v := 1) dL_law_868 rfl ?_
  refine r_iadd C dL_law_869 ?_
  refine r_sld C X v1 dL_law_870 ?_
  refine r_aload_n C dL_law_871 rfl rfl ?_
  obtain ⟨Po, M, K⟩ := w_stock (l := l) (a := (xs (nI i + 1).toNatClampNeg)) hst I hn
  refine r_cSW C M lk_L_135 rfl rfl (rmk (by decide) (by decide) (by omega) (by omega) (by decide)) dL_law_872 (fun v h1 s1 hp => ?_)
  obtain ⟨k1, rfl, b1, h3, ⟨fs6, ho6⟩, M2, I3, ⟨S3, A3, dg3, w3, e3⟩, hq⟩ := K v h1 s1 hp
  refine r_istore C dL_law_875 (by decide) ?_
  refine r_aload_n C dL_law_877 rfl rfl ?_
  refine r_aload_n C dL_law_878 rfl rfl ?_
  refine r_iload C dL_law_879 rfl ?_
  refine r_iconst C (v := 1) dL_law_881 rfl ?_
  refine r_iadd C dL_law_882 ?_
  refine r_sld C X v1 dL_law_883 ?_
  refine r_cVi C M2 lk_L_137 rfl ho6 rfl rfl (rmk (by decide) (by decide) (by omega) (by omega) (by decide)) dL_law_884 ?_
  refine r_istore C dL_law_887 (by decide) ?_
  refine r_aload_n C dL_law_889 rfl rfl ?_
  refine r_cVi C (c_X6_thrown w3) lk_L_83 rfl (MA_o w3) rfl rfl (rmk (by decide) (by decide) (by omega) (by omega) (by decide)) dL_law_890 ?_
  refine r_iload C dL_law_893 rfl ?_
  refine r_icmp_eq C 900 dL_law_895 (by decide) (fun _ => ?_) (fun q => absurd e3 q)
  refine r_iload C dL_law_900 rfl ?_
  refine r_if_ne C 917 dL_law_902 (by decide) (fun _ => ?_) (fun q0 => ?_)
  · refine r_goto C 1434 dL_law_917 (by decide) ?_
    exact V.sub (LL_ b0 x i) ⟨rfl, rfl, rfl, rfl, rfl, trivial⟩ (V.widen (by omega) (by omega) (kk _ _ I3))
  · obtain ⟨f, hf1, hf2⟩ := hq q0
    refine r_aload_n C dL_law_905 rfl rfl ?_
    refine r_iconst C (v := 0) dL_law_906 rfl ?_
    refine r_lald C hf1 vin0 dL_law_907 ?_
    refine r_iload C dL_law_908 rfl ?_
    refine r_i2l C dL_law_910 ?_
    refine r_lcmp C dL_law_911 ?_
    refine r_if_eq C 917 dL_law_912 (by decide) (fun _ => ?_) (fun q => absurd (by rw [hf2]; exact lcmp_s _) q)
    refine r_goto C 1434 dL_law_917 (by decide) ?_
    exact V.sub (LL_ b0 x i) ⟨rfl, rfl, rfl, rfl, rfl, trivial⟩ (V.widen (by omega) (by omega) (kk _ _ I3))
set_option maxHeartbeats 1600000 in
set_option maxRecDepth 100000 in
theorem k_16 {p : Program} {l : Launch} {e : Env} {s : State} {m : MethodId} {args : Array Value} {below : List Frame} {meth : Method} {c : Code} {Q : State → Prop} {G : ga_} {nm : String} {h : HP} {sz x n k mm b0 N i : Nat} {xs : Nat → Int32} (C : Cx p l room_1 s m args meth c G RL code 9 ret nm) (X : Sx G s b0 N xs) (hst : l.stackTraces = false) (I : LI G h sz x n) (hn : n < 999000) (hi : i + 3 < N) (hN : N ≤ 2048) (hk : k + 13 ≤ 601024) (hm : mm + 400 ≤ 7293034)
    (kk : ∀ h3 s3, LI G h3 s3 x (n + 2) → V p l e room_1 s m args below meth c G 9 Q h3 s3 (k + 13) (mm + 400) 1434 (LL_ b0 x i) []) : V p l e room_1 s m args below meth c G 9 Q h sz k mm 920 (LL_ b0 x i) [] := by
  have v1 : vp_in (nI i + 1) N := vinD 1 (by omega) hN
  have v2 : vp_in (nI i + 2) N := vinD 2 (by omega) hN
  have v3 : vp_in (nI i + 3) N := vinD 3 (by omega) hN
  refine r_aload_n C dL_law_920 rfl rfl ?_
  refine r_aload_n C dL_law_921 rfl rfl ?_
  refine r_iload C dL_law_922 rfl ?_
  refine r_iconst C (v := 1) dL_law_924 rfl ?_
  refine r_iadd C dL_law_925 ?_
  refine r_sld C X v1 dL_law_926 ?_
  refine r_aload_n C dL_law_927 rfl rfl ?_
  refine r_iload C dL_law_928 rfl ?_
  refine r_iconst C (v := 2) dL_law_930 rfl ?_
  refine r_iadd C dL_law_931 ?_
  refine r_sld C X v2 dL_law_932 ?_
  refine r_aload_n C dL_law_933 rfl rfl ?_
  obtain ⟨Po, M, K⟩ := w_playerOf (l := l) (a := (xs (nI i + 1).toNatClampNeg)) (b := (xs (nI i + 2).toNatClampNeg)) hst I hn
  refine r_cSW C M lk_L_138 rfl rfl (rmk (by decide) (by decide) (by omega) (by omega) (by decide)) dL_law_934 (fun v h1 s1 hp => ?_)
  obtain ⟨k1, rfl, b1, h3, ⟨fs6, ho6⟩, M2, I3, ⟨S3, A3, dg3, w3, e3⟩, hq⟩ := K v h1 s1 hp
  refine r_istore C dL_law_937 (by decide) ?_
  refine r_aload_n C dL_law_939 rfl rfl ?_
  refine r_aload_n C dL_law_940 rfl rfl ?_
  refine r_iload C dL_law_941 rfl ?_
  refine r_iconst C (v := 1) dL_law_943 rfl ?_
  refine r_iadd C dL_law_944 ?_
  refine r_sld C X v1 dL_law_945 ?_
  refine r_aload_n C dL_law_946 rfl rfl ?_
  refine r_iload C dL_law_947 rfl ?_
  refine r_iconst C (v := 2) dL_law_949 rfl ?_
  refine r_iadd C dL_law_950 ?_
  refine r_sld C X v2 dL_law_951 ?_
  refine r_cVi C M2 lk_L_140 rfl ho6 rfl rfl (rmk (by decide) (by decide) (by omega) (by omega) (by decide)) dL_law_952 ?_
  refine r_istore C dL_law_955 (by decide) ?_
  refine r_aload_n C dL_law_957 rfl rfl ?_
  refine r_cVi C (c_X6_thrown w3) lk_L_83 rfl (MA_o w3) rfl rfl (rmk (by decide) (by decide) (by omega) (by omega) (by decide)) dL_law_958 ?_
  refine r_iload C dL_law_961 rfl ?_
  refine r_icmp_eq C 968 dL_law_963 (by decide) (fun _ => ?_) (fun q => absurd e3 q)
  refine r_iload C dL_law_968 rfl ?_
  refine r_if_ne C 985 dL_law_970 (by decide) (fun _ => ?_) (fun q0 => ?_)
  · refine r_goto C 1434 dL_law_985 (by decide) ?_
    exact V.sub (LL_ b0 x i) ⟨rfl, rfl, rfl, rfl, rfl, trivial⟩ (V.widen (by omega) (by omega) (kk _ _ I3))
  · obtain ⟨f, hf1, hf2⟩ := hq q0
    refine r_aload_n C dL_law_973 rfl rfl ?_
    refine r_iconst C (v := 0) dL_law_974 rfl ?_
    refine r_lald C hf1 vin0 dL_law_975 ?_
    refine r_iload C dL_law_976 rfl ?_
    refine r_i2l C dL_law_978 ?_
    refine r_lcmp C dL_law_979 ?_
    refine r_if_eq C 985 dL_law_980 (by decide) (fun _ => ?_) (fun q => absurd (by rw [hf2]; exact lcmp_s _) q)
    refine r_goto C 1434 dL_law_985 (by decide) ?_
    exact V.sub (LL_ b0 x i) ⟨rfl, rfl, rfl, rfl, rfl, trivial⟩ (V.widen (by omega) (by omega) (kk _ _ I3))
set_option maxHeartbeats 1600000 in
set_option maxRecDepth 100000 in
theorem k_17 {p : Program} {l : Launch} {e : Env} {s : State} {m : MethodId} {args : Array Value} {below : List Frame} {meth : Method} {c : Code} {Q : State → Prop} {G : ga_} {nm : String} {h : HP} {sz x n k mm b0 N i : Nat} {xs : Nat → Int32} (C : Cx p l room_1 s m args meth c G RL code 9 ret nm) (X : Sx G s b0 N xs) (hst : l.stackTraces = false) (I : LI G h sz x n) (hn : n < 999000) (hi : i + 3 < N) (hN : N ≤ 2048) (hk : k + 13 ≤ 601024) (hm : mm + 400 ≤ 7293034)
    (kk : ∀ h3 s3, LI G h3 s3 x (n + 2) → V p l e room_1 s m args below meth c G 9 Q h3 s3 (k + 13) (mm + 400) 1434 (LL_ b0 x i) []) : V p l e room_1 s m args below meth c G 9 Q h sz k mm 988 (LL_ b0 x i) [] := by
  have v1 : vp_in (nI i + 1) N := vinD 1 (by omega) hN
  have v2 : vp_in (nI i + 2) N := vinD 2 (by omega) hN
  have v3 : vp_in (nI i + 3) N := vinD 3 (by omega) hN
  refine r_aload_n C dL_law_988 rfl rfl ?_
  refine r_aload_n C dL_law_989 rfl rfl ?_
  refine r_iload C dL_law_990 rfl ?_
  refine r_iconst C (v := 1) dL_law_992 rfl ?_
  refine r_iadd C dL_law_993 ?_
  refine r_sld C X v1 dL_law_994 ?_
  refine r_aload_n C dL_law_995 rfl rfl ?_
  refine r_iload C dL_law_996 rfl ?_
  refine r_iconst C (v := 2) dL_law_998 rfl ?_
  refine r_iadd C dL_law_999 ?_
  refine r_sld C X v2 dL_law_1000 ?_
  refine r_aload_n C dL_law_1001 rfl rfl ?_
  obtain ⟨Po, M, K⟩ := w_rowOf (l := l) (a := (xs (nI i + 1).toNatClampNeg)) (b := (xs (nI i + 2).toNatClampNeg)) hst I hn
  refine r_cSW C M lk_L_141 rfl rfl (rmk (by decide) (by decide) (by omega) (by omega) (by decide)) dL_law_1002 (fun v h1 s1 hp => ?_)
  obtain ⟨k1, rfl, b1, h3, ⟨fs6, ho6⟩, M2, I3, ⟨S3, A3, dg3, w3, e3⟩, hq⟩ := K v h1 s1 hp
  refine r_istore C dL_law_1005 (by decide) ?_
  refine r_aload_n C dL_law_1007 rfl rfl ?_
  refine r_aload_n C dL_law_1008 rfl rfl ?_
  refine r_iload C dL_law_1009 rfl ?_
  refine r_iconst C (v := 1) dL_law_1011 rfl ?_
  refine r_iadd C dL_law_1012 ?_
  refine r_sld C X v1 dL_law_1013 ?_
  refine r_aload_n C dL_law_1014 rfl rfl ?_
  refine r_iload C dL_law_1015 rfl ?_
  refine r_iconst C (v := 2) dL_law_1017 rfl ?_
  refine r_iadd C dL_law_1018 ?_
  refine r_sld C X v2 dL_law_1019 ?_
  refine r_cVi C M2 lk_L_143 rfl ho6 rfl rfl (rmk (by decide) (by decide) (by omega) (by omega) (by decide)) dL_law_1020 ?_
  refine r_istore C dL_law_1023 (by decide) ?_
  refine r_aload_n C dL_law_1025 rfl rfl ?_
  refine r_cVi C (c_X6_thrown w3) lk_L_83 rfl (MA_o w3) rfl rfl (rmk (by decide) (by decide) (by omega) (by omega) (by decide)) dL_law_1026 ?_
  refine r_iload C dL_law_1029 rfl ?_
  refine r_icmp_eq C 1036 dL_law_1031 (by decide) (fun _ => ?_) (fun q => absurd e3 q)
  refine r_iload C dL_law_1036 rfl ?_
  refine r_if_ne C 1053 dL_law_1038 (by decide) (fun _ => ?_) (fun q0 => ?_)
  · refine r_goto C 1434 dL_law_1053 (by decide) ?_
    exact V.sub (LL_ b0 x i) ⟨rfl, rfl, rfl, rfl, rfl, trivial⟩ (V.widen (by omega) (by omega) (kk _ _ I3))
  · obtain ⟨f, hf1, hf2⟩ := hq q0
    refine r_aload_n C dL_law_1041 rfl rfl ?_
    refine r_iconst C (v := 0) dL_law_1042 rfl ?_
    refine r_lald C hf1 vin0 dL_law_1043 ?_
    refine r_iload C dL_law_1044 rfl ?_
    refine r_i2l C dL_law_1046 ?_
    refine r_lcmp C dL_law_1047 ?_
    refine r_if_eq C 1053 dL_law_1048 (by decide) (fun _ => ?_) (fun q => absurd (by rw [hf2]; exact lcmp_s _) q)
    refine r_goto C 1434 dL_law_1053 (by decide) ?_
    exact V.sub (LL_ b0 x i) ⟨rfl, rfl, rfl, rfl, rfl, trivial⟩ (V.widen (by omega) (by omega) (kk _ _ I3))
set_option maxHeartbeats 1600000 in
set_option maxRecDepth 100000 in
theorem k_18 {p : Program} {l : Launch} {e : Env} {s : State} {m : MethodId} {args : Array Value} {below : List Frame} {meth : Method} {c : Code} {Q : State → Prop} {G : ga_} {nm : String} {h : HP} {sz x n k mm b0 N i : Nat} {xs : Nat → Int32} (C : Cx p l room_1 s m args meth c G RL code 9 ret nm) (X : Sx G s b0 N xs) (hst : l.stackTraces = false) (I : LI G h sz x n) (hn : n < 999000) (hi : i + 3 < N) (hN : N ≤ 2048) (hk : k + 13 ≤ 601024) (hm : mm + 400 ≤ 7293034)
    (kk : ∀ h3 s3, LI G h3 s3 x (n + 2) → V p l e room_1 s m args below meth c G 9 Q h3 s3 (k + 13) (mm + 400) 1434 (LL_ b0 x i) []) : V p l e room_1 s m args below meth c G 9 Q h sz k mm 1056 (LL_ b0 x i) [] := by
  have v1 : vp_in (nI i + 1) N := vinD 1 (by omega) hN
  have v2 : vp_in (nI i + 2) N := vinD 2 (by omega) hN
  have v3 : vp_in (nI i + 3) N := vinD 3 (by omega) hN
  refine r_aload_n C dL_law_1056 rfl rfl ?_
  refine r_aload_n C dL_law_1057 rfl rfl ?_
  refine r_iload C dL_law_1058 rfl ?_
  refine r_iconst C (v := 1) dL_law_1060 rfl ?_
  refine r_iadd C dL_law_1061 ?_
  refine r_sld C X v1 dL_law_1062 ?_
  refine r_aload_n C dL_law_1063 rfl rfl ?_
  obtain ⟨Po, M, K⟩ := w_count (l := l) (a := (xs (nI i + 1).toNatClampNeg)) hst I hn
  refine r_cSW C M lk_L_144 rfl rfl (rmk (by decide) (by decide) (by omega) (by omega) (by decide)) dL_law_1064 (fun v h1 s1 hp => ?_)
  obtain ⟨k1, rfl, b1, h3, ⟨fs6, ho6⟩, M2, I3, ⟨S3, A3, dg3, w3, e3⟩, hq⟩ := K v h1 s1 hp
  refine r_istore C dL_law_1067 (by decide) ?_
  refine r_aload_n C dL_law_1069 rfl rfl ?_
  refine r_aload_n C dL_law_1070 rfl rfl ?_
  refine r_iload C dL_law_1071 rfl ?_
  refine r_iconst C (v := 1) dL_law_1073 rfl ?_
  refine r_iadd C dL_law_1074 ?_
  refine r_sld C X v1 dL_law_1075 ?_
  refine r_cVi C M2 lk_L_146 rfl ho6 rfl rfl (rmk (by decide) (by decide) (by omega) (by omega) (by decide)) dL_law_1076 ?_
  refine r_istore C dL_law_1079 (by decide) ?_
  refine r_aload_n C dL_law_1081 rfl rfl ?_
  refine r_cVi C (c_X6_thrown w3) lk_L_83 rfl (MA_o w3) rfl rfl (rmk (by decide) (by decide) (by omega) (by omega) (by decide)) dL_law_1082 ?_
  refine r_iload C dL_law_1085 rfl ?_
  refine r_icmp_eq C 1092 dL_law_1087 (by decide) (fun _ => ?_) (fun q => absurd e3 q)
  refine r_iload C dL_law_1092 rfl ?_
  refine r_if_ne C 1109 dL_law_1094 (by decide) (fun _ => ?_) (fun q0 => ?_)
  · refine r_goto C 1434 dL_law_1109 (by decide) ?_
    exact V.sub (LL_ b0 x i) ⟨rfl, rfl, rfl, rfl, rfl, trivial⟩ (V.widen (by omega) (by omega) (kk _ _ I3))
  · obtain ⟨f, hf1, hf2⟩ := hq q0
    refine r_aload_n C dL_law_1097 rfl rfl ?_
    refine r_iconst C (v := 0) dL_law_1098 rfl ?_
    refine r_lald C hf1 vin0 dL_law_1099 ?_
    refine r_iload C dL_law_1100 rfl ?_
    refine r_i2l C dL_law_1102 ?_
    refine r_lcmp C dL_law_1103 ?_
    refine r_if_eq C 1109 dL_law_1104 (by decide) (fun _ => ?_) (fun q => absurd (by rw [hf2]; exact lcmp_s _) q)
    refine r_goto C 1434 dL_law_1109 (by decide) ?_
    exact V.sub (LL_ b0 x i) ⟨rfl, rfl, rfl, rfl, rfl, trivial⟩ (V.widen (by omega) (by omega) (kk _ _ I3))
set_option maxHeartbeats 1600000 in
set_option maxRecDepth 100000 in
theorem k_19 {p : Program} {l : Launch} {e : Env} {s : State} {m : MethodId} {args : Array Value} {below : List Frame} {meth : Method} {c : Code} {Q : State → Prop} {G : ga_} {nm : String} {h : HP} {sz x n k mm b0 N i : Nat} {xs : Nat → Int32} (C : Cx p l room_1 s m args meth c G RL code 9 ret nm) (X : Sx G s b0 N xs) (hst : l.stackTraces = false) (I : LI G h sz x n) (hn : n < 999000) (hi : i + 3 < N) (hN : N ≤ 2048) (hk : k + 13 ≤ 601024) (hm : mm + 400 ≤ 7293034)
    (kk : ∀ h3 s3, LI G h3 s3 x (n + 2) → V p l e room_1 s m args below meth c G 9 Q h3 s3 (k + 13) (mm + 400) 1434 (LL_ b0 x i) []) : V p l e room_1 s m args below meth c G 9 Q h sz k mm 1112 (LL_ b0 x i) [] := by
  have v1 : vp_in (nI i + 1) N := vinD 1 (by omega) hN
  have v2 : vp_in (nI i + 2) N := vinD 2 (by omega) hN
  have v3 : vp_in (nI i + 3) N := vinD 3 (by omega) hN
  refine r_aload_n C dL_law_1112 rfl rfl ?_
  obtain ⟨fs5, Po, hx5, M, K⟩ := d_setting (l := l) I hn
  refine r_callV C M lk_L_147 rfl hx5 rfl rfl (rmk (by decide) (by decide) (by omega) (by omega) (by decide)) dL_law_1113 (fun v h1 s1 hp => ?_)
  obtain ⟨r, h3, rfl, ⟨fs6, ho6⟩, M2, I3⟩ := K v h1 s1 hp
  refine r_aload_n C dL_law_1116 rfl rfl ?_
  refine r_cVi C M2 lk_L_150 rfl ho6 rfl rfl (rmk (by decide) (by decide) (by omega) (by omega) (Nat.le_of_ble_eq_true rfl)) dL_law_1117 ?_
  refine r_icmp_eq C 1434 dL_law_1120 (by decide) (fun _ => ?_) (fun q => absurd rfl q)
  exact V.sub (LL_ b0 x i) ⟨rfl, rfl, rfl, rfl, rfl, trivial⟩ (V.widen (by omega) (by omega) (kk _ _ I3))
set_option maxHeartbeats 1600000 in
set_option maxRecDepth 100000 in
theorem k_20 {p : Program} {l : Launch} {e : Env} {s : State} {m : MethodId} {args : Array Value} {below : List Frame} {meth : Method} {c : Code} {Q : State → Prop} {G : ga_} {nm : String} {h : HP} {sz x n k mm b0 N i : Nat} {xs : Nat → Int32} (C : Cx p l room_1 s m args meth c G RL code 9 ret nm) (X : Sx G s b0 N xs) (hst : l.stackTraces = false) (I : LI G h sz x n) (hn : n < 999000) (hi : i + 3 < N) (hN : N ≤ 2048) (hk : k + 13 ≤ 601024) (hm : mm + 400 ≤ 7293034)
    (kk : ∀ h3 s3, LI G h3 s3 x (n + 2) → V p l e room_1 s m args below meth c G 9 Q h3 s3 (k + 13) (mm + 400) 1434 (LL_ b0 x i) []) : V p l e room_1 s m args below meth c G 9 Q h sz k mm 1125 (LL_ b0 x i) [] := by
  have v1 : vp_in (nI i + 1) N := vinD 1 (by omega) hN
  have v2 : vp_in (nI i + 2) N := vinD 2 (by omega) hN
  have v3 : vp_in (nI i + 3) N := vinD 3 (by omega) hN
  refine r_aload_n C dL_law_1125 rfl rfl ?_
  refine r_aload_n C dL_law_1126 rfl rfl ?_
  refine r_iload C dL_law_1127 rfl ?_
  refine r_iconst C (v := 1) dL_law_1129 rfl ?_
  refine r_iadd C dL_law_1130 ?_
  refine r_sld C X v1 dL_law_1131 ?_
  refine r_aload_n C dL_law_1132 rfl rfl ?_
  refine r_iload C dL_law_1133 rfl ?_
  refine r_iconst C (v := 2) dL_law_1135 rfl ?_
  refine r_iadd C dL_law_1136 ?_
  refine r_sld C X v2 dL_law_1137 ?_
  refine r_aload_n C dL_law_1138 rfl rfl ?_
  refine r_iload C dL_law_1139 rfl ?_
  refine r_iconst C (v := 3) dL_law_1141 rfl ?_
  refine r_iadd C dL_law_1142 ?_
  refine r_sld C X v3 dL_law_1143 ?_
  refine r_aload_n C dL_law_1144 rfl rfl ?_
  obtain ⟨Po, M, K⟩ := w_whyNot (l := l) (a := (xs (nI i + 1).toNatClampNeg)) (b := (xs (nI i + 2).toNatClampNeg)) (d := (xs (nI i + 3).toNatClampNeg)) hst I hn
  refine r_cSW C M lk_L_151 rfl rfl (rmk (by decide) (by decide) (by omega) (by omega) (by decide)) dL_law_1145 (fun v h1 s1 hp => ?_)
  obtain ⟨k1, rfl, b1, h3, ⟨fs6, ho6⟩, M2, I3, ⟨S3, A3, dg3, w3, e3⟩, hq⟩ := K v h1 s1 hp
  refine r_istore C dL_law_1148 (by decide) ?_
  refine r_aload_n C dL_law_1150 rfl rfl ?_
  refine r_aload_n C dL_law_1151 rfl rfl ?_
  refine r_iload C dL_law_1152 rfl ?_
  refine r_iconst C (v := 1) dL_law_1154 rfl ?_
  refine r_iadd C dL_law_1155 ?_
  refine r_sld C X v1 dL_law_1156 ?_
  refine r_aload_n C dL_law_1157 rfl rfl ?_
  refine r_iload C dL_law_1158 rfl ?_
  refine r_iconst C (v := 2) dL_law_1160 rfl ?_
  refine r_iadd C dL_law_1161 ?_
  refine r_sld C X v2 dL_law_1162 ?_
  refine r_aload_n C dL_law_1163 rfl rfl ?_
  refine r_iload C dL_law_1164 rfl ?_
  refine r_iconst C (v := 3) dL_law_1166 rfl ?_
  refine r_iadd C dL_law_1167 ?_
  refine r_sld C X v3 dL_law_1168 ?_
  refine r_cVi C M2 lk_L_153 rfl ho6 rfl rfl (rmk (by decide) (by decide) (by omega) (by omega) (by decide)) dL_law_1169 ?_
  refine r_istore C dL_law_1172 (by decide) ?_
  refine r_aload_n C dL_law_1174 rfl rfl ?_
  refine r_cVi C (c_X6_thrown w3) lk_L_83 rfl (MA_o w3) rfl rfl (rmk (by decide) (by decide) (by omega) (by omega) (by decide)) dL_law_1175 ?_
  refine r_iload C dL_law_1178 rfl ?_
  refine r_icmp_eq C 1185 dL_law_1180 (by decide) (fun _ => ?_) (fun q => absurd e3 q)
  refine r_iload C dL_law_1185 rfl ?_
  refine r_if_ne C 1202 dL_law_1187 (by decide) (fun _ => ?_) (fun q0 => ?_)
  · refine r_goto C 1434 dL_law_1202 (by decide) ?_
    exact V.sub (LL_ b0 x i) ⟨rfl, rfl, rfl, rfl, rfl, trivial⟩ (V.widen (by omega) (by omega) (kk _ _ I3))
  · obtain ⟨f, hf1, hf2⟩ := hq q0
    refine r_aload_n C dL_law_1190 rfl rfl ?_
    refine r_iconst C (v := 0) dL_law_1191 rfl ?_
    refine r_lald C hf1 vin0 dL_law_1192 ?_
    refine r_iload C dL_law_1193 rfl ?_
    refine r_i2l C dL_law_1195 ?_
    refine r_lcmp C dL_law_1196 ?_
    refine r_if_eq C 1202 dL_law_1197 (by decide) (fun _ => ?_) (fun q => absurd (by rw [hf2]; exact lcmp_s _) q)
    refine r_goto C 1434 dL_law_1202 (by decide) ?_
    exact V.sub (LL_ b0 x i) ⟨rfl, rfl, rfl, rfl, rfl, trivial⟩ (V.widen (by omega) (by omega) (kk _ _ I3))
set_option maxHeartbeats 1600000 in
set_option maxRecDepth 100000 in
theorem k_21 {p : Program} {l : Launch} {e : Env} {s : State} {m : MethodId} {args : Array Value} {below : List Frame} {meth : Method} {c : Code} {Q : State → Prop} {G : ga_} {nm : String} {h : HP} {sz x n k mm b0 N i : Nat} {xs : Nat → Int32} (C : Cx p l room_1 s m args meth c G RL code 9 ret nm) (X : Sx G s b0 N xs) (hst : l.stackTraces = false) (I : LI G h sz x n) (hn : n < 999000) (hi : i + 3 < N) (hN : N ≤ 2048) (hk : k + 13 ≤ 601024) (hm : mm + 400 ≤ 7293034)
    (kk : ∀ h3 s3, LI G h3 s3 x (n + 2) → V p l e room_1 s m args below meth c G 9 Q h3 s3 (k + 13) (mm + 400) 1434 (LL_ b0 x i) []) : V p l e room_1 s m args below meth c G 9 Q h sz k mm 1205 (LL_ b0 x i) [] := by
  have v1 : vp_in (nI i + 1) N := vinD 1 (by omega) hN
  have v2 : vp_in (nI i + 2) N := vinD 2 (by omega) hN
  have v3 : vp_in (nI i + 3) N := vinD 3 (by omega) hN
  refine r_aload_n C dL_law_1205 rfl rfl ?_
  refine r_aload_n C dL_law_1206 rfl rfl ?_
  refine r_iload C dL_law_1207 rfl ?_
  refine r_iconst C (v := 1) dL_law_1209 rfl ?_
  refine r_iadd C dL_law_1210 ?_
  refine r_sld C X v1 dL_law_1211 ?_
  refine r_aload_n C dL_law_1212 rfl rfl ?_
  refine r_iload C dL_law_1213 rfl ?_
  refine r_iconst C (v := 2) dL_law_1215 rfl ?_
  refine r_iadd C dL_law_1216 ?_
  refine r_sld C X v2 dL_law_1217 ?_
  refine r_aload_n C dL_law_1218 rfl rfl ?_
  obtain ⟨Po, M, K⟩ := w_longest (l := l) (a := (xs (nI i + 1).toNatClampNeg)) (b := (xs (nI i + 2).toNatClampNeg)) hst I hn
  refine r_cSW C M lk_L_154 rfl rfl (rmk (by decide) (by decide) (by omega) (by omega) (by decide)) dL_law_1219 (fun v h1 s1 hp => ?_)
  obtain ⟨k1, rfl, b1, h3, ⟨fs6, ho6⟩, M2, I3, ⟨S3, A3, dg3, w3, e3⟩, hq⟩ := K v h1 s1 hp
  refine r_istore C dL_law_1222 (by decide) ?_
  refine r_aload_n C dL_law_1224 rfl rfl ?_
  refine r_aload_n C dL_law_1225 rfl rfl ?_
  refine r_iload C dL_law_1226 rfl ?_
  refine r_iconst C (v := 1) dL_law_1228 rfl ?_
  refine r_iadd C dL_law_1229 ?_
  refine r_sld C X v1 dL_law_1230 ?_
  refine r_aload_n C dL_law_1231 rfl rfl ?_
  refine r_iload C dL_law_1232 rfl ?_
  refine r_iconst C (v := 2) dL_law_1234 rfl ?_
  refine r_iadd C dL_law_1235 ?_
  refine r_sld C X v2 dL_law_1236 ?_
  refine r_cVi C M2 lk_L_156 rfl ho6 rfl rfl (rmk (by decide) (by decide) (by omega) (by omega) (by decide)) dL_law_1237 ?_
  refine r_istore C dL_law_1240 (by decide) ?_
  refine r_aload_n C dL_law_1242 rfl rfl ?_
  refine r_cVi C (c_X6_thrown w3) lk_L_83 rfl (MA_o w3) rfl rfl (rmk (by decide) (by decide) (by omega) (by omega) (by decide)) dL_law_1243 ?_
  refine r_iload C dL_law_1246 rfl ?_
  refine r_icmp_eq C 1253 dL_law_1248 (by decide) (fun _ => ?_) (fun q => absurd e3 q)
  refine r_iload C dL_law_1253 rfl ?_
  refine r_if_ne C 1270 dL_law_1255 (by decide) (fun _ => ?_) (fun q0 => ?_)
  · refine r_goto C 1434 dL_law_1270 (by decide) ?_
    exact V.sub (LL_ b0 x i) ⟨rfl, rfl, rfl, rfl, rfl, trivial⟩ (V.widen (by omega) (by omega) (kk _ _ I3))
  · obtain ⟨f, hf1, hf2⟩ := hq q0
    refine r_aload_n C dL_law_1258 rfl rfl ?_
    refine r_iconst C (v := 0) dL_law_1259 rfl ?_
    refine r_lald C hf1 vin0 dL_law_1260 ?_
    refine r_iload C dL_law_1261 rfl ?_
    refine r_i2l C dL_law_1263 ?_
    refine r_lcmp C dL_law_1264 ?_
    refine r_if_eq C 1270 dL_law_1265 (by decide) (fun _ => ?_) (fun q => absurd (by rw [hf2]; exact lcmp_s _) q)
    refine r_goto C 1434 dL_law_1270 (by decide) ?_
    exact V.sub (LL_ b0 x i) ⟨rfl, rfl, rfl, rfl, rfl, trivial⟩ (V.widen (by omega) (by omega) (kk _ _ I3))
set_option maxHeartbeats 1600000 in
set_option maxRecDepth 100000 in
theorem k_22 {p : Program} {l : Launch} {e : Env} {s : State} {m : MethodId} {args : Array Value} {below : List Frame} {meth : Method} {c : Code} {Q : State → Prop} {G : ga_} {nm : String} {h : HP} {sz x n k mm b0 N i : Nat} {xs : Nat → Int32} (C : Cx p l room_1 s m args meth c G RL code 9 ret nm) (X : Sx G s b0 N xs) (hst : l.stackTraces = false) (I : LI G h sz x n) (hn : n < 999000) (hi : i + 3 < N) (hN : N ≤ 2048) (hk : k + 13 ≤ 601024) (hm : mm + 400 ≤ 7293034)
    (kk : ∀ h3 s3, LI G h3 s3 x (n + 2) → V p l e room_1 s m args below meth c G 9 Q h3 s3 (k + 13) (mm + 400) 1434 (LL_ b0 x i) []) : V p l e room_1 s m args below meth c G 9 Q h sz k mm 1273 (LL_ b0 x i) [] := by
  have v1 : vp_in (nI i + 1) N := vinD 1 (by omega) hN
  have v2 : vp_in (nI i + 2) N := vinD 2 (by omega) hN
  have v3 : vp_in (nI i + 3) N := vinD 3 (by omega) hN
  refine r_aload_n C dL_law_1273 rfl rfl ?_
  refine r_aload_n C dL_law_1274 rfl rfl ?_
  refine r_iload C dL_law_1275 rfl ?_
  refine r_iconst C (v := 1) dL_law_1277 rfl ?_
  refine r_iadd C dL_law_1278 ?_
  refine r_sld C X v1 dL_law_1279 ?_
  refine r_aload_n C dL_law_1280 rfl rfl ?_
  refine r_iload C dL_law_1281 rfl ?_
  refine r_iconst C (v := 2) dL_law_1283 rfl ?_
  refine r_iadd C dL_law_1284 ?_
  refine r_sld C X v2 dL_law_1285 ?_
  refine r_aload_n C dL_law_1286 rfl rfl ?_
  refine r_iload C dL_law_1287 rfl ?_
  refine r_iconst C (v := 3) dL_law_1289 rfl ?_
  refine r_iadd C dL_law_1290 ?_
  refine r_sld C X v3 dL_law_1291 ?_
  refine r_aload_n C dL_law_1292 rfl rfl ?_
  obtain ⟨Po, M, K⟩ := w_whole (l := l) (a := (xs (nI i + 1).toNatClampNeg)) (b := (xs (nI i + 2).toNatClampNeg)) (d := (xs (nI i + 3).toNatClampNeg)) hst I hn
  refine r_cSW C M lk_L_157 rfl rfl (rmk (by decide) (by decide) (by omega) (by omega) (by decide)) dL_law_1293 (fun v h1 s1 hp => ?_)
  obtain ⟨k1, rfl, b1, h3, ⟨fs6, ho6⟩, M2, I3, ⟨S3, A3, dg3, w3, e3⟩, hq⟩ := K v h1 s1 hp
  refine r_istore C dL_law_1296 (by decide) ?_
  refine r_aload_n C dL_law_1298 rfl rfl ?_
  refine r_aload_n C dL_law_1299 rfl rfl ?_
  refine r_iload C dL_law_1300 rfl ?_
  refine r_iconst C (v := 1) dL_law_1302 rfl ?_
  refine r_iadd C dL_law_1303 ?_
  refine r_sld C X v1 dL_law_1304 ?_
  refine r_aload_n C dL_law_1305 rfl rfl ?_
  refine r_iload C dL_law_1306 rfl ?_
  refine r_iconst C (v := 2) dL_law_1308 rfl ?_
  refine r_iadd C dL_law_1309 ?_
  refine r_sld C X v2 dL_law_1310 ?_
  refine r_aload_n C dL_law_1311 rfl rfl ?_
  refine r_iload C dL_law_1312 rfl ?_
  refine r_iconst C (v := 3) dL_law_1314 rfl ?_
  refine r_iadd C dL_law_1315 ?_
  refine r_sld C X v3 dL_law_1316 ?_
  refine r_cVi C M2 lk_L_159 rfl ho6 rfl rfl (rmk (by decide) (by decide) (by omega) (by omega) (by decide)) dL_law_1317 ?_
  refine r_istore C dL_law_1320 (by decide) ?_
  refine r_aload_n C dL_law_1322 rfl rfl ?_
  refine r_cVi C (c_X6_thrown w3) lk_L_83 rfl (MA_o w3) rfl rfl (rmk (by decide) (by decide) (by omega) (by omega) (by decide)) dL_law_1323 ?_
  refine r_iload C dL_law_1326 rfl ?_
  refine r_icmp_eq C 1333 dL_law_1328 (by decide) (fun _ => ?_) (fun q => absurd e3 q)
  refine r_iload C dL_law_1333 rfl ?_
  refine r_if_ne C 1350 dL_law_1335 (by decide) (fun _ => ?_) (fun q0 => ?_)
  · refine r_goto C 1434 dL_law_1350 (by decide) ?_
    exact V.sub (LL_ b0 x i) ⟨rfl, rfl, rfl, rfl, rfl, trivial⟩ (V.widen (by omega) (by omega) (kk _ _ I3))
  · obtain ⟨f, hf1, hf2⟩ := hq q0
    refine r_aload_n C dL_law_1338 rfl rfl ?_
    refine r_iconst C (v := 0) dL_law_1339 rfl ?_
    refine r_lald C hf1 vin0 dL_law_1340 ?_
    refine r_iload C dL_law_1341 rfl ?_
    refine r_i2l C dL_law_1343 ?_
    refine r_lcmp C dL_law_1344 ?_
    refine r_if_eq C 1350 dL_law_1345 (by decide) (fun _ => ?_) (fun q => absurd (by rw [hf2]; exact lcmp_s _) q)
    refine r_goto C 1434 dL_law_1350 (by decide) ?_
    exact V.sub (LL_ b0 x i) ⟨rfl, rfl, rfl, rfl, rfl, trivial⟩ (V.widen (by omega) (by omega) (kk _ _ I3))
set_option maxHeartbeats 1600000 in
set_option maxRecDepth 100000 in
theorem k_23 {p : Program} {l : Launch} {e : Env} {s : State} {m : MethodId} {args : Array Value} {below : List Frame} {meth : Method} {c : Code} {Q : State → Prop} {G : ga_} {nm : String} {h : HP} {sz x n k mm b0 N i : Nat} {xs : Nat → Int32} (C : Cx p l room_1 s m args meth c G RL code 9 ret nm) (X : Sx G s b0 N xs) (hst : l.stackTraces = false) (I : LI G h sz x n) (hn : n < 999000) (hi : i + 3 < N) (hN : N ≤ 2048) (hk : k + 13 ≤ 601024) (hm : mm + 400 ≤ 7293034)
    (kk : ∀ h3 s3, LI G h3 s3 x (n + 2) → V p l e room_1 s m args below meth c G 9 Q h3 s3 (k + 13) (mm + 400) 1434 (LL_ b0 x i) []) : V p l e room_1 s m args below meth c G 9 Q h sz k mm 1353 (LL_ b0 x i) [] := by
  have v1 : vp_in (nI i + 1) N := vinD 1 (by omega) hN
  have v2 : vp_in (nI i + 2) N := vinD 2 (by omega) hN
  have v3 : vp_in (nI i + 3) N := vinD 3 (by omega) hN
  refine r_aload_n C dL_law_1353 rfl rfl ?_
  obtain ⟨fs5, Po, hx5, M, K⟩ := d_advice (l := l) I hn
  refine r_callV C M lk_L_160 rfl hx5 rfl rfl (rmk (by decide) (by decide) (by omega) (by omega) (by decide)) dL_law_1354 (fun v h1 s1 hp => ?_)
  obtain ⟨r, h3, rfl, ⟨fs6, ho6⟩, M2, I3⟩ := K v h1 s1 hp
  refine r_aload_n C dL_law_1357 rfl rfl ?_
  refine r_cVi C M2 lk_L_163 rfl ho6 rfl rfl (rmk (by decide) (by decide) (by omega) (by omega) (Nat.le_of_ble_eq_true rfl)) dL_law_1358 ?_
  refine r_icmp_eq C 1434 dL_law_1361 (by decide) (fun _ => ?_) (fun q => absurd rfl q)
  exact V.sub (LL_ b0 x i) ⟨rfl, rfl, rfl, rfl, rfl, trivial⟩ (V.widen (by omega) (by omega) (kk _ _ I3))
set_option maxHeartbeats 1600000 in
set_option maxRecDepth 100000 in
theorem k_24 {p : Program} {l : Launch} {e : Env} {s : State} {m : MethodId} {args : Array Value} {below : List Frame} {meth : Method} {c : Code} {Q : State → Prop} {G : ga_} {nm : String} {h : HP} {sz x n k mm b0 N i : Nat} {xs : Nat → Int32} (C : Cx p l room_1 s m args meth c G RL code 9 ret nm) (X : Sx G s b0 N xs) (hst : l.stackTraces = false) (I : LI G h sz x n) (hn : n < 999000) (hi : i + 3 < N) (hN : N ≤ 2048) (hk : k + 13 ≤ 601024) (hm : mm + 400 ≤ 7293034)
    (kk : ∀ h3 s3, LI G h3 s3 x (n + 2) → V p l e room_1 s m args below meth c G 9 Q h3 s3 (k + 13) (mm + 400) 1434 (LL_ b0 x i) []) : V p l e room_1 s m args below meth c G 9 Q h sz k mm 1366 (LL_ b0 x i) [] := by
  have v1 : vp_in (nI i + 1) N := vinD 1 (by omega) hN
  have v2 : vp_in (nI i + 2) N := vinD 2 (by omega) hN
  have v3 : vp_in (nI i + 3) N := vinD 3 (by omega) hN
  refine r_aload_n C dL_law_1366 rfl rfl ?_
  obtain ⟨fs5, Po, hx5, M, K⟩ := d_commonest (l := l) I hn
  refine r_callV C M lk_L_164 rfl hx5 rfl rfl (rmk (by decide) (by decide) (by omega) (by omega) (by decide)) dL_law_1367 (fun v h1 s1 hp => ?_)
  obtain ⟨r, h3, rfl, ⟨fs6, ho6⟩, M2, I3⟩ := K v h1 s1 hp
  refine r_aload_n C dL_law_1370 rfl rfl ?_
  refine r_cVi C M2 lk_L_167 rfl ho6 rfl rfl (rmk (by decide) (by decide) (by omega) (by omega) (Nat.le_of_ble_eq_true rfl)) dL_law_1371 ?_
  refine r_icmp_eq C 1434 dL_law_1374 (by decide) (fun _ => ?_) (fun q => absurd rfl q)
  exact V.sub (LL_ b0 x i) ⟨rfl, rfl, rfl, rfl, rfl, trivial⟩ (V.widen (by omega) (by omega) (kk _ _ I3))
set_option maxHeartbeats 1600000 in
set_option maxRecDepth 100000 in
theorem k_25 {p : Program} {l : Launch} {e : Env} {s : State} {m : MethodId} {args : Array Value} {below : List Frame} {meth : Method} {c : Code} {Q : State → Prop} {G : ga_} {nm : String} {h : HP} {sz x n k mm b0 N i : Nat} {xs : Nat → Int32} (C : Cx p l room_1 s m args meth c G RL code 9 ret nm) (X : Sx G s b0 N xs) (hst : l.stackTraces = false) (I : LI G h sz x n) (hn : n < 999000) (hi : i + 3 < N) (hN : N ≤ 2048) (hk : k + 13 ≤ 601024) (hm : mm + 400 ≤ 7293034)
    (kk : ∀ h3 s3, LI G h3 s3 x (n + 2) → V p l e room_1 s m args below meth c G 9 Q h3 s3 (k + 13) (mm + 400) 1434 (LL_ b0 x i) []) : V p l e room_1 s m args below meth c G 9 Q h sz k mm 1379 (LL_ b0 x i) [] := by
  have v1 : vp_in (nI i + 1) N := vinD 1 (by omega) hN
  have v2 : vp_in (nI i + 2) N := vinD 2 (by omega) hN
  have v3 : vp_in (nI i + 3) N := vinD 3 (by omega) hN
  refine r_aload_n C dL_law_1379 rfl rfl ?_
  obtain ⟨fs5, Po, hx5, M, K⟩ := d_rustShare (l := l) I hn
  refine r_callV C M lk_L_168 rfl hx5 rfl rfl (rmk (by decide) (by decide) (by omega) (by omega) (by decide)) dL_law_1380 (fun v h1 s1 hp => ?_)
  obtain ⟨r, h3, rfl, ⟨fs6, ho6⟩, M2, I3⟩ := K v h1 s1 hp
  refine r_dstore C dL_law_1383 (by decide) ?_
  refine r_aload_n C dL_law_1385 rfl rfl ?_
  refine r_cVd C M2 lk_L_172 rfl ho6 rfl rfl (rmk (by decide) (by decide) (by omega) (by omega) (Nat.le_of_ble_eq_true rfl)) dL_law_1386 ?_
  refine r_dstore C dL_law_1389 (by decide) ?_
  refine r_dload C dL_law_1391 rfl ?_
  refine r_dload C dL_law_1393 rfl ?_
  refine r_dcmp C dL_law_1395 ?_
  refine r_if_eq C 1417 dL_law_1396 (by decide) (fun _ => ?_) (fun q1 => ?_)
  · refine r_goto C 1434 dL_law_1417 (by decide) ?_
    exact V.sub (LL_ b0 x i) ⟨rfl, rfl, rfl, rfl, rfl, trivial⟩ (V.widen (by omega) (by omega) (kk _ _ I3))
  · refine r_dload C dL_law_1399 rfl ?_
    refine r_dload C dL_law_1401 rfl ?_
    refine r_dcmp C dL_law_1403 ?_
    refine r_if_eq C 1415 dL_law_1404 (by decide) (fun q2 => absurd q2 q1) (fun _ => ?_)
    refine r_dload C dL_law_1407 rfl ?_
    refine r_dload C dL_law_1409 rfl ?_
    refine r_dcmp C dL_law_1411 ?_
    refine r_if_ne C 1417 dL_law_1412 (by decide) (fun _ => ?_) (fun q2 => absurd q2 q1)
    refine r_goto C 1434 dL_law_1417 (by decide) ?_
    exact V.sub (LL_ b0 x i) ⟨rfl, rfl, rfl, rfl, rfl, trivial⟩ (V.widen (by omega) (by omega) (kk _ _ I3))
set_option maxHeartbeats 1600000 in
set_option maxRecDepth 100000 in
theorem k_26 {p : Program} {l : Launch} {e : Env} {s : State} {m : MethodId} {args : Array Value} {below : List Frame} {meth : Method} {c : Code} {Q : State → Prop} {G : ga_} {nm : String} {h : HP} {sz x n k mm b0 N i : Nat} {xs : Nat → Int32} (C : Cx p l room_1 s m args meth c G RL code 9 ret nm) (X : Sx G s b0 N xs) (hst : l.stackTraces = false) (I : LI G h sz x n) (hn : n < 999000) (hi : i + 3 < N) (hN : N ≤ 2048) (hk : k + 13 ≤ 601024) (hm : mm + 400 ≤ 7293034)
    (kk : ∀ h3 s3, LI G h3 s3 x (n + 2) → V p l e room_1 s m args below meth c G 9 Q h3 s3 (k + 13) (mm + 400) 1434 (LL_ b0 x i) []) : V p l e room_1 s m args below meth c G 9 Q h sz k mm 1420 (LL_ b0 x i) [] := by
  have v1 : vp_in (nI i + 1) N := vinD 1 (by omega) hN
  have v2 : vp_in (nI i + 2) N := vinD 2 (by omega) hN
  have v3 : vp_in (nI i + 3) N := vinD 3 (by omega) hN
  refine r_aload_n C dL_law_1420 rfl rfl ?_
  obtain ⟨fs5, Po, hx5, M, K⟩ := d_digest (l := l) I hn
  refine r_callV C M lk_L_173 rfl hx5 rfl rfl (rmk (by decide) (by decide) (by omega) (by omega) (by decide)) dL_law_1421 (fun v h1 s1 hp => ?_)
  obtain ⟨r, h3, rfl, ⟨fs6, ho6⟩, M2, I3⟩ := K v h1 s1 hp
  refine r_aload_n C dL_law_1424 rfl rfl ?_
  refine r_cVl C M2 lk_L_177 rfl ho6 rfl rfl (rmk (by decide) (by decide) (by omega) (by omega) (Nat.le_of_ble_eq_true rfl)) dL_law_1425 ?_
  refine r_lcmp C dL_law_1428 ?_
  refine r_if_eq C 1434 dL_law_1429 (by decide) (fun _ => ?_) (fun q => absurd (lcmp_s _) q)
  exact V.sub (LL_ b0 x i) ⟨rfl, rfl, rfl, rfl, rfl, trivial⟩ (V.widen (by omega) (by omega) (kk _ _ I3))
