/-! the law: its cases, 1 -/
section
variable {G : zG} {a b L i nx : Nat} {xs : Nat → Int32} {σ : zH} {x5 x6 x7 x8 : Option Value}
set_option maxRecDepth 100000 in
set_option maxHeartbeats 1000000 in
theorem law_0 (hG : zKap G) (hL : L ≤ 2048) (hi : 4 * i + 4 ≤ L) (hI : zLI G σ nx b i) (kk : zKont G a b L xs i) : zWP G kL_law (zSc a L xs (zLF a)) 196 (zLls a b i x5 x6 x7 x8) [] σ nx (400 + 28 * i) (60000 + 2800 * i) := by
  obtain ⟨⟨nt, lim, mem, wk, slow, r, L1, A, tk, sp, cs⟩, un, S, f, hT, hmd, hM, ok, hun, ho, hnx⟩ := hI
  refine z_aload_n dL_law_196 rfl ?_
  refine z_aload_n dL_law_197 rfl ?_
  refine z_iload dL_law_198 rfl ?_
  refine z_iconst (v := 1) dL_law_200 (by decide) ?_
  refine z_iadd dL_law_201 ?_
  rw [zadd1]
  refine z_sldn (by omega) hL dL_law_202 ?_
  refine z_aload_n dL_law_203 rfl ?_
  refine z_callH dL_law_204 ch_L_117 (w_source (b := b) (hi := b + 109) (o := b + 108) hG hnx ok hT ho (by omega) (by omega)) rfl rfl ⟨(Nat.le_of_ble_eq_true rfl), (Nat.le_of_ble_eq_true rfl)⟩ (by show 400 + 28 * i + 25 ≤ 601024; omega) (by show 60000 + 2800 * i + 2790 ≤ 7293034; omega) (Nat.le_of_ble_eq_true rfl) (fun v s1 n1 hx1 hq1 => ?_)
  have hmd1 := hq1.md hmd
  obtain ⟨rfl, q1, q2, -⟩ := hq1
  have hm := m_source (G := G) (b := b) (m := b + 74) (x := (xs (4 * i + 1))) (S := S) (un := un) (by omega) ok hM
  have hok := fun (σ9 : zH) (u9 : zUv) (w9 : Int32) => o_source (G := G) (σ := σ9) (b := b) (hi := b + 109) (u' := u9) (w := w9) (x := (xs (4 * i + 1))) ok
  have hcl : (zk_source nt.length (xs (4 * i + 1))) < 2 ^ 31 := by unfold zk_source; repeat (first | split | decide)
  generalize (zk_source nt.length (xs (4 * i + 1))) = c at q1 q2 hm hok hcl ⊢
  generalize hP : (zPn nt lim mem wk slow r L1 A tk sp cs 0 (upd (upd (zD0 (-1) (-1) 12 (xs (4 * i + 1))) 6 (xs (4 * i + 1))) 12 (zLW nt b (-1) (-1)))) = P at q1 hm hok
  clear hP
  refine z_istore dL_law_207 (by decide) ?_
  refine z_aload_n dL_law_209 rfl ?_
  refine z_aload_n dL_law_210 rfl ?_
  refine z_iload dL_law_211 rfl ?_
  refine z_iconst (v := 1) dL_law_213 (by decide) ?_
  refine z_iadd dL_law_214 ?_
  rw [zadd1]
  refine z_sldn (by omega) hL dL_law_215 ?_
  refine z_callV dL_law_216 cv_L_122 (hm s1 n1 hmd1) rfl hmd1.1 rfl rfl ⟨(Nat.le_of_ble_eq_true rfl), (Nat.le_of_ble_eq_true rfl)⟩ (by show 400 + 28 * i + 25 + 0 ≤ 601024; omega) (by show 60000 + 2800 * i + 2790 + 0 ≤ 7293034; omega) (Nat.le_of_ble_eq_true rfl) (fun v s2 n2 hx2 hq2 => ?_)
  obtain ⟨rfl, f2, S2, hmd2, ⟨w2, rfl⟩, ht, hb1, hb2⟩ := hq2
  refine z_istore dL_law_219 (by decide) ?_
  refine z_aload_n dL_law_221 rfl ?_
  refine z_callV dL_law_222 cv_L_123 (c_thrown s2 _ hmd2) rfl hmd2.1 rfl rfl ⟨(Nat.le_of_ble_eq_true rfl), (Nat.le_of_ble_eq_true rfl)⟩ (by show 400 + 28 * i + 25 + 0 + 0 ≤ 601024; omega) (by show 60000 + 2800 * i + 2790 + 0 + 0 ≤ 7293034; omega) (Nat.le_of_ble_eq_true rfl) (fun v s3 n3 hx3 hq3 => ?_)
  obtain ⟨rfl, f3, S3, hmd3, rfl, rfl⟩ := hq3
  have fr : zFr s1 s3 (b + 74) 34 := fun x q => (f3 x q).trans (f2 x q)
  refine z_iload dL_law_225 rfl ?_
  refine z_icmp_eq (tgt := 232) dL_law_227 (by decide) (fun _ => ?_) (fun q => absurd (ht) q)
  refine z_iload dL_law_232 rfl ?_
  by_cases c0 : c = 0
  · obtain ⟨u', w, hP, hT2, f4, hf4, hf0⟩ := q1 c0
    obtain ⟨hw, hun2⟩ := hb1 c0 u' w hP
    have ok2 := hok _ _ _ c0 hP hT2
    cases hw
    refine z_if_ne (tgt := 249) dL_law_234 (by decide) (fun q => absurd ((show nI c = 0 by rw [c0]; rfl)) q) (fun _ => ?_)
    refine z_aload_n dL_law_237 rfl ?_
    refine z_iconst (v := 0) dL_law_238 (by decide) ?_
    refine z_lald dL_law_239 ((fr _ (by omega)).trans hf4) zin01 ?_
    rw [show (0 : Int32).toNatClampNeg = 0 by decide, hf0]
    refine z_iload dL_law_240 rfl ?_
    refine z_i2l dL_law_242 ?_
    refine z_lcmp dL_law_243 (zcmp_self _) ?_
    refine z_if_eq (tgt := 249) dL_law_244 (by decide) (fun _ => ?_) (fun q => absurd (rfl) q)
    refine z_goto (tgt := 2299) dL_law_249 (by decide) ?_
    refine z_widen (ca' := 400 + 28 * (i + 1)) (sl' := 60000 + 2800 * (i + 1)) (by show 400 + 28 * i + 25 + 0 + 0 ≤ _; omega) (by show 60000 + 2800 * i + 2790 + 0 + 0 ≤ _; omega) ?_
    exact kk _ _ _ _ _ _ (zLI_ok (hT2.frm fr) hmd3 hun2 ok2 hun ((fr _ (by omega)).trans hf4) (by omega))
  · obtain ⟨hT2, f4, hf4⟩ := q2 c0
    have hM2 := hb2 c0
    refine z_if_ne (tgt := 249) dL_law_234 (by decide) (fun _ => ?_) (fun q => absurd q ((fun w => c0 ((nI_eq (a := c) (b := 0) hcl (by decide)).mp w))))
    refine z_goto (tgt := 2299) dL_law_249 (by decide) ?_
    refine z_widen (ca' := 400 + 28 * (i + 1)) (sl' := 60000 + 2800 * (i + 1)) (by show 400 + 28 * i + 25 + 0 + 0 ≤ _; omega) (by show 60000 + 2800 * i + 2790 + 0 + 0 ≤ _; omega) ?_
    exact kk _ _ _ _ _ _ (zLI_ok (hT2.frm fr) hmd3 ⟨un, by omega, hM2⟩ ok hun ((fr _ (by omega)).trans hf4) (by omega))
set_option maxRecDepth 100000 in
set_option maxHeartbeats 1000000 in
theorem law_1 (hG : zKap G) (hL : L ≤ 2048) (hi : 4 * i + 4 ≤ L) (hI : zLI G σ nx b i) (kk : zKont G a b L xs i) : zWP G kL_law (zSc a L xs (zLF a)) 252 (zLls a b i x5 x6 x7 x8) [] σ nx (400 + 28 * i) (60000 + 2800 * i) := by
  obtain ⟨⟨nt, lim, mem, wk, slow, r, L1, A, tk, sp, cs⟩, un, S, f, hT, hmd, hM, ok, hun, ho, hnx⟩ := hI
  refine z_aload_n dL_law_252 rfl ?_
  refine z_aload_n dL_law_253 rfl ?_
  refine z_iload dL_law_254 rfl ?_
  refine z_iconst (v := 1) dL_law_256 (by decide) ?_
  refine z_iadd dL_law_257 ?_
  rw [zadd1]
  refine z_sldn (by omega) hL dL_law_258 ?_
  refine z_aload_n dL_law_259 rfl ?_
  refine z_iload dL_law_260 rfl ?_
  refine z_iconst (v := 2) dL_law_262 (by decide) ?_
  refine z_iadd dL_law_263 ?_
  rw [zadd2]
  refine z_sldn (by omega) hL dL_law_264 ?_
  refine z_aload_n dL_law_265 rfl ?_
  refine z_iload dL_law_266 rfl ?_
  refine z_iconst (v := 3) dL_law_268 (by decide) ?_
  refine z_iadd dL_law_269 ?_
  rw [zadd3]
  refine z_sldn (by omega) hL dL_law_270 ?_
  refine z_aload_n dL_law_271 rfl ?_
  refine z_callH dL_law_272 ch_L_127 (w_put (b := b) (hi := b + 109) (o := b + 108) hG hnx ok hT ho (by omega) (by omega)) rfl rfl ⟨(Nat.le_of_ble_eq_true rfl), (Nat.le_of_ble_eq_true rfl)⟩ (by show 400 + 28 * i + 2 ≤ 601024; omega) (by show 60000 + 2800 * i + 12 ≤ 7293034; omega) (Nat.le_of_ble_eq_true rfl) (fun v s1 n1 hx1 hq1 => ?_)
  have hmd1 := hq1.md hmd
  obtain ⟨rfl, q1, q2, -⟩ := hq1
  have hm := m_put (G := G) (m := b + 74) (x := (xs (4 * i + 1))) (y := (xs (4 * i + 2))) (z := (xs (4 * i + 3))) (S := S) (un := un) (by omega) ok hM
  have hok := fun (σ9 : zH) (u9 : zUv) (w9 : Int32) => o_put (G := G) (σ := σ9) (b := b) (hi := b + 109) (u' := u9) (w := w9) (x := (xs (4 * i + 1))) (y := (xs (4 * i + 2))) (z := (xs (4 * i + 3))) ok
  have hcl : (zk_put nt (xs (4 * i + 1))) < 2 ^ 31 := by unfold zk_put; repeat (first | split | decide)
  generalize (zk_put nt (xs (4 * i + 1))) = c at q1 q2 hm hok hcl ⊢
  generalize hP : (zPq (zput nt (xs (4 * i + 1)).toNatClampNeg ((xs (4 * i + 2)), (xs (4 * i + 3))), lim, mem, wk, slow, r, [], A, tk, sp, cs) (nI ((nt.getD (xs (4 * i + 1)).toNatClampNeg zdf).2.2.2.length + 1))) = P at q1 hm hok
  clear hP
  refine z_istore dL_law_275 (by decide) ?_
  refine z_aload_n dL_law_277 rfl ?_
  refine z_aload_n dL_law_278 rfl ?_
  refine z_iload dL_law_279 rfl ?_
  refine z_iconst (v := 1) dL_law_281 (by decide) ?_
  refine z_iadd dL_law_282 ?_
  rw [zadd1]
  refine z_sldn (by omega) hL dL_law_283 ?_
  refine z_aload_n dL_law_284 rfl ?_
  refine z_iload dL_law_285 rfl ?_
  refine z_iconst (v := 2) dL_law_287 (by decide) ?_
  refine z_iadd dL_law_288 ?_
  rw [zadd2]
  refine z_sldn (by omega) hL dL_law_289 ?_
  refine z_aload_n dL_law_290 rfl ?_
  refine z_iload dL_law_291 rfl ?_
  refine z_iconst (v := 3) dL_law_293 (by decide) ?_
  refine z_iadd dL_law_294 ?_
  rw [zadd3]
  refine z_sldn (by omega) hL dL_law_295 ?_
  refine z_callV dL_law_296 cv_L_130 (hm s1 n1 hmd1) rfl hmd1.1 rfl rfl ⟨(Nat.le_of_ble_eq_true rfl), (Nat.le_of_ble_eq_true rfl)⟩ (by show 400 + 28 * i + 2 + 0 ≤ 601024; omega) (by show 60000 + 2800 * i + 12 + 0 ≤ 7293034; omega) (Nat.le_of_ble_eq_true rfl) (fun v s2 n2 hx2 hq2 => ?_)
  obtain ⟨rfl, f2, S2, hmd2, ⟨w2, rfl⟩, ht, hb1, hb2⟩ := hq2
  refine z_istore dL_law_299 (by decide) ?_
  refine z_aload_n dL_law_301 rfl ?_
  refine z_callV dL_law_302 cv_L_123 (c_thrown s2 _ hmd2) rfl hmd2.1 rfl rfl ⟨(Nat.le_of_ble_eq_true rfl), (Nat.le_of_ble_eq_true rfl)⟩ (by show 400 + 28 * i + 2 + 0 + 0 ≤ 601024; omega) (by show 60000 + 2800 * i + 12 + 0 + 0 ≤ 7293034; omega) (Nat.le_of_ble_eq_true rfl) (fun v s3 n3 hx3 hq3 => ?_)
  obtain ⟨rfl, f3, S3, hmd3, rfl, rfl⟩ := hq3
  have fr : zFr s1 s3 (b + 74) 34 := fun x q => (f3 x q).trans (f2 x q)
  refine z_iload dL_law_305 rfl ?_
  refine z_icmp_eq (tgt := 312) dL_law_307 (by decide) (fun _ => ?_) (fun q => absurd (ht) q)
  refine z_iload dL_law_312 rfl ?_
  by_cases c0 : c = 0
  · obtain ⟨u', w, hP, hT2, f4, hf4, hf0⟩ := q1 c0
    obtain ⟨hw, hun2⟩ := hb1 c0 u' w hP
    have ok2 := hok _ _ _ c0 hP hT2
    cases hw
    refine z_if_ne (tgt := 329) dL_law_314 (by decide) (fun q => absurd ((show nI c = 0 by rw [c0]; rfl)) q) (fun _ => ?_)
    refine z_aload_n dL_law_317 rfl ?_
    refine z_iconst (v := 0) dL_law_318 (by decide) ?_
    refine z_lald dL_law_319 ((fr _ (by omega)).trans hf4) zin01 ?_
    rw [show (0 : Int32).toNatClampNeg = 0 by decide, hf0]
    refine z_iload dL_law_320 rfl ?_
    refine z_i2l dL_law_322 ?_
    refine z_lcmp dL_law_323 (zcmp_self _) ?_
    refine z_if_eq (tgt := 329) dL_law_324 (by decide) (fun _ => ?_) (fun q => absurd (rfl) q)
    refine z_goto (tgt := 2299) dL_law_329 (by decide) ?_
    refine z_widen (ca' := 400 + 28 * (i + 1)) (sl' := 60000 + 2800 * (i + 1)) (by show 400 + 28 * i + 2 + 0 + 0 ≤ _; omega) (by show 60000 + 2800 * i + 12 + 0 + 0 ≤ _; omega) ?_
    exact kk _ _ _ _ _ _ (zLI_ok (hT2.frm fr) hmd3 hun2 ok2 hun ((fr _ (by omega)).trans hf4) (by omega))
  · obtain ⟨hT2, f4, hf4⟩ := q2 c0
    have hM2 := hb2 c0
    refine z_if_ne (tgt := 329) dL_law_314 (by decide) (fun _ => ?_) (fun q => absurd q ((fun w => c0 ((nI_eq (a := c) (b := 0) hcl (by decide)).mp w))))
    refine z_goto (tgt := 2299) dL_law_329 (by decide) ?_
    refine z_widen (ca' := 400 + 28 * (i + 1)) (sl' := 60000 + 2800 * (i + 1)) (by show 400 + 28 * i + 2 + 0 + 0 ≤ _; omega) (by show 60000 + 2800 * i + 12 + 0 + 0 ≤ _; omega) ?_
    exact kk _ _ _ _ _ _ (zLI_ok (hT2.frm fr) hmd3 ⟨un, by omega, hM2⟩ ok hun ((fr _ (by omega)).trans hf4) (by omega))
set_option maxRecDepth 100000 in
set_option maxHeartbeats 1000000 in
theorem law_2 (hG : zKap G) (hL : L ≤ 2048) (hi : 4 * i + 4 ≤ L) (hI : zLI G σ nx b i) (kk : zKont G a b L xs i) : zWP G kL_law (zSc a L xs (zLF a)) 332 (zLls a b i x5 x6 x7 x8) [] σ nx (400 + 28 * i) (60000 + 2800 * i) := by
  obtain ⟨⟨nt, lim, mem, wk, slow, r, L1, A, tk, sp, cs⟩, un, S, f, hT, hmd, hM, ok, hun, ho, hnx⟩ := hI
  refine z_aload_n dL_law_332 rfl ?_
  refine z_aload_n dL_law_333 rfl ?_
  refine z_iload dL_law_334 rfl ?_
  refine z_iconst (v := 1) dL_law_336 (by decide) ?_
  refine z_iadd dL_law_337 ?_
  rw [zadd1]
  refine z_sldn (by omega) hL dL_law_338 ?_
  refine z_aload_n dL_law_339 rfl ?_
  refine z_iload dL_law_340 rfl ?_
  refine z_iconst (v := 2) dL_law_342 (by decide) ?_
  refine z_iadd dL_law_343 ?_
  rw [zadd2]
  refine z_sldn (by omega) hL dL_law_344 ?_
  refine z_aload_n dL_law_345 rfl ?_
  refine z_iload dL_law_346 rfl ?_
  refine z_iconst (v := 3) dL_law_348 (by decide) ?_
  refine z_iadd dL_law_349 ?_
  rw [zadd3]
  refine z_sldn (by omega) hL dL_law_350 ?_
  refine z_aload_n dL_law_351 rfl ?_
  refine z_callH dL_law_352 ch_L_131 (w_map (b := b) (hi := b + 109) (o := b + 108) hG hnx ok hT ho (by omega) (by omega)) rfl rfl ⟨(Nat.le_of_ble_eq_true rfl), (Nat.le_of_ble_eq_true rfl)⟩ (by show 400 + 28 * i + 25 ≤ 601024; omega) (by show 60000 + 2800 * i + 2790 ≤ 7293034; omega) (Nat.le_of_ble_eq_true rfl) (fun v s1 n1 hx1 hq1 => ?_)
  have hmd1 := hq1.md hmd
  obtain ⟨rfl, q1, q2, -⟩ := hq1
  have hm := m_map (G := G) (b := b) (m := b + 74) (x := (xs (4 * i + 1))) (y := (xs (4 * i + 2))) (z := (xs (4 * i + 3))) (S := S) (un := un) (by omega) ok hM
  have hok := fun (σ9 : zH) (u9 : zUv) (w9 : Int32) => o_map (G := G) (σ := σ9) (b := b) (hi := b + 109) (u' := u9) (w := w9) (x := (xs (4 * i + 1))) (y := (xs (4 * i + 2))) (z := (xs (4 * i + 3))) ok
  have hcl : (zk_map nt.length (xs (4 * i + 1)) (xs (4 * i + 2)) (xs (4 * i + 3))) < 2 ^ 31 := by unfold zk_map; repeat (first | split | decide)
  generalize (zk_map nt.length (xs (4 * i + 1)) (xs (4 * i + 2)) (xs (4 * i + 3))) = c at q1 q2 hm hok hcl ⊢
  generalize hP : (zPn nt lim mem wk slow r L1 A tk sp cs 1 (upd (upd (upd (zD0 (xs (4 * i + 1)) (-1) ((nt.getD (xs (4 * i + 1)).toNatClampNeg zdf).2.2.1 3) ((nt.getD (xs (4 * i + 1)).toNatClampNeg zdf).2.2.1 4)) 7 (xs (4 * i + 2))) 8 (xs (4 * i + 3))) 12 (zLW nt b (xs (4 * i + 1)) (-1)))) = P at q1 hm hok
  clear hP
  refine z_istore dL_law_355 (by decide) ?_
  refine z_aload_n dL_law_357 rfl ?_
  refine z_aload_n dL_law_358 rfl ?_
  refine z_iload dL_law_359 rfl ?_
  refine z_iconst (v := 1) dL_law_361 (by decide) ?_
  refine z_iadd dL_law_362 ?_
  rw [zadd1]
  refine z_sldn (by omega) hL dL_law_363 ?_
  refine z_aload_n dL_law_364 rfl ?_
  refine z_iload dL_law_365 rfl ?_
  refine z_iconst (v := 2) dL_law_367 (by decide) ?_
  refine z_iadd dL_law_368 ?_
  rw [zadd2]
  refine z_sldn (by omega) hL dL_law_369 ?_
  refine z_aload_n dL_law_370 rfl ?_
  refine z_iload dL_law_371 rfl ?_
  refine z_iconst (v := 3) dL_law_373 (by decide) ?_
  refine z_iadd dL_law_374 ?_
  rw [zadd3]
  refine z_sldn (by omega) hL dL_law_375 ?_
  refine z_callV dL_law_376 cv_L_133 (hm s1 n1 hmd1) rfl hmd1.1 rfl rfl ⟨(Nat.le_of_ble_eq_true rfl), (Nat.le_of_ble_eq_true rfl)⟩ (by show 400 + 28 * i + 25 + 0 ≤ 601024; omega) (by show 60000 + 2800 * i + 2790 + 0 ≤ 7293034; omega) (Nat.le_of_ble_eq_true rfl) (fun v s2 n2 hx2 hq2 => ?_)
  obtain ⟨rfl, f2, S2, hmd2, ⟨w2, rfl⟩, ht, hb1, hb2⟩ := hq2
  refine z_istore dL_law_379 (by decide) ?_
  refine z_aload_n dL_law_381 rfl ?_
  refine z_callV dL_law_382 cv_L_123 (c_thrown s2 _ hmd2) rfl hmd2.1 rfl rfl ⟨(Nat.le_of_ble_eq_true rfl), (Nat.le_of_ble_eq_true rfl)⟩ (by show 400 + 28 * i + 25 + 0 + 0 ≤ 601024; omega) (by show 60000 + 2800 * i + 2790 + 0 + 0 ≤ 7293034; omega) (Nat.le_of_ble_eq_true rfl) (fun v s3 n3 hx3 hq3 => ?_)
  obtain ⟨rfl, f3, S3, hmd3, rfl, rfl⟩ := hq3
  have fr : zFr s1 s3 (b + 74) 34 := fun x q => (f3 x q).trans (f2 x q)
  refine z_iload dL_law_385 rfl ?_
  refine z_icmp_eq (tgt := 392) dL_law_387 (by decide) (fun _ => ?_) (fun q => absurd (ht) q)
  refine z_iload dL_law_392 rfl ?_
  by_cases c0 : c = 0
  · obtain ⟨u', w, hP, hT2, f4, hf4, hf0⟩ := q1 c0
    obtain ⟨hw, hun2⟩ := hb1 c0 u' w hP
    have ok2 := hok _ _ _ c0 hP hT2
    cases hw
    refine z_if_ne (tgt := 409) dL_law_394 (by decide) (fun q => absurd ((show nI c = 0 by rw [c0]; rfl)) q) (fun _ => ?_)
    refine z_aload_n dL_law_397 rfl ?_
    refine z_iconst (v := 0) dL_law_398 (by decide) ?_
    refine z_lald dL_law_399 ((fr _ (by omega)).trans hf4) zin01 ?_
    rw [show (0 : Int32).toNatClampNeg = 0 by decide, hf0]
    refine z_iload dL_law_400 rfl ?_
    refine z_i2l dL_law_402 ?_
    refine z_lcmp dL_law_403 (zcmp_self _) ?_
    refine z_if_eq (tgt := 409) dL_law_404 (by decide) (fun _ => ?_) (fun q => absurd (rfl) q)
    refine z_goto (tgt := 2299) dL_law_409 (by decide) ?_
    refine z_widen (ca' := 400 + 28 * (i + 1)) (sl' := 60000 + 2800 * (i + 1)) (by show 400 + 28 * i + 25 + 0 + 0 ≤ _; omega) (by show 60000 + 2800 * i + 2790 + 0 + 0 ≤ _; omega) ?_
    exact kk _ _ _ _ _ _ (zLI_ok (hT2.frm fr) hmd3 hun2 ok2 hun ((fr _ (by omega)).trans hf4) (by omega))
  · obtain ⟨hT2, f4, hf4⟩ := q2 c0
    have hM2 := hb2 c0
    refine z_if_ne (tgt := 409) dL_law_394 (by decide) (fun _ => ?_) (fun q => absurd q ((fun w => c0 ((nI_eq (a := c) (b := 0) hcl (by decide)).mp w))))
    refine z_goto (tgt := 2299) dL_law_409 (by decide) ?_
    refine z_widen (ca' := 400 + 28 * (i + 1)) (sl' := 60000 + 2800 * (i + 1)) (by show 400 + 28 * i + 25 + 0 + 0 ≤ _; omega) (by show 60000 + 2800 * i + 2790 + 0 + 0 ≤ _; omega) ?_
    exact kk _ _ _ _ _ _ (zLI_ok (hT2.frm fr) hmd3 ⟨un, by omega, hM2⟩ ok hun ((fr _ (by omega)).trans hf4) (by omega))
set_option maxRecDepth 100000 in
set_option maxHeartbeats 1000000 in
theorem law_3 (hG : zKap G) (hL : L ≤ 2048) (hi : 4 * i + 4 ≤ L) (hI : zLI G σ nx b i) (kk : zKont G a b L xs i) : zWP G kL_law (zSc a L xs (zLF a)) 412 (zLls a b i x5 x6 x7 x8) [] σ nx (400 + 28 * i) (60000 + 2800 * i) := by
  obtain ⟨⟨nt, lim, mem, wk, slow, r, L1, A, tk, sp, cs⟩, un, S, f, hT, hmd, hM, ok, hun, ho, hnx⟩ := hI
  refine z_aload_n dL_law_412 rfl ?_
  refine z_aload_n dL_law_413 rfl ?_
  refine z_iload dL_law_414 rfl ?_
  refine z_iconst (v := 1) dL_law_416 (by decide) ?_
  refine z_iadd dL_law_417 ?_
  rw [zadd1]
  refine z_sldn (by omega) hL dL_law_418 ?_
  refine z_aload_n dL_law_419 rfl ?_
  refine z_iload dL_law_420 rfl ?_
  refine z_iconst (v := 2) dL_law_422 (by decide) ?_
  refine z_iadd dL_law_423 ?_
  rw [zadd2]
  refine z_sldn (by omega) hL dL_law_424 ?_
  refine z_aload_n dL_law_425 rfl ?_
  refine z_iload dL_law_426 rfl ?_
  refine z_iconst (v := 3) dL_law_428 (by decide) ?_
  refine z_iadd dL_law_429 ?_
  rw [zadd3]
  refine z_sldn (by omega) hL dL_law_430 ?_
  refine z_aload_n dL_law_431 rfl ?_
  refine z_callH dL_law_432 ch_L_134 (w_filter (b := b) (hi := b + 109) (o := b + 108) hG hnx ok hT ho (by omega) (by omega)) rfl rfl ⟨(Nat.le_of_ble_eq_true rfl), (Nat.le_of_ble_eq_true rfl)⟩ (by show 400 + 28 * i + 25 ≤ 601024; omega) (by show 60000 + 2800 * i + 2790 ≤ 7293034; omega) (Nat.le_of_ble_eq_true rfl) (fun v s1 n1 hx1 hq1 => ?_)
  have hmd1 := hq1.md hmd
  obtain ⟨rfl, q1, q2, -⟩ := hq1
  have hm := m_filter (G := G) (b := b) (m := b + 74) (x := (xs (4 * i + 1))) (y := (xs (4 * i + 2))) (z := (xs (4 * i + 3))) (S := S) (un := un) (by omega) ok hM
  have hok := fun (σ9 : zH) (u9 : zUv) (w9 : Int32) => o_filter (G := G) (σ := σ9) (b := b) (hi := b + 109) (u' := u9) (w := w9) (x := (xs (4 * i + 1))) (y := (xs (4 * i + 2))) (z := (xs (4 * i + 3))) ok
  have hcl : (zk_filter nt.length (xs (4 * i + 1))) < 2 ^ 31 := by unfold zk_filter; repeat (first | split | decide)
  generalize (zk_filter nt.length (xs (4 * i + 1))) = c at q1 q2 hm hok hcl ⊢
  generalize hP : (zPn nt lim mem wk slow r L1 A tk sp cs 2 (upd (upd (upd (zD0 (xs (4 * i + 1)) (-1) ((nt.getD (xs (4 * i + 1)).toNatClampNeg zdf).2.2.1 3) ((nt.getD (xs (4 * i + 1)).toNatClampNeg zdf).2.2.1 4)) 9 (xs (4 * i + 2))) 10 (xs (4 * i + 3))) 12 (zLW nt b (xs (4 * i + 1)) (-1)))) = P at q1 hm hok
  clear hP
  refine z_istore dL_law_435 (by decide) ?_
  refine z_aload_n dL_law_437 rfl ?_
  refine z_aload_n dL_law_438 rfl ?_
  refine z_iload dL_law_439 rfl ?_
  refine z_iconst (v := 1) dL_law_441 (by decide) ?_
  refine z_iadd dL_law_442 ?_
  rw [zadd1]
  refine z_sldn (by omega) hL dL_law_443 ?_
  refine z_aload_n dL_law_444 rfl ?_
  refine z_iload dL_law_445 rfl ?_
  refine z_iconst (v := 2) dL_law_447 (by decide) ?_
  refine z_iadd dL_law_448 ?_
  rw [zadd2]
  refine z_sldn (by omega) hL dL_law_449 ?_
  refine z_aload_n dL_law_450 rfl ?_
  refine z_iload dL_law_451 rfl ?_
  refine z_iconst (v := 3) dL_law_453 (by decide) ?_
  refine z_iadd dL_law_454 ?_
  rw [zadd3]
  refine z_sldn (by omega) hL dL_law_455 ?_
  refine z_callV dL_law_456 cv_L_136 (hm s1 n1 hmd1) rfl hmd1.1 rfl rfl ⟨(Nat.le_of_ble_eq_true rfl), (Nat.le_of_ble_eq_true rfl)⟩ (by show 400 + 28 * i + 25 + 0 ≤ 601024; omega) (by show 60000 + 2800 * i + 2790 + 0 ≤ 7293034; omega) (Nat.le_of_ble_eq_true rfl) (fun v s2 n2 hx2 hq2 => ?_)
  obtain ⟨rfl, f2, S2, hmd2, ⟨w2, rfl⟩, ht, hb1, hb2⟩ := hq2
  refine z_istore dL_law_459 (by decide) ?_
  refine z_aload_n dL_law_461 rfl ?_
  refine z_callV dL_law_462 cv_L_123 (c_thrown s2 _ hmd2) rfl hmd2.1 rfl rfl ⟨(Nat.le_of_ble_eq_true rfl), (Nat.le_of_ble_eq_true rfl)⟩ (by show 400 + 28 * i + 25 + 0 + 0 ≤ 601024; omega) (by show 60000 + 2800 * i + 2790 + 0 + 0 ≤ 7293034; omega) (Nat.le_of_ble_eq_true rfl) (fun v s3 n3 hx3 hq3 => ?_)
  obtain ⟨rfl, f3, S3, hmd3, rfl, rfl⟩ := hq3
  have fr : zFr s1 s3 (b + 74) 34 := fun x q => (f3 x q).trans (f2 x q)
  refine z_iload dL_law_465 rfl ?_
  refine z_icmp_eq (tgt := 472) dL_law_467 (by decide) (fun _ => ?_) (fun q => absurd (ht) q)
  refine z_iload dL_law_472 rfl ?_
  by_cases c0 : c = 0
  · obtain ⟨u', w, hP, hT2, f4, hf4, hf0⟩ := q1 c0
    obtain ⟨hw, hun2⟩ := hb1 c0 u' w hP
    have ok2 := hok _ _ _ c0 hP hT2
    cases hw
    refine z_if_ne (tgt := 489) dL_law_474 (by decide) (fun q => absurd ((show nI c = 0 by rw [c0]; rfl)) q) (fun _ => ?_)
    refine z_aload_n dL_law_477 rfl ?_
    refine z_iconst (v := 0) dL_law_478 (by decide) ?_
    refine z_lald dL_law_479 ((fr _ (by omega)).trans hf4) zin01 ?_
    rw [show (0 : Int32).toNatClampNeg = 0 by decide, hf0]
    refine z_iload dL_law_480 rfl ?_
    refine z_i2l dL_law_482 ?_
    refine z_lcmp dL_law_483 (zcmp_self _) ?_
    refine z_if_eq (tgt := 489) dL_law_484 (by decide) (fun _ => ?_) (fun q => absurd (rfl) q)
    refine z_goto (tgt := 2299) dL_law_489 (by decide) ?_
    refine z_widen (ca' := 400 + 28 * (i + 1)) (sl' := 60000 + 2800 * (i + 1)) (by show 400 + 28 * i + 25 + 0 + 0 ≤ _; omega) (by show 60000 + 2800 * i + 2790 + 0 + 0 ≤ _; omega) ?_
    exact kk _ _ _ _ _ _ (zLI_ok (hT2.frm fr) hmd3 hun2 ok2 hun ((fr _ (by omega)).trans hf4) (by omega))
  · obtain ⟨hT2, f4, hf4⟩ := q2 c0
    have hM2 := hb2 c0
    refine z_if_ne (tgt := 489) dL_law_474 (by decide) (fun _ => ?_) (fun q => absurd q ((fun w => c0 ((nI_eq (a := c) (b := 0) hcl (by decide)).mp w))))
    refine z_goto (tgt := 2299) dL_law_489 (by decide) ?_
    refine z_widen (ca' := 400 + 28 * (i + 1)) (sl' := 60000 + 2800 * (i + 1)) (by show 400 + 28 * i + 25 + 0 + 0 ≤ _; omega) (by show 60000 + 2800 * i + 2790 + 0 + 0 ≤ _; omega) ?_
    exact kk _ _ _ _ _ _ (zLI_ok (hT2.frm fr) hmd3 ⟨un, by omega, hM2⟩ ok hun ((fr _ (by omega)).trans hf4) (by omega))
end
