/-! the law: joins -/
section
variable {G : zG} {σ : zH} {b nx : Nat} {R : Nat → Nat → Int32} {nt : zNT} {lim mem wk r tk sp cs : Nat} {slow : Nat → Nat} {L : zNS} {A : List zAE}
theorem zjoin_facts {P : List zP2} {T : zP2} {lim p0 : Nat} {Pi : List zP2} {D : Nat → Int32} (p1 : 1 ≤ p0) (p4 : p0 ≤ 4) (ep : ztp false D = p0) (hcon : Pi = if false = false ∧ T.length ≤ lim then P.map (zfmP T) else zrng (ztp false D) (zjp (ztp false D) (zsrt P.flatten) T)) :
    Pi.flatten.Perm (zfm P.flatten T) ∧ (T.length ≤ lim → Pi.length = P.length ∧ ∀ p, zsz Pi p = zcm T (P.getD p [])) ∧
    (¬ T.length ≤ lim → Pi.length = p0 ∧ (∀ q j, q < p0 → j < zsz Pi q → zmd (zrw Pi q j).1 (nI p0) = nI q) ∧ ∀ q j, q < p0 → j + 1 < zsz Pi q → (zrw Pi q j).1 ≤ (zrw Pi q (j + 1)).1) := by
  by_cases hb : T.length ≤ lim
  · rw [if_pos ⟨rfl, hb⟩] at hcon
    refine ⟨by rw [hcon, zfmP_fl], fun _ => ⟨by rw [hcon, List.length_map], fun p => ?_⟩, fun w => absurd hb w⟩
    rw [hcon, zsz_map _ rfl, zfmP, zfm_cm]
  · rw [if_neg (fun w => hb w.2), ep] at hcon
    have hgd : ∀ q, q < p0 → Pi.getD q [] = zfm (zpart p0 (zsrt P.flatten) q) T := fun q h => by rw [hcon, zrng_at h]; rfl
    have hup : ∀ q, (zpart p0 (zsrt P.flatten) q).Pairwise (fun a b => a.1 ≤ b.1) := fun q =>
      (zpair_iff.mp fun i j a b hij ha hb => (zsrt_up P.flatten).1 i j a b (by omega) ha hb).filter _
    refine ⟨?_, fun w => absurd w hb, fun _ => ⟨by rw [hcon, zrng_len], fun q j h h2 => ?_, fun q j h h2 => ?_⟩⟩
    · have e : (zrng p0 (zjp p0 (zsrt P.flatten) T)).flatten = zfm (zrng p0 (zpart p0 (zsrt P.flatten))).flatten T := zrng_fm (zpart p0 (zsrt P.flatten)) T p0
      rw [hcon, e]
      exact zfm_perm1 ((zpart_all (by omega) (by omega) _).trans (zsrt_perm _)) T
    · have := List.mem_of_getElem? (zrw_at2 h2)
      rw [hgd q h] at this
      obtain ⟨z, hz, e⟩ := zfm_key this
      rw [e]
      simpa using (List.mem_filter.mp hz).2
    · have a := zrw_at2 (show j < zsz Pi q by omega)
      have c := zrw_at2 h2
      rw [hgd q h] at a c
      exact zpair_iff.mpr (zfm_up (hup q)) j (j + 1) _ _ (Nat.lt_succ_self j) a c
set_option maxRecDepth 100000 in
set_option maxHeartbeats 8000000 in
theorem l_isJoin {i : Nat} (hG : zKap G) (S : zVs G σ b (nt, lim, mem, wk, slow, r, L, A, tk, sp, cs) R) (hr : zRl nt R) (hlim : R 7 1 = nI lim) (hi : i < nt.length) (hk : zkd nt i = 5) : zM G yL_isJoin kL_isJoin [.ref b, .ref (b + 74 + 1), .ref (b + 74 + 2), .ref (b + 74 + 3), .ref (b + 81), .int (nI i)] σ nx (fun v σ' nx' => v = some (.int 1) ∧ zVs G σ' b (nt, lim, mem, wk, slow, r, L, A, tk, sp, cs) R ∧ nx' = nx) := by
  refine zM.of (ls := [some (.ref b), some (.ref (b + 74 + 1)), some (.ref (b + 74 + 2)), some (.ref (b + 74 + 3)), some (.ref (b + 81)), some (.int (nI i)), none, none, none, none, none, none, none, none]) (by decide +kernel) ⟨rfl, rfl, rfl⟩ (Nat.le_of_ble_eq_true rfl) (fun _ h => h) ?_
  have h14 : nt.length ≤ 14 := S.2.1.2.2.1
  have hl1000 : lim ≤ 1000 := S.2.1.2.2.2.1
  obtain ⟨e, f, s, p0, hg, k6, ke, r0, -, hf, hs, hp, -, r3, -, -, -, -, hcon, -⟩ := zNi (lim := lim) S.2.1.1 h14 hr hi
  have ek : e.2.1 = 5 := ke.symm.trans hk
  obtain ⟨fi, rf⟩ := hf (by omega)
  obtain ⟨si, rs, es⟩ := hs (Or.inr ek)
  obtain ⟨p1, p4, ep⟩ := hp (Or.inr (Or.inr ek))
  have r3 := r3 (Or.inr ek)
  have hfl : f < nt.length := by omega
  have hsl : s < nt.length := by omega
  obtain ⟨f300, f1, f8⟩ := zct_le (lim := lim) S.2.1.1 h14 hfl
  obtain ⟨s300, s1, s8⟩ := zct_le (lim := lim) S.2.1.1 h14 hsl
  obtain ⟨i300, i1, i8⟩ := zct_le (lim := lim) S.2.1.1 h14 hi
  have hcon : zct lim nt i = if false = false ∧ (zct lim nt s).flatten.length ≤ lim then (zct lim nt f).map (zfmP (zct lim nt s).flatten) else zrng (ztp false e.2.2.1) (zjp (ztp false e.2.2.1) (zsrt (zct lim nt f).flatten) (zct lim nt s).flatten) := by
    rw [hcon, zcont, ek, if_neg (by decide), if_neg (by decide), if_neg (by decide), if_neg (by decide), if_neg (by decide)]
  have hzb : zbr lim nt i = decide ((zct lim nt s).flatten.length ≤ lim) := by rw [zbr, hk, es]; rfl
  obtain ⟨hA, hB, hC⟩ := zjoin_facts p1 p4 ep hcon
  obtain ⟨T, hT⟩ : ∃ T, T = (zct lim nt s).flatten := ⟨_, rfl⟩
  obtain ⟨P, hP⟩ : ∃ P, P = zct lim nt f := ⟨_, rfl⟩
  rw [← hT] at hA hB hC hzb s300
  rw [← hP] at hA hB f300 f1 f8
  clear hcon
  have htot : (zct lim nt i).flatten.length = zcm T P.flatten := by rw [hA.length_eq, zfm_cm]
  have hsum : zjs T P.flatten - zvs (zct lim nt i).flatten = 0 := by rw [zjs_eq, zvs_perm hA, Int32.sub_self]
  obtain ⟨fl, hfl1⟩ : ∃ fl : Int32, fl = if T.length ≤ lim then 1 else 0 := ⟨_, rfl⟩
  -- the second half: the rows of the join
  have outer2 : ∀ (d q : Nat) (σ2 : zH) (x11 x12 x13 : Option Value), q + d = (zct lim nt i).length → zVs G σ2 b (nt, lim, mem, wk, slow, r, L, A, tk, sp, cs) R →
      zWP G kL_isJoin (zFM G kL_isJoin.2.2.2.1 (fun v σ' nx' => v = some (.int 1) ∧ zVs G σ' b (nt, lim, mem, wk, slow, r, L, A, tk, sp, cs) R ∧ nx' = nx)) 244 [some (.ref b), some (.ref (b + 74 + 1)), some (.ref (b + 74 + 2)), some (.ref (b + 74 + 3)), some (.ref (b + 81)), some (.int (nI i)), some (.int fl), some (.int 1), some (.int (nI (zcm T P.flatten))), some (.int (zjs T P.flatten - zvs (zpx (zct lim nt i) q 0))), some (.int (nI q)), x11, x12, x13] [] σ2 nx 0 0 := by
    intro d
    induction d with
    | zero =>
      intro q σ2 x11 x12 x13 hq S
      have eq : q = (zct lim nt i).length := by omega
      rw [eq, zpx_e, hsum]
      refine z_iload dL_isJoin_244 rfl ?_
      refine z_aload_n dL_isJoin_246 rfl ?_
      refine z_iload dL_isJoin_247 rfl ?_
      refine z_callV dL_isJoin_249 cv0_L_58 (q_partitions hG S hi) rfl S.c rfl rfl ⟨(Nat.le_of_ble_eq_true rfl), (Nat.le_of_ble_eq_true rfl)⟩ (Nat.le_of_ble_eq_true rfl) (Nat.le_of_ble_eq_true rfl) (Nat.le_of_ble_eq_true rfl) (fun v σ1 nx1 hx1 hq1 => ?_)
      obtain ⟨rfl, S, rfl⟩ := hq1
      refine z_icmp_ge (tgt := 372) dL_isJoin_252 (by decide) (fun _ => ?_) (fun q_9 => absurd ((nI_le (Nat.le_refl _) (by omega))) q_9)
      refine z_iload dL_isJoin_372 rfl ?_
      refine z_if_eq (tgt := 397) dL_isJoin_374 (by decide) (fun q_9 => absurd q_9 (((by decide)))) (fun _ => ?_)
      refine z_aload_n dL_isJoin_377 rfl ?_
      refine z_iload dL_isJoin_378 rfl ?_
      refine z_callV dL_isJoin_380 cv0_L_64 (q_rows hG S hi) rfl S.c rfl rfl ⟨(Nat.le_of_ble_eq_true rfl), (Nat.le_of_ble_eq_true rfl)⟩ (Nat.le_of_ble_eq_true rfl) (Nat.le_of_ble_eq_true rfl) (Nat.le_of_ble_eq_true rfl) (fun v σ1 nx1 hx1 hq1 => ?_)
      obtain ⟨rfl, S, rfl⟩ := hq1
      refine z_iload dL_isJoin_383 rfl ?_
      refine z_icmp_ne (tgt := 397) dL_isJoin_385 (by decide) (fun q_9 => absurd (((by rw [htot]))) q_9) (fun _ => ?_)
      refine z_iload dL_isJoin_388 rfl ?_
      refine z_if_ne (tgt := 397) dL_isJoin_390 (by decide) (fun q_9 => absurd ((rfl)) q_9) (fun _ => ?_)
      refine z_iconst (v := 1) dL_isJoin_393 (by decide) ?_
      refine z_goto (tgt := 398) dL_isJoin_394 (by decide) ?_
      exact z_zret dL_isJoin_398 rfl rfl (Nat.le_of_ble_eq_true rfl) (Nat.le_of_ble_eq_true rfl) ⟨rfl, S, rfl⟩
    | succ d ih =>
      intro q σ2 x11 x12 x13 hq S
      have hqi : q < (zct lim nt i).length := by omega
      have hsi := zsz_le (P := zct lim nt i) (j := q)
      have inner : ∀ (e9 j : Nat) (σ2 : zH) (x12 x13 : Option Value), j + e9 = zsz (zct lim nt i) q → zVs G σ2 b (nt, lim, mem, wk, slow, r, L, A, tk, sp, cs) R →
          zWP G kL_isJoin (zFM G kL_isJoin.2.2.2.1 (fun v σ' nx' => v = some (.int 1) ∧ zVs G σ' b (nt, lim, mem, wk, slow, r, L, A, tk, sp, cs) R ∧ nx' = nx)) 263 [some (.ref b), some (.ref (b + 74 + 1)), some (.ref (b + 74 + 2)), some (.ref (b + 74 + 3)), some (.ref (b + 81)), some (.int (nI i)), some (.int fl), some (.int 1), some (.int (nI (zcm T P.flatten))), some (.int (zjs T P.flatten - zvs (zpx (zct lim nt i) q j))), some (.int (nI q)), some (.int (nI j)), x12, x13] [] σ2 nx 0 0 := by
        intro e9
        induction e9 with
        | zero =>
          intro j σ2 x12 x13 hj S
          have ej : j = zsz (zct lim nt i) q := by omega
          rw [ej, zpx_n hqi]
          refine z_iload dL_isJoin_263 rfl ?_
          refine z_aload_n dL_isJoin_265 rfl ?_
          refine z_iload dL_isJoin_266 rfl ?_
          refine z_iload dL_isJoin_268 rfl ?_
          refine z_callV dL_isJoin_270 cv0_L_61 (q_rowsIn hG S hi hqi) rfl S.c rfl rfl ⟨(Nat.le_of_ble_eq_true rfl), (Nat.le_of_ble_eq_true rfl)⟩ (Nat.le_of_ble_eq_true rfl) (Nat.le_of_ble_eq_true rfl) (Nat.le_of_ble_eq_true rfl) (fun v σ1 nx1 hx1 hq1 => ?_)
          obtain ⟨rfl, S, rfl⟩ := hq1
          refine z_icmp_ge (tgt := 366) dL_isJoin_273 (by decide) (fun _ => ?_) (fun q_9 => absurd ((nI_le (Nat.le_refl _) (by omega))) q_9)
          refine z_inc1 dL_isJoin_366 rfl (by decide) ?_
          rw [nI_1]
          refine z_goto (tgt := 244) dL_isJoin_369 (by decide) ?_
          exact ih (q + 1) _ _ _ _ (by omega) S
        | succ e9 ie =>
          intro j σ2 x12 x13 hj S
          have hjl : j < zsz (zct lim nt i) q := by omega
          have nxt := ie (j + 1)
          rw [zpx_s hjl, zvs_s, ← zsub_s] at nxt
          obtain ⟨x, hx⟩ : ∃ x, x = zrw (zct lim nt i) q j := ⟨_, rfl⟩
          rw [← hx] at nxt
          by_cases hb : T.length ≤ lim
          · rw [if_pos hb] at hfl1
            subst hfl1
            refine z_iload dL_isJoin_263 rfl ?_
            refine z_aload_n dL_isJoin_265 rfl ?_
            refine z_iload dL_isJoin_266 rfl ?_
            refine z_iload dL_isJoin_268 rfl ?_
            refine z_callV dL_isJoin_270 cv0_L_61 (q_rowsIn hG S hi hqi) rfl S.c rfl rfl ⟨(Nat.le_of_ble_eq_true rfl), (Nat.le_of_ble_eq_true rfl)⟩ (Nat.le_of_ble_eq_true rfl) (Nat.le_of_ble_eq_true rfl) (Nat.le_of_ble_eq_true rfl) (fun v σ1 nx1 hx1 hq1 => ?_)
            obtain ⟨rfl, S, rfl⟩ := hq1
            refine z_icmp_ge (tgt := 366) dL_isJoin_273 (by decide) (fun q_9 => absurd q_9 ((nI_ge hjl (by omega)))) (fun _ => ?_)
            refine z_iload dL_isJoin_276 rfl ?_
            refine z_if_eq (tgt := 366) dL_isJoin_278 (by decide) (fun q_9 => absurd q_9 (((by decide)))) (fun _ => ?_)
            refine z_iload dL_isJoin_281 rfl ?_
            refine z_aload_n dL_isJoin_283 rfl ?_
            refine z_iload dL_isJoin_284 rfl ?_
            refine z_iload dL_isJoin_286 rfl ?_
            refine z_iload dL_isJoin_288 rfl ?_
            refine z_callV dL_isJoin_290 cv0_L_70 (q_valueAt hG S hi hqi hjl) rfl S.c rfl rfl ⟨(Nat.le_of_ble_eq_true rfl), (Nat.le_of_ble_eq_true rfl)⟩ (Nat.le_of_ble_eq_true rfl) (Nat.le_of_ble_eq_true rfl) (Nat.le_of_ble_eq_true rfl) (fun v σ1 nx1 hx1 hq1 => ?_)
            obtain ⟨rfl, S, rfl⟩ := hq1
            rw [← hx]
            refine z_isub dL_isJoin_293 ?_
            refine z_istore dL_isJoin_294 (by decide) ?_
            refine z_iload dL_isJoin_296 rfl ?_
            refine z_if_ne (tgt := 353) dL_isJoin_298 (by decide) (fun _ => ?_) (fun q_9 => absurd q_9 (((by decide))))
            refine z_iconst (v := 1) dL_isJoin_353 (by decide) ?_
            refine z_goto (tgt := 358) dL_isJoin_354 (by decide) ?_
            refine z_istore dL_isJoin_358 (by decide) ?_
            refine z_inc1 dL_isJoin_360 rfl (by decide) ?_
            rw [nI_1]
            refine z_goto (tgt := 263) dL_isJoin_363 (by decide) ?_
            exact nxt _ _ _ (by omega) S
          · obtain ⟨c1, c2, c3⟩ := hC hb
            have hmd := c2 q j (by omega) hjl
            rw [← hx] at hmd
            rw [if_neg hb] at hfl1
            subst hfl1
            refine z_iload dL_isJoin_263 rfl ?_
            refine z_aload_n dL_isJoin_265 rfl ?_
            refine z_iload dL_isJoin_266 rfl ?_
            refine z_iload dL_isJoin_268 rfl ?_
            refine z_callV dL_isJoin_270 cv0_L_61 (q_rowsIn hG S hi hqi) rfl S.c rfl rfl ⟨(Nat.le_of_ble_eq_true rfl), (Nat.le_of_ble_eq_true rfl)⟩ (Nat.le_of_ble_eq_true rfl) (Nat.le_of_ble_eq_true rfl) (Nat.le_of_ble_eq_true rfl) (fun v σ1 nx1 hx1 hq1 => ?_)
            obtain ⟨rfl, S, rfl⟩ := hq1
            refine z_icmp_ge (tgt := 366) dL_isJoin_273 (by decide) (fun q_9 => absurd q_9 ((nI_ge hjl (by omega)))) (fun _ => ?_)
            refine z_iload dL_isJoin_276 rfl ?_
            refine z_if_eq (tgt := 366) dL_isJoin_278 (by decide) (fun q_9 => absurd q_9 (((by decide)))) (fun _ => ?_)
            refine z_iload dL_isJoin_281 rfl ?_
            refine z_aload_n dL_isJoin_283 rfl ?_
            refine z_iload dL_isJoin_284 rfl ?_
            refine z_iload dL_isJoin_286 rfl ?_
            refine z_iload dL_isJoin_288 rfl ?_
            refine z_callV dL_isJoin_290 cv0_L_70 (q_valueAt hG S hi hqi hjl) rfl S.c rfl rfl ⟨(Nat.le_of_ble_eq_true rfl), (Nat.le_of_ble_eq_true rfl)⟩ (Nat.le_of_ble_eq_true rfl) (Nat.le_of_ble_eq_true rfl) (Nat.le_of_ble_eq_true rfl) (fun v σ1 nx1 hx1 hq1 => ?_)
            obtain ⟨rfl, S, rfl⟩ := hq1
            rw [← hx]
            refine z_isub dL_isJoin_293 ?_
            refine z_istore dL_isJoin_294 (by decide) ?_
            refine z_iload dL_isJoin_296 rfl ?_
            refine z_if_ne (tgt := 353) dL_isJoin_298 (by decide) (fun q_9 => absurd ((rfl)) q_9) (fun _ => ?_)
            refine z_aload_n dL_isJoin_301 rfl ?_
            refine z_iload dL_isJoin_302 rfl ?_
            refine z_iload dL_isJoin_304 rfl ?_
            refine z_iload dL_isJoin_306 rfl ?_
            refine z_callV dL_isJoin_308 cv0_L_67 (q_keyAt hG S hi hqi hjl) rfl S.c rfl rfl ⟨(Nat.le_of_ble_eq_true rfl), (Nat.le_of_ble_eq_true rfl)⟩ (Nat.le_of_ble_eq_true rfl) (Nat.le_of_ble_eq_true rfl) (Nat.le_of_ble_eq_true rfl) (fun v σ1 nx1 hx1 hq1 => ?_)
            obtain ⟨rfl, S, rfl⟩ := hq1
            rw [← hx]
            refine z_aload_n dL_isJoin_311 rfl ?_
            refine z_iload dL_isJoin_312 rfl ?_
            refine z_ar dL_isJoin_314 S (by decide) (by omega) r3 ?_
            refine z_callS dL_isJoin_315 cv_L_112 (l_share (by omega) (by omega) S) rfl rfl ⟨(Nat.le_of_ble_eq_true rfl), (Nat.le_of_ble_eq_true rfl)⟩ (Nat.le_of_ble_eq_true rfl) (Nat.le_of_ble_eq_true rfl) (Nat.le_of_ble_eq_true rfl) (fun v σ1 nx1 hx1 hq1 => ?_)
            obtain ⟨rfl, S, rfl⟩ := hq1
            rw [hmd]
            refine z_iload dL_isJoin_318 rfl ?_
            refine z_icmp_ne (tgt := 357) dL_isJoin_320 (by decide) (fun q_9 => absurd ((rfl)) q_9) (fun _ => ?_)
            refine z_iload dL_isJoin_323 rfl ?_
            cases j with
            | zero =>
              refine z_if_eq (tgt := 353) dL_isJoin_325 (by decide) (fun _ => ?_) (fun q_9 => absurd ((rfl)) q_9)
              refine z_iconst (v := 1) dL_isJoin_353 (by decide) ?_
              refine z_goto (tgt := 358) dL_isJoin_354 (by decide) ?_
              refine z_istore dL_isJoin_358 (by decide) ?_
              refine z_inc1 dL_isJoin_360 rfl (by decide) ?_
              rw [nI_1]
              refine z_goto (tgt := 263) dL_isJoin_363 (by decide) ?_
              exact nxt _ _ _ (by omega) S
            | succ j' =>
              refine z_if_eq (tgt := 353) dL_isJoin_325 (by decide) (fun q_9 => absurd q_9 (((fun w => absurd ((nI_eq (a := j' + 1) (b := 0) (by omega) (by decide)).mp w) (Nat.succ_ne_zero j'))))) (fun _ => ?_)
              refine z_aload_n dL_isJoin_328 rfl ?_
              refine z_iload dL_isJoin_329 rfl ?_
              refine z_iload dL_isJoin_331 rfl ?_
              refine z_iload dL_isJoin_333 rfl ?_
              refine z_iconst (v := 1) dL_isJoin_335 (by decide) ?_
              refine z_isub dL_isJoin_336 ?_
              rw [zsub1 (by omega)]
              refine z_callV dL_isJoin_337 cv0_L_67 (q_keyAt hG S hi hqi (by omega)) rfl S.c rfl rfl ⟨(Nat.le_of_ble_eq_true rfl), (Nat.le_of_ble_eq_true rfl)⟩ (Nat.le_of_ble_eq_true rfl) (Nat.le_of_ble_eq_true rfl) (Nat.le_of_ble_eq_true rfl) (fun v σ1 nx1 hx1 hq1 => ?_)
              obtain ⟨rfl, S, rfl⟩ := hq1
              refine z_aload_n dL_isJoin_340 rfl ?_
              refine z_iload dL_isJoin_341 rfl ?_
              refine z_iload dL_isJoin_343 rfl ?_
              refine z_iload dL_isJoin_345 rfl ?_
              refine z_callV dL_isJoin_347 cv0_L_67 (q_keyAt hG S hi hqi hjl) rfl S.c rfl rfl ⟨(Nat.le_of_ble_eq_true rfl), (Nat.le_of_ble_eq_true rfl)⟩ (Nat.le_of_ble_eq_true rfl) (Nat.le_of_ble_eq_true rfl) (Nat.le_of_ble_eq_true rfl) (fun v σ1 nx1 hx1 hq1 => ?_)
              obtain ⟨rfl, S, rfl⟩ := hq1
              refine z_icmp_gt (tgt := 357) dL_isJoin_350 (by decide) (fun q_9 => absurd q_9 (((Int32.not_lt.mpr (c3 q j' (by omega) hjl))))) (fun _ => ?_)
              refine z_iconst (v := 1) dL_isJoin_353 (by decide) ?_
              refine z_goto (tgt := 358) dL_isJoin_354 (by decide) ?_
              refine z_istore dL_isJoin_358 (by decide) ?_
              refine z_inc1 dL_isJoin_360 rfl (by decide) ?_
              rw [nI_1]
              refine z_goto (tgt := 263) dL_isJoin_363 (by decide) ?_
              exact nxt _ _ _ (by omega) S
      refine z_iload dL_isJoin_244 rfl ?_
      refine z_aload_n dL_isJoin_246 rfl ?_
      refine z_iload dL_isJoin_247 rfl ?_
      refine z_callV dL_isJoin_249 cv0_L_58 (q_partitions hG S hi) rfl S.c rfl rfl ⟨(Nat.le_of_ble_eq_true rfl), (Nat.le_of_ble_eq_true rfl)⟩ (Nat.le_of_ble_eq_true rfl) (Nat.le_of_ble_eq_true rfl) (Nat.le_of_ble_eq_true rfl) (fun v σ1 nx1 hx1 hq1 => ?_)
      obtain ⟨rfl, S, rfl⟩ := hq1
      refine z_icmp_ge (tgt := 372) dL_isJoin_252 (by decide) (fun q_9 => absurd q_9 ((nI_ge hqi (by omega)))) (fun _ => ?_)
      refine z_iload dL_isJoin_255 rfl ?_
      refine z_if_eq (tgt := 372) dL_isJoin_257 (by decide) (fun q_9 => absurd q_9 (((by decide)))) (fun _ => ?_)
      refine z_iconst (v := 0) dL_isJoin_260 (by decide) ?_
      refine z_istore dL_isJoin_261 (by decide) ?_
      exact inner _ 0 _ _ _ (Nat.zero_add _) S
  -- the first half: the rows of its inputs
  have outer1 : ∀ (d p : Nat) (σ2 : zH) (x11 x12 x13 : Option Value), p + d = P.length → zVs G σ2 b (nt, lim, mem, wk, slow, r, L, A, tk, sp, cs) R →
      zWP G kL_isJoin (zFM G kL_isJoin.2.2.2.1 (fun v σ' nx' => v = some (.int 1) ∧ zVs G σ' b (nt, lim, mem, wk, slow, r, L, A, tk, sp, cs) R ∧ nx' = nx)) 86 [some (.ref b), some (.ref (b + 74 + 1)), some (.ref (b + 74 + 2)), some (.ref (b + 74 + 3)), some (.ref (b + 81)), some (.int (nI i)), some (.int fl), some (.int 1), some (.int (nI (zcm T (zpx P p 0)))), some (.int (zjs T (zpx P p 0))), some (.int (nI p)), x11, x12, x13] [] σ2 nx 0 0 := by
    intro d
    induction d with
    | zero =>
      intro p σ2 x11 x12 x13 hp S
      have eq : p = P.length := by omega
      rw [eq, zpx_e]
      have l2 := outer2 (zct lim nt i).length 0
      rw [zpx_0, show zvs [] = 0 from rfl, Int32.sub_zero] at l2
      refine z_iload dL_isJoin_86 rfl ?_
      refine z_aload_n dL_isJoin_88 rfl ?_
      refine z_aload_n dL_isJoin_89 rfl ?_
      refine z_iload dL_isJoin_90 rfl ?_
      refine z_ar dL_isJoin_92 S (by decide) (by omega) rf ?_
      refine z_callV dL_isJoin_93 cv0_L_58 (q_partitions hG S hfl) rfl S.c rfl rfl ⟨(Nat.le_of_ble_eq_true rfl), (Nat.le_of_ble_eq_true rfl)⟩ (Nat.le_of_ble_eq_true rfl) (Nat.le_of_ble_eq_true rfl) (Nat.le_of_ble_eq_true rfl) (fun v σ1 nx1 hx1 hq1 => ?_)
      obtain ⟨rfl, S, rfl⟩ := hq1
      rw [← hP]
      refine z_icmp_ge (tgt := 241) dL_isJoin_96 (by decide) (fun _ => ?_) (fun q_9 => absurd ((nI_le (Nat.le_refl _) (by omega))) q_9)
      refine z_iconst (v := 0) dL_isJoin_241 (by decide) ?_
      refine z_istore dL_isJoin_242 (by decide) ?_
      exact l2 _ _ _ _ (Nat.zero_add _) S
    | succ d ih =>
      intro p σ2 x11 x12 x13 hp S
      have hpl : p < P.length := by omega
      have hs := zsz_le (P := P) (j := p)
      have inner : ∀ (e9 j : Nat) (σ2 : zH) (x13 : Option Value), j + e9 = zsz P p → zVs G σ2 b (nt, lim, mem, wk, slow, r, L, A, tk, sp, cs) R →
          zWP G kL_isJoin (zFM G kL_isJoin.2.2.2.1 (fun v σ' nx' => v = some (.int 1) ∧ zVs G σ' b (nt, lim, mem, wk, slow, r, L, A, tk, sp, cs) R ∧ nx' = nx)) 105 [some (.ref b), some (.ref (b + 74 + 1)), some (.ref (b + 74 + 2)), some (.ref (b + 74 + 3)), some (.ref (b + 81)), some (.int (nI i)), some (.int fl), some (.int 1), some (.int (nI (zcm T (zpx P p 0)))), some (.int (zjs T (zpx P p j))), some (.int (nI p)), some (.int (nI (zcm T ((P.getD p []).take j)))), some (.int (nI j)), x13] [] σ2 nx 0 0 := by
        intro e9
        induction e9 with
        | zero =>
          intro j σ2 x13 hj S
          have ej : j = zsz P p := by omega
          have nxt := ih (p + 1)
          have ecm : zcm T (zpx P (p + 1) 0) = zcm T (zpx P p 0) + zcm T (P.getD p []) := by
            rw [← zpx_n hpl, zpx, zfull, zcm_app, zpx, List.take_zero, List.append_nil]
          rw [ecm, ← nI_add] at nxt
          rw [ej, zfull, zpx_n hpl]
          by_cases hb : T.length ≤ lim
          · obtain ⟨c1, c2⟩ := hB hb
            rw [if_pos hb] at hfl1
            subst hfl1
            refine z_iload dL_isJoin_105 rfl ?_
            refine z_aload_n dL_isJoin_107 rfl ?_
            refine z_aload_n dL_isJoin_108 rfl ?_
            refine z_iload dL_isJoin_109 rfl ?_
            refine z_ar dL_isJoin_111 S (by decide) (by omega) rf ?_
            refine z_iload dL_isJoin_112 rfl ?_
            refine z_callV dL_isJoin_114 cv0_L_61 (q_rowsIn hG S hfl (by rw [← hP]; exact hpl)) rfl S.c rfl rfl ⟨(Nat.le_of_ble_eq_true rfl), (Nat.le_of_ble_eq_true rfl)⟩ (Nat.le_of_ble_eq_true rfl) (Nat.le_of_ble_eq_true rfl) (Nat.le_of_ble_eq_true rfl) (fun v σ1 nx1 hx1 hq1 => ?_)
            obtain ⟨rfl, S, rfl⟩ := hq1
            rw [← hP]
            refine z_icmp_ge (tgt := 198) dL_isJoin_117 (by decide) (fun _ => ?_) (fun q_9 => absurd ((nI_le (Nat.le_refl _) (by omega))) q_9)
            refine z_iload dL_isJoin_198 rfl ?_
            refine z_if_eq (tgt := 225) dL_isJoin_200 (by decide) (fun q_9 => absurd q_9 (((by decide)))) (fun _ => ?_)
            refine z_iload dL_isJoin_203 rfl ?_
            refine z_if_eq (tgt := 221) dL_isJoin_205 (by decide) (fun q_9 => absurd q_9 (((by decide)))) (fun _ => ?_)
            refine z_aload_n dL_isJoin_208 rfl ?_
            refine z_iload dL_isJoin_209 rfl ?_
            refine z_iload dL_isJoin_211 rfl ?_
            refine z_callV dL_isJoin_213 cv0_L_61 (q_rowsIn hG S hi (by omega)) rfl S.c rfl rfl ⟨(Nat.le_of_ble_eq_true rfl), (Nat.le_of_ble_eq_true rfl)⟩ (Nat.le_of_ble_eq_true rfl) (Nat.le_of_ble_eq_true rfl) (Nat.le_of_ble_eq_true rfl) (fun v σ1 nx1 hx1 hq1 => ?_)
            obtain ⟨rfl, S, rfl⟩ := hq1
            refine z_iload dL_isJoin_216 rfl ?_
            refine z_icmp_ne (tgt := 225) dL_isJoin_218 (by decide) (fun q_9 => absurd (((by rw [c2]))) q_9) (fun _ => ?_)
            refine z_iconst (v := 1) dL_isJoin_221 (by decide) ?_
            refine z_goto (tgt := 226) dL_isJoin_222 (by decide) ?_
            refine z_istore dL_isJoin_226 (by decide) ?_
            refine z_iload dL_isJoin_228 rfl ?_
            refine z_iload dL_isJoin_230 rfl ?_
            refine z_iadd dL_isJoin_232 ?_
            refine z_istore dL_isJoin_233 (by decide) ?_
            refine z_inc1 dL_isJoin_235 rfl (by decide) ?_
            rw [nI_1]
            refine z_goto (tgt := 86) dL_isJoin_238 (by decide) ?_
            exact nxt _ _ _ _ (by omega) S
          · rw [if_neg hb] at hfl1
            subst hfl1
            refine z_iload dL_isJoin_105 rfl ?_
            refine z_aload_n dL_isJoin_107 rfl ?_
            refine z_aload_n dL_isJoin_108 rfl ?_
            refine z_iload dL_isJoin_109 rfl ?_
            refine z_ar dL_isJoin_111 S (by decide) (by omega) rf ?_
            refine z_iload dL_isJoin_112 rfl ?_
            refine z_callV dL_isJoin_114 cv0_L_61 (q_rowsIn hG S hfl (by rw [← hP]; exact hpl)) rfl S.c rfl rfl ⟨(Nat.le_of_ble_eq_true rfl), (Nat.le_of_ble_eq_true rfl)⟩ (Nat.le_of_ble_eq_true rfl) (Nat.le_of_ble_eq_true rfl) (Nat.le_of_ble_eq_true rfl) (fun v σ1 nx1 hx1 hq1 => ?_)
            obtain ⟨rfl, S, rfl⟩ := hq1
            rw [← hP]
            refine z_icmp_ge (tgt := 198) dL_isJoin_117 (by decide) (fun _ => ?_) (fun q_9 => absurd ((nI_le (Nat.le_refl _) (by omega))) q_9)
            refine z_iload dL_isJoin_198 rfl ?_
            refine z_if_eq (tgt := 225) dL_isJoin_200 (by decide) (fun q_9 => absurd q_9 (((by decide)))) (fun _ => ?_)
            refine z_iload dL_isJoin_203 rfl ?_
            refine z_if_eq (tgt := 221) dL_isJoin_205 (by decide) (fun _ => ?_) (fun q_9 => absurd ((rfl)) q_9)
            refine z_iconst (v := 1) dL_isJoin_221 (by decide) ?_
            refine z_goto (tgt := 226) dL_isJoin_222 (by decide) ?_
            refine z_istore dL_isJoin_226 (by decide) ?_
            refine z_iload dL_isJoin_228 rfl ?_
            refine z_iload dL_isJoin_230 rfl ?_
            refine z_iadd dL_isJoin_232 ?_
            refine z_istore dL_isJoin_233 (by decide) ?_
            refine z_inc1 dL_isJoin_235 rfl (by decide) ?_
            rw [nI_1]
            refine z_goto (tgt := 86) dL_isJoin_238 (by decide) ?_
            exact nxt _ _ _ _ (by omega) S
        | succ e9 ie =>
          intro j σ2 x13 hj S
          have hjl : j < zsz P p := by omega
          have nxt := ie (j + 1)
          rw [zpx_s hjl, zjs_s, ztake (zrw_at2 hjl), zcm_s, ← nI_add] at nxt
          obtain ⟨x, hx⟩ : ∃ x, x = zrw P p j := ⟨_, rfl⟩
          rw [← hx, zj1] at nxt
          refine z_iload dL_isJoin_105 rfl ?_
          refine z_aload_n dL_isJoin_107 rfl ?_
          refine z_aload_n dL_isJoin_108 rfl ?_
          refine z_iload dL_isJoin_109 rfl ?_
          refine z_ar dL_isJoin_111 S (by decide) (by omega) rf ?_
          refine z_iload dL_isJoin_112 rfl ?_
          refine z_callV dL_isJoin_114 cv0_L_61 (q_rowsIn hG S hfl (by rw [← hP]; exact hpl)) rfl S.c rfl rfl ⟨(Nat.le_of_ble_eq_true rfl), (Nat.le_of_ble_eq_true rfl)⟩ (Nat.le_of_ble_eq_true rfl) (Nat.le_of_ble_eq_true rfl) (Nat.le_of_ble_eq_true rfl) (fun v σ1 nx1 hx1 hq1 => ?_)
          obtain ⟨rfl, S, rfl⟩ := hq1
          rw [← hP]
          refine z_icmp_ge (tgt := 198) dL_isJoin_117 (by decide) (fun q_9 => absurd q_9 ((nI_ge hjl (by omega)))) (fun _ => ?_)
          refine z_aload_n dL_isJoin_120 rfl ?_
          refine z_aload_n dL_isJoin_121 rfl ?_
          refine z_iload dL_isJoin_122 rfl ?_
          refine z_ar dL_isJoin_124 S (by decide) (by omega) rs ?_
          refine z_aload_n dL_isJoin_125 rfl ?_
          refine z_aload_n dL_isJoin_126 rfl ?_
          refine z_iload dL_isJoin_127 rfl ?_
          refine z_ar dL_isJoin_129 S (by decide) (by omega) rf ?_
          refine z_iload dL_isJoin_130 rfl ?_
          refine z_iload dL_isJoin_132 rfl ?_
          refine z_callV dL_isJoin_134 cv0_L_67 (q_keyAt hG S hfl (by rw [← hP]; exact hpl) (by rw [← hP]; exact hjl)) rfl S.c rfl rfl ⟨(Nat.le_of_ble_eq_true rfl), (Nat.le_of_ble_eq_true rfl)⟩ (Nat.le_of_ble_eq_true rfl) (Nat.le_of_ble_eq_true rfl) (Nat.le_of_ble_eq_true rfl) (fun v σ1 nx1 hx1 hq1 => ?_)
          obtain ⟨rfl, S, rfl⟩ := hq1
          rw [← hP, ← hx]
          refine z_iconst (v := 3) dL_isJoin_137 (by decide) ?_
          refine z_callS dL_isJoin_138 cv_L_115 (l_grouped (h := 3) hG S hsl (by decide)) rfl rfl ⟨(Nat.le_of_ble_eq_true rfl), (Nat.le_of_ble_eq_true rfl)⟩ (Nat.le_of_ble_eq_true rfl) (Nat.le_of_ble_eq_true rfl) (Nat.le_of_ble_eq_true rfl) (fun v σ1 nx1 hx1 hq1 => ?_)
          obtain ⟨rfl, S, rfl⟩ := hq1
          rw [zgo3, ← hT]
          refine z_istore dL_isJoin_141 (by decide) ?_
          refine z_iload dL_isJoin_143 rfl ?_
          refine z_iload dL_isJoin_145 rfl ?_
          refine z_iadd dL_isJoin_147 ?_
          refine z_istore dL_isJoin_148 (by decide) ?_
          refine z_iload dL_isJoin_150 rfl ?_
          refine z_iload dL_isJoin_152 rfl ?_
          refine z_aload_n dL_isJoin_154 rfl ?_
          refine z_aload_n dL_isJoin_155 rfl ?_
          refine z_iload dL_isJoin_156 rfl ?_
          refine z_ar dL_isJoin_158 S (by decide) (by omega) rf ?_
          refine z_iload dL_isJoin_159 rfl ?_
          refine z_iload dL_isJoin_161 rfl ?_
          refine z_callV dL_isJoin_163 cv0_L_70 (q_valueAt hG S hfl (by rw [← hP]; exact hpl) (by rw [← hP]; exact hjl)) rfl S.c rfl rfl ⟨(Nat.le_of_ble_eq_true rfl), (Nat.le_of_ble_eq_true rfl)⟩ (Nat.le_of_ble_eq_true rfl) (Nat.le_of_ble_eq_true rfl) (Nat.le_of_ble_eq_true rfl) (fun v σ1 nx1 hx1 hq1 => ?_)
          obtain ⟨rfl, S, rfl⟩ := hq1
          rw [← hP, ← hx]
          refine z_imul dL_isJoin_166 ?_
          refine z_aload_n dL_isJoin_167 rfl ?_
          refine z_aload_n dL_isJoin_168 rfl ?_
          refine z_iload dL_isJoin_169 rfl ?_
          refine z_ar dL_isJoin_171 S (by decide) (by omega) rs ?_
          refine z_aload_n dL_isJoin_172 rfl ?_
          refine z_aload_n dL_isJoin_173 rfl ?_
          refine z_iload dL_isJoin_174 rfl ?_
          refine z_ar dL_isJoin_176 S (by decide) (by omega) rf ?_
          refine z_iload dL_isJoin_177 rfl ?_
          refine z_iload dL_isJoin_179 rfl ?_
          refine z_callV dL_isJoin_181 cv0_L_67 (q_keyAt hG S hfl (by rw [← hP]; exact hpl) (by rw [← hP]; exact hjl)) rfl S.c rfl rfl ⟨(Nat.le_of_ble_eq_true rfl), (Nat.le_of_ble_eq_true rfl)⟩ (Nat.le_of_ble_eq_true rfl) (Nat.le_of_ble_eq_true rfl) (Nat.le_of_ble_eq_true rfl) (fun v σ1 nx1 hx1 hq1 => ?_)
          obtain ⟨rfl, S, rfl⟩ := hq1
          rw [← hP, ← hx]
          refine z_iconst (v := 0) dL_isJoin_184 (by decide) ?_
          refine z_callS dL_isJoin_185 cv_L_115 (l_grouped (h := 0) hG S hsl (by decide)) rfl rfl ⟨(Nat.le_of_ble_eq_true rfl), (Nat.le_of_ble_eq_true rfl)⟩ (Nat.le_of_ble_eq_true rfl) (Nat.le_of_ble_eq_true rfl) (Nat.le_of_ble_eq_true rfl) (fun v σ1 nx1 hx1 hq1 => ?_)
          obtain ⟨rfl, S, rfl⟩ := hq1
          rw [← hT]
          refine z_iadd dL_isJoin_188 ?_
          refine z_iadd dL_isJoin_189 ?_
          refine z_istore dL_isJoin_190 (by decide) ?_
          refine z_inc1 dL_isJoin_192 rfl (by decide) ?_
          rw [nI_1]
          refine z_goto (tgt := 105) dL_isJoin_195 (by decide) ?_
          exact nxt _ _ (by omega) S
      have in0 := inner (zsz P p) 0
      rw [List.take_zero, show zcm T [] = 0 from rfl] at in0
      refine z_iload dL_isJoin_86 rfl ?_
      refine z_aload_n dL_isJoin_88 rfl ?_
      refine z_aload_n dL_isJoin_89 rfl ?_
      refine z_iload dL_isJoin_90 rfl ?_
      refine z_ar dL_isJoin_92 S (by decide) (by omega) rf ?_
      refine z_callV dL_isJoin_93 cv0_L_58 (q_partitions hG S hfl) rfl S.c rfl rfl ⟨(Nat.le_of_ble_eq_true rfl), (Nat.le_of_ble_eq_true rfl)⟩ (Nat.le_of_ble_eq_true rfl) (Nat.le_of_ble_eq_true rfl) (Nat.le_of_ble_eq_true rfl) (fun v σ1 nx1 hx1 hq1 => ?_)
      obtain ⟨rfl, S, rfl⟩ := hq1
      rw [← hP]
      refine z_icmp_ge (tgt := 241) dL_isJoin_96 (by decide) (fun q_9 => absurd q_9 ((nI_ge hpl (by omega)))) (fun _ => ?_)
      refine z_iconst (v := 0) dL_isJoin_99 (by decide) ?_
      refine z_istore dL_isJoin_100 (by decide) ?_
      refine z_iconst (v := 0) dL_isJoin_102 (by decide) ?_
      refine z_istore dL_isJoin_103 (by decide) ?_
      exact in0 _ _ (Nat.zero_add _) S
  have l1 := outer1 P.length 0
  rw [zpx_0, show zcm T [] = 0 from rfl, show zjs T [] = 0 from rfl] at l1
  by_cases hb : T.length ≤ lim
  · obtain ⟨c1, c2⟩ := hB hb
    rw [if_pos hb] at hfl1
    subst hfl1
    refine z_aload_n dL_isJoin_0 rfl ?_
    refine z_aload_n dL_isJoin_1 rfl ?_
    refine z_iload dL_isJoin_2 rfl ?_
    refine z_ar dL_isJoin_4 S (by decide) (by omega) rs ?_
    refine z_callV dL_isJoin_5 cv0_L_64 (q_rows hG S hsl) rfl S.c rfl rfl ⟨(Nat.le_of_ble_eq_true rfl), (Nat.le_of_ble_eq_true rfl)⟩ (Nat.le_of_ble_eq_true rfl) (Nat.le_of_ble_eq_true rfl) (Nat.le_of_ble_eq_true rfl) (fun v σ1 nx1 hx1 hq1 => ?_)
    obtain ⟨rfl, S, rfl⟩ := hq1
    rw [← hT]
    refine z_aload dL_isJoin_8 rfl ?_
    refine z_iconst (v := 1) dL_isJoin_10 (by decide) ?_
    refine z_gr dL_isJoin_11 S (i := 1) (by decide) hlim ?_
    refine z_icmp_gt (tgt := 19) dL_isJoin_12 (by decide) (fun q_9 => absurd q_9 (((nI_nlt hb (by omega))))) (fun _ => ?_)
    refine z_iconst (v := 1) dL_isJoin_15 (by decide) ?_
    refine z_goto (tgt := 20) dL_isJoin_16 (by decide) ?_
    refine z_istore dL_isJoin_20 (by decide) ?_
    refine z_aload_n dL_isJoin_22 rfl ?_
    refine z_iload dL_isJoin_23 rfl ?_
    refine z_callH dL_isJoin_25 ch0_L_119 (g_broad hG S hi hk) rfl rfl ⟨(Nat.le_of_ble_eq_true rfl), (Nat.le_of_ble_eq_true rfl)⟩ (Nat.le_of_ble_eq_true rfl) (Nat.le_of_ble_eq_true rfl) (Nat.le_of_ble_eq_true rfl) (fun v σ1 nx1 hx1 hq1 => ?_)
    obtain ⟨rfl, S, rfl⟩ := hq1
    rw [hzb, decide_eq_true hb, if_pos rfl]
    refine z_iload dL_isJoin_28 rfl ?_
    refine z_if_eq (tgt := 37) dL_isJoin_30 (by decide) (fun q_9 => absurd q_9 (((by decide)))) (fun _ => ?_)
    refine z_iconst (v := 1) dL_isJoin_33 (by decide) ?_
    refine z_goto (tgt := 38) dL_isJoin_34 (by decide) ?_
    refine z_icmp_ne (tgt := 74) dL_isJoin_38 (by decide) (fun q_9 => absurd ((rfl)) q_9) (fun _ => ?_)
    refine z_aload_n dL_isJoin_41 rfl ?_
    refine z_iload dL_isJoin_42 rfl ?_
    refine z_callV dL_isJoin_44 cv0_L_58 (q_partitions hG S hi) rfl S.c rfl rfl ⟨(Nat.le_of_ble_eq_true rfl), (Nat.le_of_ble_eq_true rfl)⟩ (Nat.le_of_ble_eq_true rfl) (Nat.le_of_ble_eq_true rfl) (Nat.le_of_ble_eq_true rfl) (fun v σ1 nx1 hx1 hq1 => ?_)
    obtain ⟨rfl, S, rfl⟩ := hq1
    refine z_iload dL_isJoin_47 rfl ?_
    refine z_if_eq (tgt := 63) dL_isJoin_49 (by decide) (fun q_9 => absurd q_9 (((by decide)))) (fun _ => ?_)
    refine z_aload_n dL_isJoin_52 rfl ?_
    refine z_aload_n dL_isJoin_53 rfl ?_
    refine z_iload dL_isJoin_54 rfl ?_
    refine z_ar dL_isJoin_56 S (by decide) (by omega) rf ?_
    refine z_callV dL_isJoin_57 cv0_L_58 (q_partitions hG S hfl) rfl S.c rfl rfl ⟨(Nat.le_of_ble_eq_true rfl), (Nat.le_of_ble_eq_true rfl)⟩ (Nat.le_of_ble_eq_true rfl) (Nat.le_of_ble_eq_true rfl) (Nat.le_of_ble_eq_true rfl) (fun v σ1 nx1 hx1 hq1 => ?_)
    obtain ⟨rfl, S, rfl⟩ := hq1
    refine z_goto (tgt := 67) dL_isJoin_60 (by decide) ?_
    rw [← hP, c1]
    refine z_icmp_ne (tgt := 74) dL_isJoin_67 (by decide) (fun q_9 => absurd ((rfl)) q_9) (fun _ => ?_)
    refine z_iconst (v := 1) dL_isJoin_70 (by decide) ?_
    refine z_goto (tgt := 75) dL_isJoin_71 (by decide) ?_
    refine z_istore dL_isJoin_75 (by decide) ?_
    refine z_iconst (v := 0) dL_isJoin_77 (by decide) ?_
    refine z_istore dL_isJoin_78 (by decide) ?_
    refine z_iconst (v := 0) dL_isJoin_80 (by decide) ?_
    refine z_istore dL_isJoin_81 (by decide) ?_
    refine z_iconst (v := 0) dL_isJoin_83 (by decide) ?_
    refine z_istore dL_isJoin_84 (by decide) ?_
    exact l1 _ _ _ _ (Nat.zero_add _) S
  · obtain ⟨c1, -⟩ := hC hb
    rw [if_neg hb] at hfl1
    subst hfl1
    refine z_aload_n dL_isJoin_0 rfl ?_
    refine z_aload_n dL_isJoin_1 rfl ?_
    refine z_iload dL_isJoin_2 rfl ?_
    refine z_ar dL_isJoin_4 S (by decide) (by omega) rs ?_
    refine z_callV dL_isJoin_5 cv0_L_64 (q_rows hG S hsl) rfl S.c rfl rfl ⟨(Nat.le_of_ble_eq_true rfl), (Nat.le_of_ble_eq_true rfl)⟩ (Nat.le_of_ble_eq_true rfl) (Nat.le_of_ble_eq_true rfl) (Nat.le_of_ble_eq_true rfl) (fun v σ1 nx1 hx1 hq1 => ?_)
    obtain ⟨rfl, S, rfl⟩ := hq1
    rw [← hT]
    refine z_aload dL_isJoin_8 rfl ?_
    refine z_iconst (v := 1) dL_isJoin_10 (by decide) ?_
    refine z_gr dL_isJoin_11 S (i := 1) (by decide) hlim ?_
    refine z_icmp_gt (tgt := 19) dL_isJoin_12 (by decide) (fun _ => ?_) (fun q_9 => absurd (((nI_lt (by omega) (by omega)))) q_9)
    refine z_iconst (v := 0) dL_isJoin_19 (by decide) ?_
    refine z_istore dL_isJoin_20 (by decide) ?_
    refine z_aload_n dL_isJoin_22 rfl ?_
    refine z_iload dL_isJoin_23 rfl ?_
    refine z_callH dL_isJoin_25 ch0_L_119 (g_broad hG S hi hk) rfl rfl ⟨(Nat.le_of_ble_eq_true rfl), (Nat.le_of_ble_eq_true rfl)⟩ (Nat.le_of_ble_eq_true rfl) (Nat.le_of_ble_eq_true rfl) (Nat.le_of_ble_eq_true rfl) (fun v σ1 nx1 hx1 hq1 => ?_)
    obtain ⟨rfl, S, rfl⟩ := hq1
    rw [hzb, decide_eq_false hb, if_neg (by decide)]
    refine z_iload dL_isJoin_28 rfl ?_
    refine z_if_eq (tgt := 37) dL_isJoin_30 (by decide) (fun _ => ?_) (fun q_9 => absurd ((rfl)) q_9)
    refine z_iconst (v := 0) dL_isJoin_37 (by decide) ?_
    refine z_icmp_ne (tgt := 74) dL_isJoin_38 (by decide) (fun q_9 => absurd ((rfl)) q_9) (fun _ => ?_)
    refine z_aload_n dL_isJoin_41 rfl ?_
    refine z_iload dL_isJoin_42 rfl ?_
    refine z_callV dL_isJoin_44 cv0_L_58 (q_partitions hG S hi) rfl S.c rfl rfl ⟨(Nat.le_of_ble_eq_true rfl), (Nat.le_of_ble_eq_true rfl)⟩ (Nat.le_of_ble_eq_true rfl) (Nat.le_of_ble_eq_true rfl) (Nat.le_of_ble_eq_true rfl) (fun v σ1 nx1 hx1 hq1 => ?_)
    obtain ⟨rfl, S, rfl⟩ := hq1
    refine z_iload dL_isJoin_47 rfl ?_
    refine z_if_eq (tgt := 63) dL_isJoin_49 (by decide) (fun _ => ?_) (fun q_9 => absurd ((rfl)) q_9)
    refine z_aload_n dL_isJoin_63 rfl ?_
    refine z_iload dL_isJoin_64 rfl ?_
    refine z_ar dL_isJoin_66 S (by decide) (by omega) r3 ?_
    rw [c1]
    refine z_icmp_ne (tgt := 74) dL_isJoin_67 (by decide) (fun q_9 => absurd ((rfl)) q_9) (fun _ => ?_)
    refine z_iconst (v := 1) dL_isJoin_70 (by decide) ?_
    refine z_goto (tgt := 75) dL_isJoin_71 (by decide) ?_
    refine z_istore dL_isJoin_75 (by decide) ?_
    refine z_iconst (v := 0) dL_isJoin_77 (by decide) ?_
    refine z_istore dL_isJoin_78 (by decide) ?_
    refine z_iconst (v := 0) dL_isJoin_80 (by decide) ?_
    refine z_istore dL_isJoin_81 (by decide) ?_
    refine z_iconst (v := 0) dL_isJoin_83 (by decide) ?_
    refine z_istore dL_isJoin_84 (by decide) ?_
    exact l1 _ _ _ _ (Nat.zero_add _) S
end
