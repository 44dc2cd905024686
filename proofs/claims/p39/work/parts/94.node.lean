/-! the law: a node -/
theorem zW1.badI {G : zG} {σ σ' : zH} {b c : Nat} {P : zUv → Int32 → Prop} {u : zUv} {v : Option Value} {R : Nat → Nat → Int32} (h : zW1 G σ σ' b (b + 82) P c u [(zEI, 1)] v) (hc : c ≠ 0) (S : zVs G σ b u R) : v = some (.int (-30)) ∧ zVs G σ' b u R := by
  rcases h with ⟨h, -⟩ | ⟨E, ⟨h1, h2, h3⟩, h4⟩
  · exact absurd h hc
  · have e : E = zEI := (Prod.mk.inj (List.mem_singleton.mp h3)).1
    rw [e, zxc_I] at h4
    exact ⟨h4, h1, S.2.1, S.2.2.fr h2⟩
theorem zW1.bad2 {G : zG} {σ σ' : zH} {b c : Nat} {P : zUv → Int32 → Prop} {u : zUv} {v : Option Value} {R : Nat → Nat → Int32} {E1 E2 : String} (h : zW1 G σ σ' b (b + 82) P c u [(E1, 1), (E2, 2)] v) (S : zVs G σ b u R) : (c = 1 → v = some (.int (zxc E1)) ∧ zVs G σ' b u R) ∧ (c = 2 → v = some (.int (zxc E2)) ∧ zVs G σ' b u R) := by
  rcases h with ⟨h, -⟩ | ⟨E, ⟨h1, h2, h3⟩, h4⟩
  · exact ⟨fun w => by omega, fun w => by omega⟩
  · simp only [List.mem_cons, List.mem_nil_iff, or_false, Prod.mk.injEq] at h3
    rcases h3 with ⟨e, c1⟩ | ⟨e, c1⟩
    · rw [e] at h4
      exact ⟨fun _ => ⟨h4, h1, S.2.1, S.2.2.fr h2⟩, fun w => by omega⟩
    · rw [e] at h4
      exact ⟨fun w => by omega, fun _ => ⟨h4, h1, S.2.1, S.2.2.fr h2⟩⟩
theorem zkp_bad {nt : zNT} {lim i p : Nat} {z : Int32} (hi : i < 2 ^ 31) (hp : p < 2 ^ 31) (h : z < 0 ∨ nI (zsz (zct lim nt i) p) ≤ z) : zk_place lim nt (nI i) (nI p) z ≠ 0 := by
  unfold zk_place
  rw [nI_clamp hi, nI_clamp hp, if_pos (Or.inr (znob_no h))]
  decide
theorem zkt_bad {nt : zNT} {lim i : Nat} {y : Int32} (hi : i < 2 ^ 31) (h : y < 0 ∨ nI (zct lim nt i).length ≤ y) : zk_part lim nt (nI i) y ≠ 0 := by
  unfold zk_part
  rw [nI_clamp hi, if_pos (Or.inr (znob_no h))]
  decide
section
variable {G : zG} {σ : zH} {b nx : Nat} {R : Nat → Nat → Int32} {nt : zNT} {lim mem wk r tk sp cs : Nat} {slow : Nat → Nat} {L : zNS} {A : List zAE}
set_option maxRecDepth 100000 in
set_option maxHeartbeats 8000000 in
theorem l_isNode {i : Nat} (hG : zKap G) (hnx : b + 82 ≤ nx) (S : zVs G σ b (nt, lim, mem, wk, slow, r, L, A, tk, sp, cs) R) (hr : zRl nt R) (hlim : R 7 1 = nI lim) (hi : i < nt.length) : zM G yL_isNode kL_isNode [.ref b, .ref (b + 74 + 0), .ref (b + 74 + 1), .ref (b + 74 + 2), .ref (b + 74 + 3), .ref (b + 74 + 4), .ref (b + 74 + 5), .ref (b + 81), .int (nI i)] σ nx (fun v σ' nx' => v = some (.int 1) ∧ zVs G σ' b (nt, lim, mem, wk, slow, r, L, A, tk, sp, cs) R) := by
  refine zM.of (ls := [some (.ref b), some (.ref (b + 74 + 0)), some (.ref (b + 74 + 1)), some (.ref (b + 74 + 2)), some (.ref (b + 74 + 3)), some (.ref (b + 74 + 4)), some (.ref (b + 74 + 5)), some (.ref (b + 81)), some (.int (nI i)), none, none, none, none, none, none, none, none]) (by decide +kernel) ⟨rfl, rfl, rfl⟩ (Nat.le_of_ble_eq_true rfl) (fun _ h => h) ?_
  have h14 : nt.length ≤ 14 := S.2.1.2.2.1
  obtain ⟨e, f, s, p0, hg, k6, ke, r0, ⟨r4, hb3, r5, hw1, hw8⟩, -, -, hp, r10, -, -, -, -, -, hcon, hle, hwd, h1⟩ := zNi (lim := lim) S.2.1.1 h14 hr hi
  obtain ⟨P, hP⟩ : ∃ P, P = zct lim nt i := ⟨_, rfl⟩
  rw [← hP] at hcon hle hwd h1
  have pbad : ∀ {p : Nat} {z : Int32}, p < P.length → (z < 0 ∨ nI (zsz P p) ≤ z) → zk_place lim nt (nI i) (nI p) z ≠ 0 := fun hp h => zkp_bad (by omega) (by omega) (by rw [← hP]; exact h)
  -- the end: by kinds
  have last : ∀ (σ2 : zH) (nx2 : Nat) (x9 x10 x13 x14 x15 x16 : Option Value), zVs G σ2 b (nt, lim, mem, wk, slow, r, L, A, tk, sp, cs) R →
      zWP G kL_isNode (zFM G kL_isNode.2.2.2.1 (fun v σ' nx' => v = some (.int 1) ∧ zVs G σ' b (nt, lim, mem, wk, slow, r, L, A, tk, sp, cs) R)) 257 [some (.ref b), some (.ref (b + 74 + 0)), some (.ref (b + 74 + 1)), some (.ref (b + 74 + 2)), some (.ref (b + 74 + 3)), some (.ref (b + 74 + 4)), some (.ref (b + 74 + 5)), some (.ref (b + 81)), some (.int (nI i)), x9, x10, some (.int (nI P.length)), some (.int 1), x13, x14, x15, x16] [] σ2 nx2 60 360 := by
    intro σ2 nx2 x9 x10 x13 x14 x15 x16 S
    rcases (show e.2.1 = 0 ∨ e.2.1 = 1 ∨ e.2.1 = 2 ∨ e.2.1 = 3 ∨ e.2.1 = 4 ∨ e.2.1 = 5 by omega) with k | k | k | k | k | k
    · have hl : P.length = p0 := by
        rw [hcon, zcont, k, if_pos rfl, (hp (Or.inl k)).2.2, zdeal, zrng_len]
      rw [k] at r0
      refine z_iload dL_isNode_257 rfl ?_
      refine z_if_eq (tgt := 269) dL_isNode_259 (by decide) (fun q_9 => absurd q_9 (((by decide)))) (fun _ => ?_)
      refine z_aload_n dL_isNode_262 rfl ?_
      refine z_iload dL_isNode_263 rfl ?_
      refine z_ar dL_isNode_265 S (by decide) (by omega) r0 ?_
      refine z_if_ne (tgt := 296) dL_isNode_266 (by decide) (fun q_9 => absurd ((rfl)) q_9) (fun _ => ?_)
      refine z_iload dL_isNode_269 rfl ?_
      refine z_if_eq (tgt := 294) dL_isNode_271 (by decide) (fun q_9 => absurd q_9 (((by decide)))) (fun _ => ?_)
      refine z_aload_n dL_isNode_274 rfl ?_
      refine z_iload dL_isNode_275 rfl ?_
      refine z_ar dL_isNode_277 S (by decide) (by omega) r0 ?_
      refine z_if_gt (tgt := 290) dL_isNode_278 (by decide) (fun q_9 => absurd q_9 (((by decide)))) (fun _ => ?_)
      refine z_iload dL_isNode_281 rfl ?_
      refine z_aload_n dL_isNode_283 rfl ?_
      refine z_iload dL_isNode_284 rfl ?_
      refine z_ar dL_isNode_286 S (by decide) (by omega) (r10 k) ?_
      rw [hl]
      refine z_icmp_ne (tgt := 294) dL_isNode_287 (by decide) (fun q_9 => absurd ((rfl)) q_9) (fun _ => ?_)
      refine z_iconst (v := 1) dL_isNode_290 (by decide) ?_
      refine z_goto (tgt := 295) dL_isNode_291 (by decide) ?_
      exact z_zret dL_isNode_295 rfl rfl (Nat.le_of_ble_eq_true rfl) (Nat.le_of_ble_eq_true rfl) ⟨rfl, S⟩
    · rw [k] at r0
      refine z_iload dL_isNode_257 rfl ?_
      refine z_if_eq (tgt := 269) dL_isNode_259 (by decide) (fun q_9 => absurd q_9 (((by decide)))) (fun _ => ?_)
      refine z_aload_n dL_isNode_262 rfl ?_
      refine z_iload dL_isNode_263 rfl ?_
      refine z_ar dL_isNode_265 S (by decide) (by omega) r0 ?_
      refine z_if_ne (tgt := 296) dL_isNode_266 (by decide) (fun _ => ?_) (fun q_9 => absurd q_9 (((by decide))))
      refine z_aload_n dL_isNode_296 rfl ?_
      refine z_iload dL_isNode_297 rfl ?_
      refine z_ar dL_isNode_299 S (by decide) (by omega) r0 ?_
      refine z_iconst (v := 3) dL_isNode_300 (by decide) ?_
      refine z_icmp_ge (tgt := 320) dL_isNode_301 (by decide) (fun q_9 => absurd q_9 (((by decide)))) (fun _ => ?_)
      refine z_aload_n dL_isNode_304 rfl ?_
      refine z_aload_n dL_isNode_305 rfl ?_
      refine z_aload_n dL_isNode_306 rfl ?_
      refine z_aload_n dL_isNode_307 rfl ?_
      refine z_aload dL_isNode_308 rfl ?_
      refine z_aload dL_isNode_310 rfl ?_
      refine z_iload dL_isNode_312 rfl ?_
      refine z_callS dL_isNode_314 cv_L_123 (l_isMappedM hG S hr hi (ke.trans k)) rfl rfl ⟨(Nat.le_of_ble_eq_true rfl), (Nat.le_of_ble_eq_true rfl)⟩ (Nat.le_of_ble_eq_true rfl) (Nat.le_of_ble_eq_true rfl) (Nat.le_of_ble_eq_true rfl) (fun v σ1 nx1 hx1 hq1 => ?_)
      obtain ⟨rfl, S, rfl⟩ := hq1
      refine z_goto (tgt := 372) dL_isNode_317 (by decide) ?_
      exact z_zret dL_isNode_372 rfl rfl (Nat.le_of_ble_eq_true rfl) (Nat.le_of_ble_eq_true rfl) ⟨rfl, S⟩
    · rw [k] at r0
      refine z_iload dL_isNode_257 rfl ?_
      refine z_if_eq (tgt := 269) dL_isNode_259 (by decide) (fun q_9 => absurd q_9 (((by decide)))) (fun _ => ?_)
      refine z_aload_n dL_isNode_262 rfl ?_
      refine z_iload dL_isNode_263 rfl ?_
      refine z_ar dL_isNode_265 S (by decide) (by omega) r0 ?_
      refine z_if_ne (tgt := 296) dL_isNode_266 (by decide) (fun _ => ?_) (fun q_9 => absurd q_9 (((by decide))))
      refine z_aload_n dL_isNode_296 rfl ?_
      refine z_iload dL_isNode_297 rfl ?_
      refine z_ar dL_isNode_299 S (by decide) (by omega) r0 ?_
      refine z_iconst (v := 3) dL_isNode_300 (by decide) ?_
      refine z_icmp_ge (tgt := 320) dL_isNode_301 (by decide) (fun q_9 => absurd q_9 (((by decide)))) (fun _ => ?_)
      refine z_aload_n dL_isNode_304 rfl ?_
      refine z_aload_n dL_isNode_305 rfl ?_
      refine z_aload_n dL_isNode_306 rfl ?_
      refine z_aload_n dL_isNode_307 rfl ?_
      refine z_aload dL_isNode_308 rfl ?_
      refine z_aload dL_isNode_310 rfl ?_
      refine z_iload dL_isNode_312 rfl ?_
      refine z_callS dL_isNode_314 cv_L_123 (l_isMappedF hG S hr hi (ke.trans k)) rfl rfl ⟨(Nat.le_of_ble_eq_true rfl), (Nat.le_of_ble_eq_true rfl)⟩ (Nat.le_of_ble_eq_true rfl) (Nat.le_of_ble_eq_true rfl) (Nat.le_of_ble_eq_true rfl) (fun v σ1 nx1 hx1 hq1 => ?_)
      obtain ⟨rfl, S, rfl⟩ := hq1
      refine z_goto (tgt := 372) dL_isNode_317 (by decide) ?_
      exact z_zret dL_isNode_372 rfl rfl (Nat.le_of_ble_eq_true rfl) (Nat.le_of_ble_eq_true rfl) ⟨rfl, S⟩
    · rw [k] at r0
      refine z_iload dL_isNode_257 rfl ?_
      refine z_if_eq (tgt := 269) dL_isNode_259 (by decide) (fun q_9 => absurd q_9 (((by decide)))) (fun _ => ?_)
      refine z_aload_n dL_isNode_262 rfl ?_
      refine z_iload dL_isNode_263 rfl ?_
      refine z_ar dL_isNode_265 S (by decide) (by omega) r0 ?_
      refine z_if_ne (tgt := 296) dL_isNode_266 (by decide) (fun _ => ?_) (fun q_9 => absurd q_9 (((by decide))))
      refine z_aload_n dL_isNode_296 rfl ?_
      refine z_iload dL_isNode_297 rfl ?_
      refine z_ar dL_isNode_299 S (by decide) (by omega) r0 ?_
      refine z_iconst (v := 3) dL_isNode_300 (by decide) ?_
      refine z_icmp_ge (tgt := 320) dL_isNode_301 (by decide) (fun _ => ?_) (fun q_9 => absurd (((by decide))) q_9)
      refine z_aload_n dL_isNode_320 rfl ?_
      refine z_iload dL_isNode_321 rfl ?_
      refine z_ar dL_isNode_323 S (by decide) (by omega) r0 ?_
      refine z_iconst (v := 3) dL_isNode_324 (by decide) ?_
      refine z_icmp_ne (tgt := 339) dL_isNode_325 (by decide) (fun q_9 => absurd ((rfl)) q_9) (fun _ => ?_)
      refine z_aload_n dL_isNode_328 rfl ?_
      refine z_aload_n dL_isNode_329 rfl ?_
      refine z_aload_n dL_isNode_330 rfl ?_
      refine z_iload dL_isNode_331 rfl ?_
      refine z_callS dL_isNode_333 cv_L_127 (l_isUnion hG S hr hi (ke.trans k)) rfl rfl ⟨(Nat.le_of_ble_eq_true rfl), (Nat.le_of_ble_eq_true rfl)⟩ (Nat.le_of_ble_eq_true rfl) (Nat.le_of_ble_eq_true rfl) (Nat.le_of_ble_eq_true rfl) (fun v σ1 nx1 hx1 hq1 => ?_)
      obtain ⟨rfl, S, rfl⟩ := hq1
      refine z_goto (tgt := 372) dL_isNode_336 (by decide) ?_
      exact z_zret dL_isNode_372 rfl rfl (Nat.le_of_ble_eq_true rfl) (Nat.le_of_ble_eq_true rfl) ⟨rfl, S⟩
    · rw [k] at r0
      refine z_iload dL_isNode_257 rfl ?_
      refine z_if_eq (tgt := 269) dL_isNode_259 (by decide) (fun q_9 => absurd q_9 (((by decide)))) (fun _ => ?_)
      refine z_aload_n dL_isNode_262 rfl ?_
      refine z_iload dL_isNode_263 rfl ?_
      refine z_ar dL_isNode_265 S (by decide) (by omega) r0 ?_
      refine z_if_ne (tgt := 296) dL_isNode_266 (by decide) (fun _ => ?_) (fun q_9 => absurd q_9 (((by decide))))
      refine z_aload_n dL_isNode_296 rfl ?_
      refine z_iload dL_isNode_297 rfl ?_
      refine z_ar dL_isNode_299 S (by decide) (by omega) r0 ?_
      refine z_iconst (v := 3) dL_isNode_300 (by decide) ?_
      refine z_icmp_ge (tgt := 320) dL_isNode_301 (by decide) (fun _ => ?_) (fun q_9 => absurd (((by decide))) q_9)
      refine z_aload_n dL_isNode_320 rfl ?_
      refine z_iload dL_isNode_321 rfl ?_
      refine z_ar dL_isNode_323 S (by decide) (by omega) r0 ?_
      refine z_iconst (v := 3) dL_isNode_324 (by decide) ?_
      refine z_icmp_ne (tgt := 339) dL_isNode_325 (by decide) (fun _ => ?_) (fun q_9 => absurd q_9 (((by decide))))
      refine z_aload_n dL_isNode_339 rfl ?_
      refine z_iload dL_isNode_340 rfl ?_
      refine z_ar dL_isNode_342 S (by decide) (by omega) r0 ?_
      refine z_iconst (v := 4) dL_isNode_343 (by decide) ?_
      refine z_icmp_ne (tgt := 360) dL_isNode_344 (by decide) (fun q_9 => absurd ((rfl)) q_9) (fun _ => ?_)
      refine z_aload_n dL_isNode_347 rfl ?_
      refine z_aload_n dL_isNode_348 rfl ?_
      refine z_aload_n dL_isNode_349 rfl ?_
      refine z_aload dL_isNode_350 rfl ?_
      refine z_iload dL_isNode_352 rfl ?_
      refine z_callS dL_isNode_354 cv_L_131 (l_isGroup hG S hr hi (ke.trans k)) rfl rfl ⟨(Nat.le_of_ble_eq_true rfl), (Nat.le_of_ble_eq_true rfl)⟩ (Nat.le_of_ble_eq_true rfl) (Nat.le_of_ble_eq_true rfl) (Nat.le_of_ble_eq_true rfl) (fun v σ1 nx1 hx1 hq1 => ?_)
      obtain ⟨rfl, S, rfl⟩ := hq1
      refine z_goto (tgt := 372) dL_isNode_357 (by decide) ?_
      exact z_zret dL_isNode_372 rfl rfl (Nat.le_of_ble_eq_true rfl) (Nat.le_of_ble_eq_true rfl) ⟨rfl, S⟩
    · rw [k] at r0
      refine z_iload dL_isNode_257 rfl ?_
      refine z_if_eq (tgt := 269) dL_isNode_259 (by decide) (fun q_9 => absurd q_9 (((by decide)))) (fun _ => ?_)
      refine z_aload_n dL_isNode_262 rfl ?_
      refine z_iload dL_isNode_263 rfl ?_
      refine z_ar dL_isNode_265 S (by decide) (by omega) r0 ?_
      refine z_if_ne (tgt := 296) dL_isNode_266 (by decide) (fun _ => ?_) (fun q_9 => absurd q_9 (((by decide))))
      refine z_aload_n dL_isNode_296 rfl ?_
      refine z_iload dL_isNode_297 rfl ?_
      refine z_ar dL_isNode_299 S (by decide) (by omega) r0 ?_
      refine z_iconst (v := 3) dL_isNode_300 (by decide) ?_
      refine z_icmp_ge (tgt := 320) dL_isNode_301 (by decide) (fun _ => ?_) (fun q_9 => absurd (((by decide))) q_9)
      refine z_aload_n dL_isNode_320 rfl ?_
      refine z_iload dL_isNode_321 rfl ?_
      refine z_ar dL_isNode_323 S (by decide) (by omega) r0 ?_
      refine z_iconst (v := 3) dL_isNode_324 (by decide) ?_
      refine z_icmp_ne (tgt := 339) dL_isNode_325 (by decide) (fun _ => ?_) (fun q_9 => absurd q_9 (((by decide))))
      refine z_aload_n dL_isNode_339 rfl ?_
      refine z_iload dL_isNode_340 rfl ?_
      refine z_ar dL_isNode_342 S (by decide) (by omega) r0 ?_
      refine z_iconst (v := 4) dL_isNode_343 (by decide) ?_
      refine z_icmp_ne (tgt := 360) dL_isNode_344 (by decide) (fun _ => ?_) (fun q_9 => absurd q_9 (((by decide))))
      refine z_aload_n dL_isNode_360 rfl ?_
      refine z_aload_n dL_isNode_361 rfl ?_
      refine z_aload_n dL_isNode_362 rfl ?_
      refine z_aload dL_isNode_363 rfl ?_
      refine z_aload dL_isNode_365 rfl ?_
      refine z_iload dL_isNode_367 rfl ?_
      refine z_callS dL_isNode_369 cv_L_135 (l_isJoin hG S hr hlim hi (ke.trans k)) rfl rfl ⟨(Nat.le_of_ble_eq_true rfl), (Nat.le_of_ble_eq_true rfl)⟩ (Nat.le_of_ble_eq_true rfl) (Nat.le_of_ble_eq_true rfl) (Nat.le_of_ble_eq_true rfl) (fun v σ1 nx1 hx1 hq1 => ?_)
      obtain ⟨rfl, S, rfl⟩ := hq1
      exact z_zret dL_isNode_372 rfl rfl (Nat.le_of_ble_eq_true rfl) (Nat.le_of_ble_eq_true rfl) ⟨rfl, S⟩
  have outer : ∀ (d p : Nat) (σ2 : zH) (nx2 c s9 : Nat) (x14 x15 x16 : Option Value), p + d = P.length → b + 82 ≤ nx2 → c ≤ 2 + 6 * p → s9 ≤ 12 + 36 * p → zVs G σ2 b (nt, lim, mem, wk, slow, r, L, A, tk, sp, cs) R →
      zWP G kL_isNode (zFM G kL_isNode.2.2.2.1 (fun v σ' nx' => v = some (.int 1) ∧ zVs G σ' b (nt, lim, mem, wk, slow, r, L, A, tk, sp, cs) R)) 72 [some (.ref b), some (.ref (b + 74 + 0)), some (.ref (b + 74 + 1)), some (.ref (b + 74 + 2)), some (.ref (b + 74 + 3)), some (.ref (b + 74 + 4)), some (.ref (b + 74 + 5)), some (.ref (b + 81)), some (.int (nI i)), some (.int (nI (zpx P p 0).length)), some (.int (zsq (zpx P p 0))), some (.int (nI P.length)), some (.int 1), some (.int (nI p)), x14, x15, x16] [] σ2 nx2 c s9 := by
    intro d
    induction d with
    | zero =>
      intro p σ2 nx2 c s9 x14 x15 x16 hp hnx hc hs9 S
      have ep : p = P.length := by omega
      rw [ep, zpx_e]
      refine z_widen (ca' := 50) (sl' := 300) (by omega) (by omega) ?_
      refine z_iload dL_isNode_72 rfl ?_
      refine z_iload dL_isNode_74 rfl ?_
      refine z_icmp_ge (tgt := 197) dL_isNode_76 (by decide) (fun _ => ?_) (fun q_9 => absurd ((nI_le (Nat.le_refl _) (by omega))) q_9)
      refine z_iload dL_isNode_197 rfl ?_
      refine z_if_eq (tgt := 254) dL_isNode_199 (by decide) (fun q_9 => absurd q_9 (((by decide)))) (fun _ => ?_)
      refine z_aload_n dL_isNode_202 rfl ?_
      refine z_iload dL_isNode_203 rfl ?_
      refine z_callV dL_isNode_205 cv0_L_64 (q_rows hG S hi) rfl S.c rfl rfl ⟨(Nat.le_of_ble_eq_true rfl), (Nat.le_of_ble_eq_true rfl)⟩ (Nat.le_of_ble_eq_true rfl) (Nat.le_of_ble_eq_true rfl) (Nat.le_of_ble_eq_true rfl) (fun v σ1 nx1 hx1 hq1 => ?_)
      obtain ⟨rfl, S, rfl⟩ := hq1
      rw [← hP]
      refine z_iload dL_isNode_208 rfl ?_
      refine z_icmp_ne (tgt := 254) dL_isNode_210 (by decide) (fun q_9 => absurd ((rfl)) q_9) (fun _ => ?_)
      refine z_aload_n dL_isNode_213 rfl ?_
      refine z_iload dL_isNode_214 rfl ?_
      refine z_callV dL_isNode_216 cv0_L_73 (q_digest hG S hi) rfl S.c rfl rfl ⟨(Nat.le_of_ble_eq_true rfl), (Nat.le_of_ble_eq_true rfl)⟩ (Nat.le_of_ble_eq_true rfl) (Nat.le_of_ble_eq_true rfl) (Nat.le_of_ble_eq_true rfl) (fun v σ1 nx1 hx1 hq1 => ?_)
      obtain ⟨rfl, S, rfl⟩ := hq1
      rw [← hP]
      refine z_iload dL_isNode_219 rfl ?_
      refine z_icmp_ne (tgt := 254) dL_isNode_221 (by decide) (fun q_9 => absurd ((rfl)) q_9) (fun _ => ?_)
      refine z_aload_n dL_isNode_224 rfl ?_
      refine z_iload dL_isNode_225 rfl ?_
      refine z_callV dL_isNode_227 cv0_L_92 (q_digestInPlace hG S hi) rfl S.c rfl rfl ⟨(Nat.le_of_ble_eq_true rfl), (Nat.le_of_ble_eq_true rfl)⟩ (Nat.le_of_ble_eq_true rfl) (Nat.le_of_ble_eq_true rfl) (Nat.le_of_ble_eq_true rfl) (fun v σ1 nx1 hx1 hq1 => ?_)
      obtain ⟨rfl, S, rfl⟩ := hq1
      rw [← hP]
      refine z_iload dL_isNode_230 rfl ?_
      refine z_icmp_ne (tgt := 254) dL_isNode_232 (by decide) (fun q_9 => absurd ((rfl)) q_9) (fun _ => ?_)
      refine z_aload_n dL_isNode_235 rfl ?_
      refine z_iconst (v := 1) dL_isNode_236 (by decide) ?_
      refine z_iload dL_isNode_237 rfl ?_
      refine z_iload dL_isNode_239 rfl ?_
      refine z_iconst (v := 0) dL_isNode_241 (by decide) ?_
      refine z_callH dL_isNode_242 ch_L_102 (w_asks_rowsIn hG hnx S) rfl rfl ⟨(Nat.le_of_ble_eq_true rfl), (Nat.le_of_ble_eq_true rfl)⟩ (Nat.le_of_ble_eq_true rfl) (Nat.le_of_ble_eq_true rfl) (Nat.le_of_ble_eq_true rfl) (fun v σ1 nx1 hx1 hq1 => ?_)
      obtain ⟨rfl, S⟩ := hq1.badI (zkt_bad (by omega) (Or.inr (by rw [← hP]; exact Int32.le_refl _))) S
      replace hnx := Nat.le_trans hnx hx1
      refine z_bipush (v := (-30)) dL_isNode_245 (by decide) ?_
      refine z_icmp_ne (tgt := 254) dL_isNode_247 (by decide) (fun q_9 => absurd ((rfl)) q_9) (fun _ => ?_)
      refine z_iconst (v := 1) dL_isNode_250 (by decide) ?_
      refine z_goto (tgt := 255) dL_isNode_251 (by decide) ?_
      refine z_istore dL_isNode_255 (by decide) ?_
      refine z_widen (ca' := 60) (sl' := 360) (Nat.le_of_ble_eq_true rfl) (Nat.le_of_ble_eq_true rfl) (last _ _ _ _ _ _ _ _ S)
    | succ d ih =>
      intro p σ2 nx2 c s9 x14 x15 x16 hp hnx hc hs9 S
      have hpl : p < P.length := by omega
      have hsz := zsz_le (P := P) (j := p)
      have inner : ∀ (e9 j : Nat) (σ2 : zH) (nx2 : Nat) (x16 : Option Value), j + e9 = zsz P p → b + 82 ≤ nx2 → zVs G σ2 b (nt, lim, mem, wk, slow, r, L, A, tk, sp, cs) R →
          zWP G kL_isNode (zFM G kL_isNode.2.2.2.1 (fun v σ' nx' => v = some (.int 1) ∧ zVs G σ' b (nt, lim, mem, wk, slow, r, L, A, tk, sp, cs) R)) 104 [some (.ref b), some (.ref (b + 74 + 0)), some (.ref (b + 74 + 1)), some (.ref (b + 74 + 2)), some (.ref (b + 74 + 3)), some (.ref (b + 74 + 4)), some (.ref (b + 74 + 5)), some (.ref (b + 81)), some (.int (nI i)), some (.int (nI ((zpx P p 0).length + zsz P p))), some (.int (zsq (zpx P p j))), some (.int (nI P.length)), some (.int 1), some (.int (nI p)), some (.int (nI (zsz P p))), some (.int (nI j)), x16] [] σ2 nx2 c s9 := by
        intro e9
        induction e9 with
        | zero =>
          intro j σ2 nx2 x16 hj hnx S
          have ej : j = zsz P p := by omega
          have elen : (zpx P (p + 1) 0).length = (zpx P p 0).length + zsz P p := by
            rw [← zpx_n hpl, zpx, zfull, List.length_append, zpx, List.take_zero, List.append_nil]
            rfl
          have nxt := ih (p + 1)
          rw [elen] at nxt
          rw [ej, zpx_n hpl]
          refine z_iload dL_isNode_104 rfl ?_
          refine z_iload dL_isNode_106 rfl ?_
          refine z_icmp_ge (tgt := 153) dL_isNode_108 (by decide) (fun _ => ?_) (fun q_9 => absurd ((nI_le (Nat.le_refl _) (by omega))) q_9)
          refine z_aload_n dL_isNode_153 rfl ?_
          refine z_iconst (v := 3) dL_isNode_154 (by decide) ?_
          refine z_iload dL_isNode_155 rfl ?_
          refine z_iload dL_isNode_157 rfl ?_
          refine z_iload dL_isNode_159 rfl ?_
          refine z_callH dL_isNode_161 ch_L_102 (w_asks_keyAt hG hnx S) rfl rfl ⟨(Nat.le_of_ble_eq_true rfl), (Nat.le_of_ble_eq_true rfl)⟩ (show c + 3 ≤ 60 by omega) (show s9 + 18 ≤ 360 by omega) (Nat.le_of_ble_eq_true rfl) (fun v σ1 nx1 hx1 hq1 => ?_)
          obtain ⟨rfl, S⟩ := hq1.badI (pbad hpl (Or.inr (Int32.le_refl _))) S
          replace hnx := Nat.le_trans hnx hx1
          refine z_bipush (v := (-30)) dL_isNode_164 (by decide) ?_
          refine z_icmp_ne (tgt := 188) dL_isNode_166 (by decide) (fun q_9 => absurd ((rfl)) q_9) (fun _ => ?_)
          refine z_aload_n dL_isNode_169 rfl ?_
          refine z_iconst (v := 4) dL_isNode_170 (by decide) ?_
          refine z_iload dL_isNode_171 rfl ?_
          refine z_iload dL_isNode_173 rfl ?_
          refine z_iconst (v := (-1)) dL_isNode_175 (by decide) ?_
          refine z_callH dL_isNode_176 ch_L_102 (w_asks_valueAt hG hnx S) rfl rfl ⟨(Nat.le_of_ble_eq_true rfl), (Nat.le_of_ble_eq_true rfl)⟩ (show c + 3 + 3 ≤ 60 by omega) (show s9 + 18 + 18 ≤ 360 by omega) (Nat.le_of_ble_eq_true rfl) (fun v σ1 nx1 hx1 hq1 => ?_)
          obtain ⟨rfl, S⟩ := hq1.badI (pbad hpl (Or.inl (by decide))) S
          replace hnx := Nat.le_trans hnx hx1
          refine z_bipush (v := (-30)) dL_isNode_179 (by decide) ?_
          refine z_icmp_ne (tgt := 188) dL_isNode_181 (by decide) (fun q_9 => absurd ((rfl)) q_9) (fun _ => ?_)
          refine z_iconst (v := 1) dL_isNode_184 (by decide) ?_
          refine z_goto (tgt := 189) dL_isNode_185 (by decide) ?_
          refine z_istore dL_isNode_189 (by decide) ?_
          refine z_inc1 dL_isNode_191 rfl (by decide) ?_
          rw [nI_1]
          refine z_goto (tgt := 72) dL_isNode_194 (by decide) ?_
          exact nxt _ _ (c + 3 + 3) (s9 + 18 + 18) _ _ _ (by omega) hnx (by omega) (by omega) S
        | succ e9 ie =>
          intro j σ2 nx2 x16 hj hnx S
          have hjl : j < zsz P p := by omega
          have nxt := ie (j + 1)
          rw [zpx_s hjl, zsq_snoc] at nxt
          obtain ⟨x, hx⟩ : ∃ x, x = zrw P p j := ⟨_, rfl⟩
          rw [← hx] at nxt
          refine z_iload dL_isNode_104 rfl ?_
          refine z_iload dL_isNode_106 rfl ?_
          refine z_icmp_ge (tgt := 153) dL_isNode_108 (by decide) (fun q_9 => absurd q_9 ((nI_ge hjl (by omega)))) (fun _ => ?_)
          refine z_bipush (v := 31) dL_isNode_111 (by decide) ?_
          refine z_aload_n dL_isNode_113 rfl ?_
          refine z_iload dL_isNode_114 rfl ?_
          refine z_iload dL_isNode_116 rfl ?_
          refine z_iload dL_isNode_118 rfl ?_
          refine z_callV dL_isNode_120 cv0_L_67 (q_keyAt hG S hi (by rw [← hP]; exact hpl) (by rw [← hP]; exact hjl)) rfl S.c rfl rfl ⟨(Nat.le_of_ble_eq_true rfl), (Nat.le_of_ble_eq_true rfl)⟩ (show c + 0 ≤ 60 by omega) (show s9 + 0 ≤ 360 by omega) (Nat.le_of_ble_eq_true rfl) (fun v σ1 nx1 hx1 hq1 => ?_)
          obtain ⟨rfl, S, rfl⟩ := hq1
          rw [← hP, ← hx]
          refine z_imul dL_isNode_123 ?_
          refine z_aload_n dL_isNode_124 rfl ?_
          refine z_iload dL_isNode_125 rfl ?_
          refine z_iload dL_isNode_127 rfl ?_
          refine z_iload dL_isNode_129 rfl ?_
          refine z_callV dL_isNode_131 cv0_L_70 (q_valueAt hG S hi (by rw [← hP]; exact hpl) (by rw [← hP]; exact hjl)) rfl S.c rfl rfl ⟨(Nat.le_of_ble_eq_true rfl), (Nat.le_of_ble_eq_true rfl)⟩ (show c + 0 ≤ 60 by omega) (show s9 + 0 ≤ 360 by omega) (Nat.le_of_ble_eq_true rfl) (fun v σ1 nx1 hx1 hq1 => ?_)
          obtain ⟨rfl, S, rfl⟩ := hq1
          rw [← hP, ← hx]
          refine z_iadd dL_isNode_134 ?_
          refine z_istore dL_isNode_135 (by decide) ?_
          refine z_iload dL_isNode_137 rfl ?_
          refine z_iload dL_isNode_139 rfl ?_
          refine z_iload dL_isNode_141 rfl ?_
          refine z_imul dL_isNode_143 ?_
          refine z_iadd dL_isNode_144 ?_
          refine z_istore dL_isNode_145 (by decide) ?_
          refine z_inc1 dL_isNode_147 rfl (by decide) ?_
          rw [nI_1]
          refine z_goto (tgt := 104) dL_isNode_150 (by decide) ?_
          exact nxt _ _ _ (by omega) hnx S
      refine z_iload dL_isNode_72 rfl ?_
      refine z_iload dL_isNode_74 rfl ?_
      refine z_icmp_ge (tgt := 197) dL_isNode_76 (by decide) (fun q_9 => absurd q_9 ((nI_ge hpl (by omega)))) (fun _ => ?_)
      refine z_iload dL_isNode_79 rfl ?_
      refine z_if_eq (tgt := 197) dL_isNode_81 (by decide) (fun q_9 => absurd q_9 (((by decide)))) (fun _ => ?_)
      refine z_aload_n dL_isNode_84 rfl ?_
      refine z_iload dL_isNode_85 rfl ?_
      refine z_iload dL_isNode_87 rfl ?_
      refine z_callV dL_isNode_89 cv0_L_61 (q_rowsIn hG S hi (by rw [← hP]; exact hpl)) rfl S.c rfl rfl ⟨(Nat.le_of_ble_eq_true rfl), (Nat.le_of_ble_eq_true rfl)⟩ (show c + 0 ≤ 60 by omega) (show s9 + 0 ≤ 360 by omega) (Nat.le_of_ble_eq_true rfl) (fun v σ1 nx1 hx1 hq1 => ?_)
      obtain ⟨rfl, S, rfl⟩ := hq1
      rw [← hP]
      refine z_istore dL_isNode_92 (by decide) ?_
      refine z_iload dL_isNode_94 rfl ?_
      refine z_iload dL_isNode_96 rfl ?_
      refine z_iadd dL_isNode_98 ?_
      rw [nI_add]
      refine z_istore dL_isNode_99 (by decide) ?_
      refine z_iconst (v := 0) dL_isNode_101 (by decide) ?_
      refine z_istore dL_isNode_102 (by decide) ?_
      exact inner _ 0 _ _ _ (Nat.zero_add _) hnx S
  by_cases k : e.2.1 = 5
  · rw [k] at r0
    refine z_iconst (v := 0) dL_isNode_0 (by decide) ?_
    refine z_istore dL_isNode_1 (by decide) ?_
    refine z_iconst (v := 0) dL_isNode_3 (by decide) ?_
    refine z_istore dL_isNode_4 (by decide) ?_
    refine z_aload_n dL_isNode_6 rfl ?_
    refine z_iload dL_isNode_7 rfl ?_
    refine z_callV dL_isNode_9 cv0_L_58 (q_partitions hG S hi) rfl S.c rfl rfl ⟨(Nat.le_of_ble_eq_true rfl), (Nat.le_of_ble_eq_true rfl)⟩ (Nat.le_of_ble_eq_true rfl) (Nat.le_of_ble_eq_true rfl) (Nat.le_of_ble_eq_true rfl) (fun v σ1 nx1 hx1 hq1 => ?_)
    obtain ⟨rfl, S, rfl⟩ := hq1
    rw [← hP]
    refine z_istore dL_isNode_12 (by decide) ?_
    refine z_iload dL_isNode_14 rfl ?_
    refine z_if_le (tgt := 66) dL_isNode_16 (by decide) (fun q_9 => absurd q_9 (((show ¬ nI P.length ≤ nI 0 from nI_ge h1 (by omega))))) (fun _ => ?_)
    refine z_iload dL_isNode_19 rfl ?_
    refine z_aload dL_isNode_21 rfl ?_
    refine z_iload dL_isNode_23 rfl ?_
    refine z_ar dL_isNode_25 S (by decide) (by omega) r5 ?_
    refine z_icmp_gt (tgt := 66) dL_isNode_26 (by decide) (fun q_9 => absurd q_9 (((nI_nlt hwd (by omega))))) (fun _ => ?_)
    refine z_aload_n dL_isNode_29 rfl ?_
    refine z_iload dL_isNode_30 rfl ?_
    refine z_callV dL_isNode_32 cv0_L_64 (q_rows hG S hi) rfl S.c rfl rfl ⟨(Nat.le_of_ble_eq_true rfl), (Nat.le_of_ble_eq_true rfl)⟩ (Nat.le_of_ble_eq_true rfl) (Nat.le_of_ble_eq_true rfl) (Nat.le_of_ble_eq_true rfl) (fun v σ1 nx1 hx1 hq1 => ?_)
    obtain ⟨rfl, S, rfl⟩ := hq1
    rw [← hP]
    refine z_aload dL_isNode_35 rfl ?_
    refine z_iload dL_isNode_37 rfl ?_
    refine z_ar dL_isNode_39 S (by decide) (by omega) r4 ?_
    refine z_icmp_gt (tgt := 66) dL_isNode_40 (by decide) (fun q_9 => absurd q_9 (((nI_nlt hle (by omega))))) (fun _ => ?_)
    refine z_aload_n dL_isNode_43 rfl ?_
    refine z_iload dL_isNode_44 rfl ?_
    refine z_ar dL_isNode_46 S (by decide) (by omega) r0 ?_
    refine z_iconst (v := 5) dL_isNode_47 (by decide) ?_
    refine z_icmp_eq (tgt := 62) dL_isNode_48 (by decide) (fun _ => ?_) (fun q_9 => absurd ((rfl)) q_9)
    refine z_iconst (v := 1) dL_isNode_62 (by decide) ?_
    refine z_goto (tgt := 67) dL_isNode_63 (by decide) ?_
    refine z_istore dL_isNode_67 (by decide) ?_
    refine z_iconst (v := 0) dL_isNode_69 (by decide) ?_
    refine z_istore dL_isNode_70 (by decide) ?_
    exact outer _ 0 _ _ _ _ _ _ _ (Nat.zero_add _) hnx (Nat.le_of_ble_eq_true rfl) (Nat.le_of_ble_eq_true rfl) S
  · refine z_iconst (v := 0) dL_isNode_0 (by decide) ?_
    refine z_istore dL_isNode_1 (by decide) ?_
    refine z_iconst (v := 0) dL_isNode_3 (by decide) ?_
    refine z_istore dL_isNode_4 (by decide) ?_
    refine z_aload_n dL_isNode_6 rfl ?_
    refine z_iload dL_isNode_7 rfl ?_
    refine z_callV dL_isNode_9 cv0_L_58 (q_partitions hG S hi) rfl S.c rfl rfl ⟨(Nat.le_of_ble_eq_true rfl), (Nat.le_of_ble_eq_true rfl)⟩ (Nat.le_of_ble_eq_true rfl) (Nat.le_of_ble_eq_true rfl) (Nat.le_of_ble_eq_true rfl) (fun v σ1 nx1 hx1 hq1 => ?_)
    obtain ⟨rfl, S, rfl⟩ := hq1
    rw [← hP]
    refine z_istore dL_isNode_12 (by decide) ?_
    refine z_iload dL_isNode_14 rfl ?_
    refine z_if_le (tgt := 66) dL_isNode_16 (by decide) (fun q_9 => absurd q_9 (((show ¬ nI P.length ≤ nI 0 from nI_ge h1 (by omega))))) (fun _ => ?_)
    refine z_iload dL_isNode_19 rfl ?_
    refine z_aload dL_isNode_21 rfl ?_
    refine z_iload dL_isNode_23 rfl ?_
    refine z_ar dL_isNode_25 S (by decide) (by omega) r5 ?_
    refine z_icmp_gt (tgt := 66) dL_isNode_26 (by decide) (fun q_9 => absurd q_9 (((nI_nlt hwd (by omega))))) (fun _ => ?_)
    refine z_aload_n dL_isNode_29 rfl ?_
    refine z_iload dL_isNode_30 rfl ?_
    refine z_callV dL_isNode_32 cv0_L_64 (q_rows hG S hi) rfl S.c rfl rfl ⟨(Nat.le_of_ble_eq_true rfl), (Nat.le_of_ble_eq_true rfl)⟩ (Nat.le_of_ble_eq_true rfl) (Nat.le_of_ble_eq_true rfl) (Nat.le_of_ble_eq_true rfl) (fun v σ1 nx1 hx1 hq1 => ?_)
    obtain ⟨rfl, S, rfl⟩ := hq1
    rw [← hP]
    refine z_aload dL_isNode_35 rfl ?_
    refine z_iload dL_isNode_37 rfl ?_
    refine z_ar dL_isNode_39 S (by decide) (by omega) r4 ?_
    refine z_icmp_gt (tgt := 66) dL_isNode_40 (by decide) (fun q_9 => absurd q_9 (((nI_nlt hle (by omega))))) (fun _ => ?_)
    refine z_aload_n dL_isNode_43 rfl ?_
    refine z_iload dL_isNode_44 rfl ?_
    refine z_ar dL_isNode_46 S (by decide) (by omega) r0 ?_
    refine z_iconst (v := 5) dL_isNode_47 (by decide) ?_
    refine z_icmp_eq (tgt := 62) dL_isNode_48 (by decide) (fun q_9 => absurd q_9 (((fun w => k ((nI_eq (b := 5) (by omega) (by decide)).mp w))))) (fun _ => ?_)
    refine z_aload_n dL_isNode_51 rfl ?_
    refine z_iload dL_isNode_52 rfl ?_
    refine z_callH dL_isNode_54 ch_L_119 (w_broad_isBroad hG hnx S) rfl rfl ⟨(Nat.le_of_ble_eq_true rfl), (Nat.le_of_ble_eq_true rfl)⟩ (Nat.le_of_ble_eq_true rfl) (Nat.le_of_ble_eq_true rfl) (Nat.le_of_ble_eq_true rfl) (fun v σ1 nx1 hx1 hq1 => ?_)
    obtain ⟨rfl, S⟩ := (hq1.bad2 S).2 (by unfold zk_join5; rw [nI_clamp (by omega), if_neg (znob_in (by omega) hi), if_pos (by rw [ke]; exact k)])
    replace hnx := Nat.le_trans hnx hx1
    rw [zxc_S]
    refine z_bipush (v := (-10)) dL_isNode_57 (by decide) ?_
    refine z_icmp_ne (tgt := 66) dL_isNode_59 (by decide) (fun q_9 => absurd ((rfl)) q_9) (fun _ => ?_)
    refine z_iconst (v := 1) dL_isNode_62 (by decide) ?_
    refine z_goto (tgt := 67) dL_isNode_63 (by decide) ?_
    refine z_istore dL_isNode_67 (by decide) ?_
    refine z_iconst (v := 0) dL_isNode_69 (by decide) ?_
    refine z_istore dL_isNode_70 (by decide) ?_
    exact outer _ 0 _ _ _ _ _ _ _ (Nat.zero_add _) hnx (Nat.le_of_ble_eq_true rfl) (Nat.le_of_ble_eq_true rfl) S
end
