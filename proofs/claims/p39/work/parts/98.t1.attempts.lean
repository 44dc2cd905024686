/-! the law: the attempts of the latest run -/
theorem zAc_0 (a : zAE) : zAc a 0 = nI a.1 := rfl
theorem zAc_1 (a : zAE) : zAc a 1 = nI a.2.1 := rfl
theorem zAc_2 (a : zAE) : zAc a 2 = nI a.2.2.1 := rfl
theorem zAc_3 (a : zAE) : zAc a 3 = nI a.2.2.2.1 := rfl
theorem zAc_4 (a : zAE) : zAc a 4 = nI a.2.2.2.2.1 := rfl
theorem zAc_5 (a : zAE) : zAc a 5 = if a.2.2.2.2.2 = true then 1 else 0 := rfl
/-- the latest end -/
def zlst (A : List zAE) : Nat := A.foldl (fun s a => if a.2.2.2.2.1 ≤ s then s else a.2.2.2.2.1) 0
theorem zlst_s (A : List zAE) (a : zAE) : zlst (A ++ [a]) = if a.2.2.2.2.1 ≤ zlst A then zlst A else a.2.2.2.2.1 := by rw [zlst, List.foldl_append]; rfl
theorem zlst_le {T : Nat} : ∀ (A : List zAE) (s : Nat), (∀ a ∈ A, a.2.2.2.2.1 ≤ T) → s ≤ T → A.foldl (fun s a => if a.2.2.2.2.1 ≤ s then s else a.2.2.2.2.1) s ≤ T
  | [], _, _, h => h
  | a :: A, s, h, hs => by
    rw [List.foldl_cons]
    refine zlst_le A _ (fun x hx => h x (List.mem_cons_of_mem _ hx)) ?_
    have := h a List.mem_cons_self
    split <;> omega
theorem zlst_ge : ∀ (A : List zAE) (s : Nat), s ≤ A.foldl (fun s a => if a.2.2.2.2.1 ≤ s then s else a.2.2.2.2.1) s ∧ ∀ a ∈ A, a.2.2.2.2.1 ≤ A.foldl (fun s a => if a.2.2.2.2.1 ≤ s then s else a.2.2.2.2.1) s
  | [], _ => ⟨Nat.le_refl _, fun a h => absurd h List.not_mem_nil⟩
  | a :: A, s => by
    rw [List.foldl_cons]
    obtain ⟨h1, h2⟩ := zlst_ge A (if a.2.2.2.2.1 ≤ s then s else a.2.2.2.2.1)
    have h3 : s ≤ (if a.2.2.2.2.1 ≤ s then s else a.2.2.2.2.1) ∧ a.2.2.2.2.1 ≤ (if a.2.2.2.2.1 ≤ s then s else a.2.2.2.2.1) := by split <;> omega
    refine ⟨Nat.le_trans h3.1 h1, fun x hx => ?_⟩
    rcases List.mem_cons.mp hx with w | w
    · rw [w]; exact Nat.le_trans h3.2 h1
    · exact h2 x w
theorem zlst_T {sz T : Nat} {mk : Nat → Nat} {A : List zAE} (h : zAt sz T mk A) : zlst A = T := by
  obtain ⟨g1, -, -, g4, -⟩ := h
  rcases g4 with ⟨h1, h2⟩ | ⟨-, a, ha, he⟩
  · rw [h1, h2]; rfl
  · have l1 := zlst_le (T := T) A 0 (fun x hx => by obtain ⟨k, hk⟩ := List.getElem?_of_mem hx; exact (g1 k x hk).2.1) (Nat.zero_le _)
    have l2 := (zlst_ge A 0).2 a ha
    unfold zlst
    omega
theorem zcps_s (A : List zAE) (a : zAE) : zcps (A ++ [a]) = zcps A + (if a.2.2.2.2.2 = true then 1 else 0) := by
  rw [zcps_app]
  congr 1
  by_cases c : a.2.2.2.2.2 = true
  · rw [if_pos c]; simp [zcps, c]
  · rw [if_neg c]; simp [zcps, c]
/-- how many attempts in front have the same task -/
theorem ztw_ex {sz T j : Nat} {mk : Nat → Nat} {A : List zAE} {c : zAE} (h : zAt sz T mk A) (hj : A[j]? = some c) : ∃ tw : Nat → Nat, tw 0 = 0 ∧ tw j = (if c.2.2.2.2.2 = true then 1 else 0) ∧ ∀ (i : Nat) (a : zAE), i < j → A[i]? = some a → (a.1 = c.1 ∧ a.2.1 = c.2.1 → tw (i + 1) = tw i + 1) ∧ (¬ (a.1 = c.1 ∧ a.2.1 = c.2.1) → tw (i + 1) = tw i) := by
  obtain ⟨-, g2, g3, -, -⟩ := h
  by_cases hc : c.2.2.2.2.2 = true
  · obtain ⟨q, a0, q1, q2, q3, q4, q5⟩ := g3 j c hj hc
    refine ⟨fun i => if q < i then 1 else 0, if_neg (Nat.not_lt_zero _), by rw [if_pos hc]; exact if_pos q1, fun i a hi ha => ⟨fun w => ?_, fun w => ?_⟩⟩
    · have e := q5 i a hi ha w.1 w.2
      subst e
      show (if i < i + 1 then 1 else 0) = (if i < i then 1 else 0) + 1
      rw [if_pos (Nat.lt_succ_self i), if_neg (Nat.lt_irrefl i)]
    · have ne : i ≠ q := by
        intro e
        subst e
        cases Option.some.inj (q2.symm.trans ha)
        exact w ⟨q3, q4⟩
      show (if q < i + 1 then 1 else 0) = (if q < i then 1 else 0)
      by_cases x : q < i
      · rw [if_pos x, if_pos (by omega)]
      · rw [if_neg x, if_neg (by omega)]
  · refine ⟨fun _ => 0, rfl, by rw [if_neg hc], fun i a hi ha => ⟨fun w => absurd ((g2 i j a c ha hj hi).2.2.2 w.1 w.2).2.2 hc, fun _ => rfl⟩⟩
section
variable {G : zG} {σ : zH} {b nx : Nat} {R : Nat → Nat → Int32} {nt : zNT} {lim mem wk r tk sp cs : Nat} {slow : Nat → Nat} {L : zNS} {A : List zAE}
set_option maxRecDepth 100000 in
set_option maxHeartbeats 8000000 in
theorem l_areAttempts (hG : zKap G) (hnx : b + 82 ≤ nx) (S : zVs G σ b (nt, lim, mem, wk, slow, r, L, A, tk, sp, wk) R) (hg2 : R 7 2 = nI wk) (hsp : sp < 2 ^ 31) (hat : zAt wk tk (fun o => (zct lim nt o).length) A) (hon : ∀ a ∈ A, a.1 < nt.length) : zM G yL_areAttempts kL_areAttempts [.ref b, .ref (b + 81), .int (nI tk)] σ nx (fun v σ' nx' => v = some (.int 1) ∧ zVs G σ' b (nt, lim, mem, wk, slow, r, L, A, tk, sp, wk) R) := by
  refine zM.of (ls := [some (.ref b), some (.ref (b + 81)), some (.int (nI tk)), none, none, none, none, none, none, none, none, none, none, none]) (by decide +kernel) ⟨rfl, rfl, rfl⟩ (Nat.le_of_ble_eq_true rfl) (fun _ h => h) ?_
  have h14 : nt.length ≤ 14 := S.2.1.2.2.1
  have hw : zWf nt := S.2.1.1
  have hwk : 1 ≤ wk ∧ wk ≤ 4 := S.2.1.2.2.2.2.2.1
  have htk : tk ≤ 28000000 := S.2.1.2.2.2.2.2.2.2.2.2.2.1
  have hA224 := S.tg.A224
  have hlast := zlst_T hat
  have tkb : ∀ (j : Nat) (c : zAE), A[j]? = some c → c.2.2.2.1 < c.2.2.2.2.1 ∧ c.2.2.2.2.1 ≤ tk ∧ c.2.2.1 < wk ∧ c.2.1 < (zct lim nt c.1).length ∧ (zct lim nt c.1).length ≤ 8 ∧ c.1 < nt.length := fun j c hj => by
    obtain ⟨a1, a2, a3, a4⟩ := hat.1 j c hj
    have ho := hon c (List.mem_of_getElem? hj)
    exact ⟨a1, a2, a3, a4, (zct_le (lim := lim) hw h14 ho).2.2, ho⟩
  have fin : ∀ (σ2 : zH) (nx2 : Nat) (x8 x9 x10 x11 x12 x13 : Option Value), b + 82 ≤ nx2 → zVs G σ2 b (nt, lim, mem, wk, slow, r, L, A, tk, sp, wk) R →
      zWP G kL_areAttempts (zFM G kL_areAttempts.2.2.2.1 (fun v σ' nx' => v = some (.int 1) ∧ zVs G σ' b (nt, lim, mem, wk, slow, r, L, A, tk, sp, wk) R)) 444 [some (.ref b), some (.ref (b + 81)), some (.int (nI tk)), some (.int (nI A.length)), some (.int (nI tk)), some (.int (zts A)), some (.int (nI (zcps A))), some (.int 1), x8, x9, x10, x11, x12, x13] [] σ2 nx2 6 36 := by
    intro σ2 nx2 x8 x9 x10 x11 x12 x13 hnx S
    have hcp := hat.2.2.2.2
    have hd : nI A.length / 2 = nI (A.length / 2) := pk_div (d := 2) (by omega) (by decide) (by decide)
    have hcs : tk ≠ 0 → 1 ≤ wk ∧ wk ≤ 4 := fun _ => hwk
    have hok := zshF_ok (A := A) hcs htk
    by_cases c0 : tk = 0
    · have e : zshF A tk wk = FP.fconst0 := if_pos c0
      rw [e] at hok
      refine z_iload dL_areAttempts_444 rfl ?_
      refine z_if_eq (tgt := 493) dL_areAttempts_446 (by decide) (fun q_9 => absurd q_9 (((by decide)))) (fun _ => ?_)
      refine z_iload dL_areAttempts_449 rfl ?_
      refine z_iload_n dL_areAttempts_451 rfl ?_
      refine z_icmp_ne (tgt := 493) dL_areAttempts_452 (by decide) (fun q_9 => absurd ((rfl)) q_9) (fun _ => ?_)
      refine z_aload_n dL_areAttempts_455 rfl ?_
      refine z_callV dL_areAttempts_456 cv_L_168 (p_share S) rfl S.c rfl rfl ⟨(Nat.le_of_ble_eq_true rfl), (Nat.le_of_ble_eq_true rfl)⟩ (Nat.le_of_ble_eq_true rfl) (Nat.le_of_ble_eq_true rfl) (Nat.le_of_ble_eq_true rfl) (fun v σ1 nx1 hx1 hq1 => ?_)
      obtain ⟨rfl, S, rfl⟩ := hq1
      rw [e]
      refine z_iload_n dL_areAttempts_459 rfl ?_
      refine z_if_ne (tgt := 467) dL_areAttempts_460 (by decide) (fun q_9 => absurd (((by rw [c0]; rfl))) q_9) (fun _ => ?_)
      refine z_fconst0 dL_areAttempts_463 ?_
      refine z_goto (tgt := 477) dL_areAttempts_464 (by decide) ?_
      refine z_fcmp dL_areAttempts_477 ?_
      rw [zfcmp_self hok]
      refine z_if_ne (tgt := 493) dL_areAttempts_478 (by decide) (fun q_9 => absurd ((rfl)) q_9) (fun _ => ?_)
      refine z_iload dL_areAttempts_481 rfl ?_
      refine z_iload_n dL_areAttempts_483 rfl ?_
      refine z_iconst (v := 2) dL_areAttempts_484 (by decide) ?_
      refine z_idiv dL_areAttempts_485 (by decide) ?_
      rw [hd]
      refine z_icmp_gt (tgt := 493) dL_areAttempts_486 (by decide) (fun q_9 => absurd q_9 (((nI_nlt (by omega) (by omega))))) (fun _ => ?_)
      refine z_iconst (v := 1) dL_areAttempts_489 (by decide) ?_
      refine z_goto (tgt := 494) dL_areAttempts_490 (by decide) ?_
      exact z_zret dL_areAttempts_494 rfl rfl (Nat.le_of_ble_eq_true rfl) (Nat.le_of_ble_eq_true rfl) ⟨rfl, S⟩
    · have e : zshF A tk wk = FP.fdiv (FP.i2f (zts A)) (FP.i2f (nI (tk * wk))) := if_neg c0
      rw [e] at hok
      refine z_iload dL_areAttempts_444 rfl ?_
      refine z_if_eq (tgt := 493) dL_areAttempts_446 (by decide) (fun q_9 => absurd q_9 (((by decide)))) (fun _ => ?_)
      refine z_iload dL_areAttempts_449 rfl ?_
      refine z_iload_n dL_areAttempts_451 rfl ?_
      refine z_icmp_ne (tgt := 493) dL_areAttempts_452 (by decide) (fun q_9 => absurd ((rfl)) q_9) (fun _ => ?_)
      refine z_aload_n dL_areAttempts_455 rfl ?_
      refine z_callV dL_areAttempts_456 cv_L_168 (p_share S) rfl S.c rfl rfl ⟨(Nat.le_of_ble_eq_true rfl), (Nat.le_of_ble_eq_true rfl)⟩ (Nat.le_of_ble_eq_true rfl) (Nat.le_of_ble_eq_true rfl) (Nat.le_of_ble_eq_true rfl) (fun v σ1 nx1 hx1 hq1 => ?_)
      obtain ⟨rfl, S, rfl⟩ := hq1
      rw [e]
      refine z_iload_n dL_areAttempts_459 rfl ?_
      refine z_if_ne (tgt := 467) dL_areAttempts_460 (by decide) (fun _ => ?_) (fun q_9 => absurd q_9 (((fun w => c0 ((nI_eq (b := 0) (by omega) (by decide)).mp w)))))
      refine z_iload dL_areAttempts_467 rfl ?_
      refine z_i2f dL_areAttempts_469 ?_
      refine z_iload_n dL_areAttempts_470 rfl ?_
      refine z_aload_n dL_areAttempts_471 rfl ?_
      refine z_iconst (v := 2) dL_areAttempts_472 (by decide) ?_
      refine z_gr dL_areAttempts_473 S (i := 2) (by decide) hg2 ?_
      refine z_imul dL_areAttempts_474 ?_
      rw [pk_mul]
      refine z_i2f dL_areAttempts_475 ?_
      refine z_fdiv dL_areAttempts_476 hok ?_
      refine z_fcmp dL_areAttempts_477 ?_
      rw [zfcmp_self hok]
      refine z_if_ne (tgt := 493) dL_areAttempts_478 (by decide) (fun q_9 => absurd ((rfl)) q_9) (fun _ => ?_)
      refine z_iload dL_areAttempts_481 rfl ?_
      refine z_iload_n dL_areAttempts_483 rfl ?_
      refine z_iconst (v := 2) dL_areAttempts_484 (by decide) ?_
      refine z_idiv dL_areAttempts_485 (by decide) ?_
      rw [hd]
      refine z_icmp_gt (tgt := 493) dL_areAttempts_486 (by decide) (fun q_9 => absurd q_9 (((nI_nlt (by omega) (by omega))))) (fun _ => ?_)
      refine z_iconst (v := 1) dL_areAttempts_489 (by decide) ?_
      refine z_goto (tgt := 494) dL_areAttempts_490 (by decide) ?_
      exact z_zret dL_areAttempts_494 rfl rfl (Nat.le_of_ble_eq_true rfl) (Nat.le_of_ble_eq_true rfl) ⟨rfl, S⟩
  have outer : ∀ (d j : Nat) (σ2 : zH) (nx2 : Nat) (x9 x10 x11 x12 x13 : Option Value), j + d = A.length → b + 82 ≤ nx2 → zVs G σ2 b (nt, lim, mem, wk, slow, r, L, A, tk, sp, wk) R →
      zWP G kL_areAttempts (zFM G kL_areAttempts.2.2.2.1 (fun v σ' nx' => v = some (.int 1) ∧ zVs G σ' b (nt, lim, mem, wk, slow, r, L, A, tk, sp, wk) R)) 67 [some (.ref b), some (.ref (b + 81)), some (.int (nI tk)), some (.int (nI A.length)), some (.int (nI (zlst (A.take j)))), some (.int (zts (A.take j))), some (.int (nI (zcps (A.take j)))), some (.int 1), some (.int (nI j)), x9, x10, x11, x12, x13] [] σ2 nx2 6 36 := by
    intro d
    induction d with
    | zero =>
      intro j σ2 nx2 x9 x10 x11 x12 x13 hj hnx S
      have ej : j = A.length := by omega
      rw [ej, List.take_length, hlast]
      refine z_iload dL_areAttempts_67 rfl ?_
      refine z_iload_n dL_areAttempts_69 rfl ?_
      refine z_icmp_ge (tgt := 444) dL_areAttempts_70 (by decide) (fun _ => ?_) (fun q_9 => absurd ((nI_le (Nat.le_refl _) (by omega))) q_9)
      exact fin _ _ _ _ _ _ _ _ hnx S
    | succ d ih =>
      intro j σ2 nx2 x9 x10 x11 x12 x13 hj hnx S
      have hjl : j < A.length := by omega
      obtain ⟨c, hc⟩ : ∃ c, A[j]? = some c := ⟨_, List.getElem?_eq_getElem hjl⟩
      obtain ⟨b1, b2, b3, b4, b5, b6⟩ := tkb j c hc
      obtain ⟨tw, tw0, twj, tws⟩ := ztw_ex hat hc
      have nxt := ih (j + 1)
      rw [ztake hc, zts_snoc, zlst_s, zcps_s, ← nI_add] at nxt
      obtain ⟨la, hla⟩ : ∃ la, la = (if c.2.2.2.2.1 ≤ zlst (A.take j) then zlst (A.take j) else c.2.2.2.2.1) := ⟨_, rfl⟩
      obtain ⟨su, hsu⟩ : ∃ su, su = zts (A.take j) + (nI c.2.2.2.2.1 - nI c.2.2.2.1) := ⟨_, rfl⟩
      rw [← hla, ← hsu] at nxt
      have hzl : zlst (A.take j) ≤ tk := zlst_le (T := tk) (A.take j) 0 (fun x hx => by obtain ⟨k, hk⟩ := List.getElem?_of_mem (List.mem_of_mem_take hx); exact (tkb k x hk).2.1) (Nat.zero_le _)
      -- behind the inner loop
      have after : ∀ (σ2 : zH) (nx2 : Nat) (x12 x13 : Option Value), b + 82 ≤ nx2 → zVs G σ2 b (nt, lim, mem, wk, slow, r, L, A, tk, sp, wk) R →
          zWP G kL_areAttempts (zFM G kL_areAttempts.2.2.2.1 (fun v σ' nx' => v = some (.int 1) ∧ zVs G σ' b (nt, lim, mem, wk, slow, r, L, A, tk, sp, wk) R)) 400 [some (.ref b), some (.ref (b + 81)), some (.int (nI tk)), some (.int (nI A.length)), some (.int (nI la)), some (.int su), some (.int (nI (zcps (A.take j)))), some (.int 1), some (.int (nI j)), some (.int (nI c.2.2.2.1)), some (.int (nI c.2.2.2.2.1)), some (.int (nI (tw j))), x12, x13] [] σ2 nx2 6 36 := by
        intro σ2 nx2 x12 x13 hnx S
        by_cases hcp : c.2.2.2.2.2 = true
        · rw [if_pos hcp] at twj nxt
          rw [twj]
          refine z_iload dL_areAttempts_400 rfl ?_
          refine z_if_eq (tgt := 428) dL_areAttempts_402 (by decide) (fun q_9 => absurd q_9 (((by decide)))) (fun _ => ?_)
          refine z_iload dL_areAttempts_405 rfl ?_
          refine z_aload_n dL_areAttempts_407 rfl ?_
          refine z_iload dL_areAttempts_408 rfl ?_
          refine z_callV dL_areAttempts_410 cv0_L_165 (q_isCopy hG S hc) rfl S.c rfl rfl ⟨(Nat.le_of_ble_eq_true rfl), (Nat.le_of_ble_eq_true rfl)⟩ (Nat.le_of_ble_eq_true rfl) (Nat.le_of_ble_eq_true rfl) (Nat.le_of_ble_eq_true rfl) (fun v σ1 nx1 hx1 hq1 => ?_)
          obtain ⟨rfl, S, rfl⟩ := hq1
          rw [zAc_5, if_pos hcp]
          refine z_if_eq (tgt := 420) dL_areAttempts_413 (by decide) (fun q_9 => absurd q_9 (((by decide)))) (fun _ => ?_)
          refine z_iconst (v := 1) dL_areAttempts_416 (by decide) ?_
          refine z_goto (tgt := 421) dL_areAttempts_417 (by decide) ?_
          refine z_icmp_ne (tgt := 428) dL_areAttempts_421 (by decide) (fun q_9 => absurd ((rfl)) q_9) (fun _ => ?_)
          refine z_iconst (v := 1) dL_areAttempts_424 (by decide) ?_
          refine z_goto (tgt := 429) dL_areAttempts_425 (by decide) ?_
          refine z_istore dL_areAttempts_429 (by decide) ?_
          refine z_iload dL_areAttempts_431 rfl ?_
          refine z_iload dL_areAttempts_433 rfl ?_
          refine z_iadd dL_areAttempts_435 ?_
          refine z_istore dL_areAttempts_436 (by decide) ?_
          refine z_inc1 dL_areAttempts_438 rfl (by decide) ?_
          rw [nI_1]
          refine z_goto (tgt := 67) dL_areAttempts_441 (by decide) ?_
          exact nxt _ _ _ _ _ _ _ (by omega) hnx S
        · rw [if_neg hcp] at twj nxt
          rw [twj]
          refine z_iload dL_areAttempts_400 rfl ?_
          refine z_if_eq (tgt := 428) dL_areAttempts_402 (by decide) (fun q_9 => absurd q_9 (((by decide)))) (fun _ => ?_)
          refine z_iload dL_areAttempts_405 rfl ?_
          refine z_aload_n dL_areAttempts_407 rfl ?_
          refine z_iload dL_areAttempts_408 rfl ?_
          refine z_callV dL_areAttempts_410 cv0_L_165 (q_isCopy hG S hc) rfl S.c rfl rfl ⟨(Nat.le_of_ble_eq_true rfl), (Nat.le_of_ble_eq_true rfl)⟩ (Nat.le_of_ble_eq_true rfl) (Nat.le_of_ble_eq_true rfl) (Nat.le_of_ble_eq_true rfl) (fun v σ1 nx1 hx1 hq1 => ?_)
          obtain ⟨rfl, S, rfl⟩ := hq1
          rw [zAc_5, if_neg hcp]
          refine z_if_eq (tgt := 420) dL_areAttempts_413 (by decide) (fun _ => ?_) (fun q_9 => absurd ((rfl)) q_9)
          refine z_iconst (v := 0) dL_areAttempts_420 (by decide) ?_
          refine z_icmp_ne (tgt := 428) dL_areAttempts_421 (by decide) (fun q_9 => absurd ((rfl)) q_9) (fun _ => ?_)
          refine z_iconst (v := 1) dL_areAttempts_424 (by decide) ?_
          refine z_goto (tgt := 429) dL_areAttempts_425 (by decide) ?_
          refine z_istore dL_areAttempts_429 (by decide) ?_
          refine z_iload dL_areAttempts_431 rfl ?_
          refine z_iload dL_areAttempts_433 rfl ?_
          refine z_iadd dL_areAttempts_435 ?_
          refine z_istore dL_areAttempts_436 (by decide) ?_
          refine z_inc1 dL_areAttempts_438 rfl (by decide) ?_
          rw [nI_1]
          refine z_goto (tgt := 67) dL_areAttempts_441 (by decide) ?_
          exact nxt _ _ _ _ _ _ _ (by omega) hnx S
      have inner : ∀ (e9 i : Nat) (σ2 : zH) (nx2 : Nat) (x13 : Option Value), i + e9 = j → b + 82 ≤ nx2 → zVs G σ2 b (nt, lim, mem, wk, slow, r, L, A, tk, sp, wk) R →
          zWP G kL_areAttempts (zFM G kL_areAttempts.2.2.2.1 (fun v σ' nx' => v = some (.int 1) ∧ zVs G σ' b (nt, lim, mem, wk, slow, r, L, A, tk, sp, wk) R)) 213 [some (.ref b), some (.ref (b + 81)), some (.int (nI tk)), some (.int (nI A.length)), some (.int (nI la)), some (.int su), some (.int (nI (zcps (A.take j)))), some (.int 1), some (.int (nI j)), some (.int (nI c.2.2.2.1)), some (.int (nI c.2.2.2.2.1)), some (.int (nI (tw i))), some (.int (nI i)), x13] [] σ2 nx2 6 36 := by
        intro e9
        induction e9 with
        | zero =>
          intro i σ2 nx2 x13 hi hnx S
          have ei : i = j := by omega
          subst ei
          refine z_iload dL_areAttempts_213 rfl ?_
          refine z_iload dL_areAttempts_215 rfl ?_
          refine z_icmp_ge (tgt := 400) dL_areAttempts_217 (by decide) (fun _ => ?_) (fun q_9 => absurd ((nI_le (Nat.le_refl _) (by omega))) q_9)
          exact after _ _ _ _ hnx S
        | succ e9 ie =>
          intro i σ2 nx2 x13 hi hnx S
          have hil : i < j := by omega
          obtain ⟨a, ha⟩ : ∃ a, A[i]? = some a := ⟨_, List.getElem?_eq_getElem (by omega)⟩
          obtain ⟨a1, a2, a3, a4, a5, a6⟩ := tkb i a ha
          obtain ⟨p1, p2, p3, p4⟩ := hat.2.1 i j a c ha hc hil
          obtain ⟨t1, t2⟩ := tws i a hil ha
          have nx9 := ie (i + 1)
          -- 3: twins
          have s3 : ∀ (σ2 : zH) (nx2 : Nat), b + 82 ≤ nx2 → zVs G σ2 b (nt, lim, mem, wk, slow, r, L, A, tk, sp, wk) R →
              zWP G kL_areAttempts (zFM G kL_areAttempts.2.2.2.1 (fun v σ' nx' => v = some (.int 1) ∧ zVs G σ' b (nt, lim, mem, wk, slow, r, L, A, tk, sp, wk) R)) 299 [some (.ref b), some (.ref (b + 81)), some (.int (nI tk)), some (.int (nI A.length)), some (.int (nI la)), some (.int su), some (.int (nI (zcps (A.take j)))), some (.int 1), some (.int (nI j)), some (.int (nI c.2.2.2.1)), some (.int (nI c.2.2.2.2.1)), some (.int (nI (tw i))), some (.int (nI i)), x13] [] σ2 nx2 6 36 := by
            intro σ2 nx2 hnx S
            have no : ∀ (σ2 : zH) (nx2 : Nat), b + 82 ≤ nx2 → ¬ (a.1 = c.1 ∧ a.2.1 = c.2.1) → zVs G σ2 b (nt, lim, mem, wk, slow, r, L, A, tk, sp, wk) R →
                zWP G kL_areAttempts (zFM G kL_areAttempts.2.2.2.1 (fun v σ' nx' => v = some (.int 1) ∧ zVs G σ' b (nt, lim, mem, wk, slow, r, L, A, tk, sp, wk) R)) 333 [some (.ref b), some (.ref (b + 81)), some (.int (nI tk)), some (.int (nI A.length)), some (.int (nI la)), some (.int su), some (.int (nI (zcps (A.take j)))), some (.int 1), some (.int (nI j)), some (.int (nI c.2.2.2.1)), some (.int (nI c.2.2.2.2.1)), some (.int (nI (tw i))), some (.int (nI i)), x13] [] σ2 nx2 6 36 := by
              intro σ2 nx2 hnx hn S
              rw [t2 hn] at nx9
              refine z_iconst (v := 0) dL_areAttempts_333 (by decide) ?_
              refine z_istore dL_areAttempts_334 (by decide) ?_
              refine z_iload dL_areAttempts_336 rfl ?_
              refine z_if_eq (tgt := 376) dL_areAttempts_338 (by decide) (fun q_9 => absurd q_9 (((by decide)))) (fun _ => ?_)
              refine z_iload dL_areAttempts_341 rfl ?_
              refine z_if_eq (tgt := 372) dL_areAttempts_343 (by decide) (fun _ => ?_) (fun q_9 => absurd ((rfl)) q_9)
              refine z_iconst (v := 1) dL_areAttempts_372 (by decide) ?_
              refine z_goto (tgt := 377) dL_areAttempts_373 (by decide) ?_
              refine z_istore dL_areAttempts_377 (by decide) ?_
              refine z_iload dL_areAttempts_379 rfl ?_
              refine z_iload dL_areAttempts_381 rfl ?_
              refine z_if_eq (tgt := 390) dL_areAttempts_383 (by decide) (fun _ => ?_) (fun q_9 => absurd ((rfl)) q_9)
              refine z_iconst (v := 0) dL_areAttempts_390 (by decide) ?_
              refine z_iadd dL_areAttempts_391 ?_
              rw [Int32.add_zero]
              refine z_istore dL_areAttempts_392 (by decide) ?_
              refine z_inc1 dL_areAttempts_394 rfl (by decide) ?_
              rw [nI_1]
              refine z_goto (tgt := 213) dL_areAttempts_397 (by decide) ?_
              exact nx9 _ _ _ (by omega) hnx S
            by_cases e1 : a.1 = c.1
            · by_cases e2 : a.2.1 = c.2.1
              · obtain ⟨y1, y2, -⟩ := p4 e1 e2
                rw [t1 ⟨e1, e2⟩, ← nI_1] at nx9
                refine z_aload_n dL_areAttempts_299 rfl ?_
                refine z_iload dL_areAttempts_300 rfl ?_
                refine z_callV dL_areAttempts_302 cv0_L_82 (q_nodeOf hG S ha) rfl S.c rfl rfl ⟨(Nat.le_of_ble_eq_true rfl), (Nat.le_of_ble_eq_true rfl)⟩ (Nat.le_of_ble_eq_true rfl) (Nat.le_of_ble_eq_true rfl) (Nat.le_of_ble_eq_true rfl) (fun v σ1 nx1 hx1 hq1 => ?_)
                obtain ⟨rfl, S, rfl⟩ := hq1
                rw [zAc_0]
                refine z_aload_n dL_areAttempts_305 rfl ?_
                refine z_iload dL_areAttempts_306 rfl ?_
                refine z_callV dL_areAttempts_308 cv0_L_82 (q_nodeOf hG S hc) rfl S.c rfl rfl ⟨(Nat.le_of_ble_eq_true rfl), (Nat.le_of_ble_eq_true rfl)⟩ (Nat.le_of_ble_eq_true rfl) (Nat.le_of_ble_eq_true rfl) (Nat.le_of_ble_eq_true rfl) (fun v σ1 nx1 hx1 hq1 => ?_)
                obtain ⟨rfl, S, rfl⟩ := hq1
                rw [zAc_0]
                refine z_icmp_ne (tgt := 333) dL_areAttempts_311 (by decide) (fun q_9 => absurd (((by rw [e1]))) q_9) (fun _ => ?_)
                refine z_aload_n dL_areAttempts_314 rfl ?_
                refine z_iload dL_areAttempts_315 rfl ?_
                refine z_callV dL_areAttempts_317 cv0_L_162 (q_partitionOf hG S ha) rfl S.c rfl rfl ⟨(Nat.le_of_ble_eq_true rfl), (Nat.le_of_ble_eq_true rfl)⟩ (Nat.le_of_ble_eq_true rfl) (Nat.le_of_ble_eq_true rfl) (Nat.le_of_ble_eq_true rfl) (fun v σ1 nx1 hx1 hq1 => ?_)
                obtain ⟨rfl, S, rfl⟩ := hq1
                rw [zAc_1]
                refine z_aload_n dL_areAttempts_320 rfl ?_
                refine z_iload dL_areAttempts_321 rfl ?_
                refine z_callV dL_areAttempts_323 cv0_L_162 (q_partitionOf hG S hc) rfl S.c rfl rfl ⟨(Nat.le_of_ble_eq_true rfl), (Nat.le_of_ble_eq_true rfl)⟩ (Nat.le_of_ble_eq_true rfl) (Nat.le_of_ble_eq_true rfl) (Nat.le_of_ble_eq_true rfl) (fun v σ1 nx1 hx1 hq1 => ?_)
                obtain ⟨rfl, S, rfl⟩ := hq1
                rw [zAc_1]
                refine z_icmp_ne (tgt := 333) dL_areAttempts_326 (by decide) (fun q_9 => absurd (((by rw [e2]))) q_9) (fun _ => ?_)
                refine z_iconst (v := 1) dL_areAttempts_329 (by decide) ?_
                refine z_goto (tgt := 334) dL_areAttempts_330 (by decide) ?_
                refine z_istore dL_areAttempts_334 (by decide) ?_
                refine z_iload dL_areAttempts_336 rfl ?_
                refine z_if_eq (tgt := 376) dL_areAttempts_338 (by decide) (fun q_9 => absurd q_9 (((by decide)))) (fun _ => ?_)
                refine z_iload dL_areAttempts_341 rfl ?_
                refine z_if_eq (tgt := 372) dL_areAttempts_343 (by decide) (fun q_9 => absurd q_9 (((by decide)))) (fun _ => ?_)
                refine z_aload_n dL_areAttempts_346 rfl ?_
                refine z_iload dL_areAttempts_347 rfl ?_
                refine z_callV dL_areAttempts_349 cv0_L_156 (q_endOf hG S ha) rfl S.c rfl rfl ⟨(Nat.le_of_ble_eq_true rfl), (Nat.le_of_ble_eq_true rfl)⟩ (Nat.le_of_ble_eq_true rfl) (Nat.le_of_ble_eq_true rfl) (Nat.le_of_ble_eq_true rfl) (fun v σ1 nx1 hx1 hq1 => ?_)
                obtain ⟨rfl, S, rfl⟩ := hq1
                rw [zAc_4]
                refine z_iload dL_areAttempts_352 rfl ?_
                refine z_icmp_ne (tgt := 376) dL_areAttempts_354 (by decide) (fun q_9 => absurd (((by rw [y1]))) q_9) (fun _ => ?_)
                refine z_aload_n dL_areAttempts_357 rfl ?_
                refine z_iload dL_areAttempts_358 rfl ?_
                refine z_callV dL_areAttempts_360 cv0_L_159 (q_workerOf hG S ha) rfl S.c rfl rfl ⟨(Nat.le_of_ble_eq_true rfl), (Nat.le_of_ble_eq_true rfl)⟩ (Nat.le_of_ble_eq_true rfl) (Nat.le_of_ble_eq_true rfl) (Nat.le_of_ble_eq_true rfl) (fun v σ1 nx1 hx1 hq1 => ?_)
                obtain ⟨rfl, S, rfl⟩ := hq1
                rw [zAc_2]
                refine z_aload_n dL_areAttempts_363 rfl ?_
                refine z_iload dL_areAttempts_364 rfl ?_
                refine z_callV dL_areAttempts_366 cv0_L_159 (q_workerOf hG S hc) rfl S.c rfl rfl ⟨(Nat.le_of_ble_eq_true rfl), (Nat.le_of_ble_eq_true rfl)⟩ (Nat.le_of_ble_eq_true rfl) (Nat.le_of_ble_eq_true rfl) (Nat.le_of_ble_eq_true rfl) (fun v σ1 nx1 hx1 hq1 => ?_)
                obtain ⟨rfl, S, rfl⟩ := hq1
                rw [zAc_2]
                refine z_icmp_eq (tgt := 376) dL_areAttempts_369 (by decide) (fun q_9 => absurd q_9 (((fun w => y2 ((nI_eq (by omega) (by omega)).mp w))))) (fun _ => ?_)
                refine z_iconst (v := 1) dL_areAttempts_372 (by decide) ?_
                refine z_goto (tgt := 377) dL_areAttempts_373 (by decide) ?_
                refine z_istore dL_areAttempts_377 (by decide) ?_
                refine z_iload dL_areAttempts_379 rfl ?_
                refine z_iload dL_areAttempts_381 rfl ?_
                refine z_if_eq (tgt := 390) dL_areAttempts_383 (by decide) (fun q_9 => absurd q_9 (((by decide)))) (fun _ => ?_)
                refine z_iconst (v := 1) dL_areAttempts_386 (by decide) ?_
                refine z_goto (tgt := 391) dL_areAttempts_387 (by decide) ?_
                refine z_iadd dL_areAttempts_391 ?_
                refine z_istore dL_areAttempts_392 (by decide) ?_
                refine z_inc1 dL_areAttempts_394 rfl (by decide) ?_
                rw [nI_1 i]
                refine z_goto (tgt := 213) dL_areAttempts_397 (by decide) ?_
                exact nx9 _ _ _ (by omega) hnx S
              · refine z_aload_n dL_areAttempts_299 rfl ?_
                refine z_iload dL_areAttempts_300 rfl ?_
                refine z_callV dL_areAttempts_302 cv0_L_82 (q_nodeOf hG S ha) rfl S.c rfl rfl ⟨(Nat.le_of_ble_eq_true rfl), (Nat.le_of_ble_eq_true rfl)⟩ (Nat.le_of_ble_eq_true rfl) (Nat.le_of_ble_eq_true rfl) (Nat.le_of_ble_eq_true rfl) (fun v σ1 nx1 hx1 hq1 => ?_)
                obtain ⟨rfl, S, rfl⟩ := hq1
                rw [zAc_0]
                refine z_aload_n dL_areAttempts_305 rfl ?_
                refine z_iload dL_areAttempts_306 rfl ?_
                refine z_callV dL_areAttempts_308 cv0_L_82 (q_nodeOf hG S hc) rfl S.c rfl rfl ⟨(Nat.le_of_ble_eq_true rfl), (Nat.le_of_ble_eq_true rfl)⟩ (Nat.le_of_ble_eq_true rfl) (Nat.le_of_ble_eq_true rfl) (Nat.le_of_ble_eq_true rfl) (fun v σ1 nx1 hx1 hq1 => ?_)
                obtain ⟨rfl, S, rfl⟩ := hq1
                rw [zAc_0]
                refine z_icmp_ne (tgt := 333) dL_areAttempts_311 (by decide) (fun q_9 => absurd (((by rw [e1]))) q_9) (fun _ => ?_)
                refine z_aload_n dL_areAttempts_314 rfl ?_
                refine z_iload dL_areAttempts_315 rfl ?_
                refine z_callV dL_areAttempts_317 cv0_L_162 (q_partitionOf hG S ha) rfl S.c rfl rfl ⟨(Nat.le_of_ble_eq_true rfl), (Nat.le_of_ble_eq_true rfl)⟩ (Nat.le_of_ble_eq_true rfl) (Nat.le_of_ble_eq_true rfl) (Nat.le_of_ble_eq_true rfl) (fun v σ1 nx1 hx1 hq1 => ?_)
                obtain ⟨rfl, S, rfl⟩ := hq1
                rw [zAc_1]
                refine z_aload_n dL_areAttempts_320 rfl ?_
                refine z_iload dL_areAttempts_321 rfl ?_
                refine z_callV dL_areAttempts_323 cv0_L_162 (q_partitionOf hG S hc) rfl S.c rfl rfl ⟨(Nat.le_of_ble_eq_true rfl), (Nat.le_of_ble_eq_true rfl)⟩ (Nat.le_of_ble_eq_true rfl) (Nat.le_of_ble_eq_true rfl) (Nat.le_of_ble_eq_true rfl) (fun v σ1 nx1 hx1 hq1 => ?_)
                obtain ⟨rfl, S, rfl⟩ := hq1
                rw [zAc_1]
                refine z_icmp_ne (tgt := 333) dL_areAttempts_326 (by decide) (fun _ => ?_) (fun q_9 => absurd q_9 (((fun w => e2 ((nI_eq (by omega) (by omega)).mp w)))))
                exact no _ _ hnx (fun w => e2 w.2) S
            · refine z_aload_n dL_areAttempts_299 rfl ?_
              refine z_iload dL_areAttempts_300 rfl ?_
              refine z_callV dL_areAttempts_302 cv0_L_82 (q_nodeOf hG S ha) rfl S.c rfl rfl ⟨(Nat.le_of_ble_eq_true rfl), (Nat.le_of_ble_eq_true rfl)⟩ (Nat.le_of_ble_eq_true rfl) (Nat.le_of_ble_eq_true rfl) (Nat.le_of_ble_eq_true rfl) (fun v σ1 nx1 hx1 hq1 => ?_)
              obtain ⟨rfl, S, rfl⟩ := hq1
              rw [zAc_0]
              refine z_aload_n dL_areAttempts_305 rfl ?_
              refine z_iload dL_areAttempts_306 rfl ?_
              refine z_callV dL_areAttempts_308 cv0_L_82 (q_nodeOf hG S hc) rfl S.c rfl rfl ⟨(Nat.le_of_ble_eq_true rfl), (Nat.le_of_ble_eq_true rfl)⟩ (Nat.le_of_ble_eq_true rfl) (Nat.le_of_ble_eq_true rfl) (Nat.le_of_ble_eq_true rfl) (fun v σ1 nx1 hx1 hq1 => ?_)
              obtain ⟨rfl, S, rfl⟩ := hq1
              rw [zAc_0]
              refine z_icmp_ne (tgt := 333) dL_areAttempts_311 (by decide) (fun _ => ?_) (fun q_9 => absurd q_9 (((fun w => e1 ((nI_eq (by omega) (by omega)).mp w)))))
              exact no _ _ hnx (fun w => e1 w.1) S
          -- 2: outputs
          have s2 : ∀ (σ2 : zH) (nx2 : Nat), b + 82 ≤ nx2 → zVs G σ2 b (nt, lim, mem, wk, slow, r, L, A, tk, sp, wk) R →
              zWP G kL_areAttempts (zFM G kL_areAttempts.2.2.2.1 (fun v σ' nx' => v = some (.int 1) ∧ zVs G σ' b (nt, lim, mem, wk, slow, r, L, A, tk, sp, wk) R)) 251 [some (.ref b), some (.ref (b + 81)), some (.int (nI tk)), some (.int (nI A.length)), some (.int (nI la)), some (.int su), some (.int (nI (zcps (A.take j)))), some (.int 1), some (.int (nI j)), some (.int (nI c.2.2.2.1)), some (.int (nI c.2.2.2.2.1)), some (.int (nI (tw i))), some (.int (nI i)), x13] [] σ2 nx2 6 36 := by
            intro σ2 nx2 hnx S
            by_cases e1 : a.1 = c.1
            · refine z_aload_n dL_areAttempts_251 rfl ?_
              refine z_iload dL_areAttempts_252 rfl ?_
              refine z_callV dL_areAttempts_254 cv0_L_82 (q_nodeOf hG S ha) rfl S.c rfl rfl ⟨(Nat.le_of_ble_eq_true rfl), (Nat.le_of_ble_eq_true rfl)⟩ (Nat.le_of_ble_eq_true rfl) (Nat.le_of_ble_eq_true rfl) (Nat.le_of_ble_eq_true rfl) (fun v σ1 nx1 hx1 hq1 => ?_)
              obtain ⟨rfl, S, rfl⟩ := hq1
              rw [zAc_0]
              refine z_aload_n dL_areAttempts_257 rfl ?_
              refine z_iload dL_areAttempts_258 rfl ?_
              refine z_callV dL_areAttempts_260 cv0_L_82 (q_nodeOf hG S hc) rfl S.c rfl rfl ⟨(Nat.le_of_ble_eq_true rfl), (Nat.le_of_ble_eq_true rfl)⟩ (Nat.le_of_ble_eq_true rfl) (Nat.le_of_ble_eq_true rfl) (Nat.le_of_ble_eq_true rfl) (fun v σ1 nx1 hx1 hq1 => ?_)
              obtain ⟨rfl, S, rfl⟩ := hq1
              rw [zAc_0]
              refine z_icmp_eq (tgt := 292) dL_areAttempts_263 (by decide) (fun _ => ?_) (fun q_9 => absurd (((by rw [e1]))) q_9)
              refine z_iconst (v := 1) dL_areAttempts_292 (by decide) ?_
              refine z_goto (tgt := 297) dL_areAttempts_293 (by decide) ?_
              refine z_istore dL_areAttempts_297 (by decide) ?_
              exact s3 _ _ hnx S
            · obtain ⟨v1, v2⟩ := p3.resolve_left e1
              refine z_aload_n dL_areAttempts_251 rfl ?_
              refine z_iload dL_areAttempts_252 rfl ?_
              refine z_callV dL_areAttempts_254 cv0_L_82 (q_nodeOf hG S ha) rfl S.c rfl rfl ⟨(Nat.le_of_ble_eq_true rfl), (Nat.le_of_ble_eq_true rfl)⟩ (Nat.le_of_ble_eq_true rfl) (Nat.le_of_ble_eq_true rfl) (Nat.le_of_ble_eq_true rfl) (fun v σ1 nx1 hx1 hq1 => ?_)
              obtain ⟨rfl, S, rfl⟩ := hq1
              rw [zAc_0]
              refine z_aload_n dL_areAttempts_257 rfl ?_
              refine z_iload dL_areAttempts_258 rfl ?_
              refine z_callV dL_areAttempts_260 cv0_L_82 (q_nodeOf hG S hc) rfl S.c rfl rfl ⟨(Nat.le_of_ble_eq_true rfl), (Nat.le_of_ble_eq_true rfl)⟩ (Nat.le_of_ble_eq_true rfl) (Nat.le_of_ble_eq_true rfl) (Nat.le_of_ble_eq_true rfl) (fun v σ1 nx1 hx1 hq1 => ?_)
              obtain ⟨rfl, S, rfl⟩ := hq1
              rw [zAc_0]
              refine z_icmp_eq (tgt := 292) dL_areAttempts_263 (by decide) (fun q_9 => absurd q_9 (((fun w => e1 ((nI_eq (by omega) (by omega)).mp w))))) (fun _ => ?_)
              refine z_aload_n dL_areAttempts_266 rfl ?_
              refine z_iload dL_areAttempts_267 rfl ?_
              refine z_callV dL_areAttempts_269 cv0_L_82 (q_nodeOf hG S ha) rfl S.c rfl rfl ⟨(Nat.le_of_ble_eq_true rfl), (Nat.le_of_ble_eq_true rfl)⟩ (Nat.le_of_ble_eq_true rfl) (Nat.le_of_ble_eq_true rfl) (Nat.le_of_ble_eq_true rfl) (fun v σ1 nx1 hx1 hq1 => ?_)
              obtain ⟨rfl, S, rfl⟩ := hq1
              rw [zAc_0]
              refine z_aload_n dL_areAttempts_272 rfl ?_
              refine z_iload dL_areAttempts_273 rfl ?_
              refine z_callV dL_areAttempts_275 cv0_L_82 (q_nodeOf hG S hc) rfl S.c rfl rfl ⟨(Nat.le_of_ble_eq_true rfl), (Nat.le_of_ble_eq_true rfl)⟩ (Nat.le_of_ble_eq_true rfl) (Nat.le_of_ble_eq_true rfl) (Nat.le_of_ble_eq_true rfl) (fun v σ1 nx1 hx1 hq1 => ?_)
              obtain ⟨rfl, S, rfl⟩ := hq1
              rw [zAc_0]
              refine z_icmp_ge (tgt := 296) dL_areAttempts_278 (by decide) (fun q_9 => absurd q_9 ((nI_ge v1 (by omega)))) (fun _ => ?_)
              refine z_aload_n dL_areAttempts_281 rfl ?_
              refine z_iload dL_areAttempts_282 rfl ?_
              refine z_callV dL_areAttempts_284 cv0_L_156 (q_endOf hG S ha) rfl S.c rfl rfl ⟨(Nat.le_of_ble_eq_true rfl), (Nat.le_of_ble_eq_true rfl)⟩ (Nat.le_of_ble_eq_true rfl) (Nat.le_of_ble_eq_true rfl) (Nat.le_of_ble_eq_true rfl) (fun v σ1 nx1 hx1 hq1 => ?_)
              obtain ⟨rfl, S, rfl⟩ := hq1
              rw [zAc_4]
              refine z_iload dL_areAttempts_287 rfl ?_
              refine z_icmp_gt (tgt := 296) dL_areAttempts_289 (by decide) (fun q_9 => absurd q_9 (((nI_nlt v2 (by omega))))) (fun _ => ?_)
              refine z_iconst (v := 1) dL_areAttempts_292 (by decide) ?_
              refine z_goto (tgt := 297) dL_areAttempts_293 (by decide) ?_
              refine z_istore dL_areAttempts_297 (by decide) ?_
              exact s3 _ _ hnx S
          by_cases e1 : a.2.2.1 = c.2.2.1
          · refine z_iload dL_areAttempts_213 rfl ?_
            refine z_iload dL_areAttempts_215 rfl ?_
            refine z_icmp_ge (tgt := 400) dL_areAttempts_217 (by decide) (fun q_9 => absurd q_9 ((nI_ge hil (by omega)))) (fun _ => ?_)
            refine z_iload dL_areAttempts_220 rfl ?_
            refine z_if_eq (tgt := 296) dL_areAttempts_222 (by decide) (fun q_9 => absurd q_9 (((by decide)))) (fun _ => ?_)
            refine z_aload_n dL_areAttempts_225 rfl ?_
            refine z_iload dL_areAttempts_226 rfl ?_
            refine z_callV dL_areAttempts_228 cv0_L_159 (q_workerOf hG S ha) rfl S.c rfl rfl ⟨(Nat.le_of_ble_eq_true rfl), (Nat.le_of_ble_eq_true rfl)⟩ (Nat.le_of_ble_eq_true rfl) (Nat.le_of_ble_eq_true rfl) (Nat.le_of_ble_eq_true rfl) (fun v σ1 nx1 hx1 hq1 => ?_)
            obtain ⟨rfl, S, rfl⟩ := hq1
            rw [zAc_2]
            refine z_aload_n dL_areAttempts_231 rfl ?_
            refine z_iload dL_areAttempts_232 rfl ?_
            refine z_callV dL_areAttempts_234 cv0_L_159 (q_workerOf hG S hc) rfl S.c rfl rfl ⟨(Nat.le_of_ble_eq_true rfl), (Nat.le_of_ble_eq_true rfl)⟩ (Nat.le_of_ble_eq_true rfl) (Nat.le_of_ble_eq_true rfl) (Nat.le_of_ble_eq_true rfl) (fun v σ1 nx1 hx1 hq1 => ?_)
            obtain ⟨rfl, S, rfl⟩ := hq1
            rw [zAc_2]
            refine z_icmp_ne (tgt := 251) dL_areAttempts_237 (by decide) (fun q_9 => absurd (((by rw [e1]))) q_9) (fun _ => ?_)
            refine z_aload_n dL_areAttempts_240 rfl ?_
            refine z_iload dL_areAttempts_241 rfl ?_
            refine z_callV dL_areAttempts_243 cv0_L_156 (q_endOf hG S ha) rfl S.c rfl rfl ⟨(Nat.le_of_ble_eq_true rfl), (Nat.le_of_ble_eq_true rfl)⟩ (Nat.le_of_ble_eq_true rfl) (Nat.le_of_ble_eq_true rfl) (Nat.le_of_ble_eq_true rfl) (fun v σ1 nx1 hx1 hq1 => ?_)
            obtain ⟨rfl, S, rfl⟩ := hq1
            rw [zAc_4]
            refine z_iload dL_areAttempts_246 rfl ?_
            refine z_icmp_gt (tgt := 296) dL_areAttempts_248 (by decide) (fun q_9 => absurd q_9 (((nI_nlt (p2 e1) (by omega))))) (fun _ => ?_)
            exact s2 _ _ hnx S
          · refine z_iload dL_areAttempts_213 rfl ?_
            refine z_iload dL_areAttempts_215 rfl ?_
            refine z_icmp_ge (tgt := 400) dL_areAttempts_217 (by decide) (fun q_9 => absurd q_9 ((nI_ge hil (by omega)))) (fun _ => ?_)
            refine z_iload dL_areAttempts_220 rfl ?_
            refine z_if_eq (tgt := 296) dL_areAttempts_222 (by decide) (fun q_9 => absurd q_9 (((by decide)))) (fun _ => ?_)
            refine z_aload_n dL_areAttempts_225 rfl ?_
            refine z_iload dL_areAttempts_226 rfl ?_
            refine z_callV dL_areAttempts_228 cv0_L_159 (q_workerOf hG S ha) rfl S.c rfl rfl ⟨(Nat.le_of_ble_eq_true rfl), (Nat.le_of_ble_eq_true rfl)⟩ (Nat.le_of_ble_eq_true rfl) (Nat.le_of_ble_eq_true rfl) (Nat.le_of_ble_eq_true rfl) (fun v σ1 nx1 hx1 hq1 => ?_)
            obtain ⟨rfl, S, rfl⟩ := hq1
            rw [zAc_2]
            refine z_aload_n dL_areAttempts_231 rfl ?_
            refine z_iload dL_areAttempts_232 rfl ?_
            refine z_callV dL_areAttempts_234 cv0_L_159 (q_workerOf hG S hc) rfl S.c rfl rfl ⟨(Nat.le_of_ble_eq_true rfl), (Nat.le_of_ble_eq_true rfl)⟩ (Nat.le_of_ble_eq_true rfl) (Nat.le_of_ble_eq_true rfl) (Nat.le_of_ble_eq_true rfl) (fun v σ1 nx1 hx1 hq1 => ?_)
            obtain ⟨rfl, S, rfl⟩ := hq1
            rw [zAc_2]
            refine z_icmp_ne (tgt := 251) dL_areAttempts_237 (by decide) (fun _ => ?_) (fun q_9 => absurd q_9 (((fun w => e1 ((nI_eq (by omega) (by omega)).mp w)))))
            exact s2 _ _ hnx S
      have in0 := inner j 0
      rw [tw0] at in0
      have s5 : ∀ (σ2 : zH) (nx2 : Nat) (x11 x12 x13 : Option Value), b + 82 ≤ nx2 → zVs G σ2 b (nt, lim, mem, wk, slow, r, L, A, tk, sp, wk) R →
          zWP G kL_areAttempts (zFM G kL_areAttempts.2.2.2.1 (fun v σ' nx' => v = some (.int 1) ∧ zVs G σ' b (nt, lim, mem, wk, slow, r, L, A, tk, sp, wk) R)) 174 [some (.ref b), some (.ref (b + 81)), some (.int (nI tk)), some (.int (nI A.length)), some (.int (nI (zlst (A.take j)))), some (.int (zts (A.take j))), some (.int (nI (zcps (A.take j)))), some (.int 1), some (.int (nI j)), some (.int (nI c.2.2.2.1)), some (.int (nI c.2.2.2.2.1)), x11, x12, x13] [] σ2 nx2 6 36 := by
        intro σ2 nx2 x11 x12 x13 hnx S
        by_cases hle : c.2.2.2.2.1 ≤ zlst (A.take j)
        · rw [if_pos hle] at hla
          subst hla
          subst hsu
          refine z_iconst (v := 1) dL_areAttempts_174 (by decide) ?_
          refine z_goto (tgt := 179) dL_areAttempts_175 (by decide) ?_
          refine z_istore dL_areAttempts_179 (by decide) ?_
          refine z_iload dL_areAttempts_181 rfl ?_
          refine z_iload dL_areAttempts_183 rfl ?_
          refine z_icmp_le (tgt := 193) dL_areAttempts_185 (by decide) (fun _ => ?_) (fun q_9 => absurd ((nI_le hle (by omega))) q_9)
          refine z_iload dL_areAttempts_193 rfl ?_
          refine z_istore dL_areAttempts_195 (by decide) ?_
          refine z_iload dL_areAttempts_197 rfl ?_
          refine z_iload dL_areAttempts_199 rfl ?_
          refine z_iload dL_areAttempts_201 rfl ?_
          refine z_isub dL_areAttempts_203 ?_
          refine z_iadd dL_areAttempts_204 ?_
          refine z_istore dL_areAttempts_205 (by decide) ?_
          refine z_iconst (v := 0) dL_areAttempts_207 (by decide) ?_
          refine z_istore dL_areAttempts_208 (by decide) ?_
          refine z_iconst (v := 0) dL_areAttempts_210 (by decide) ?_
          refine z_istore dL_areAttempts_211 (by decide) ?_
          exact in0 _ _ _ (Nat.zero_add _) hnx S
        · rw [if_neg hle] at hla
          subst hla
          subst hsu
          refine z_iconst (v := 1) dL_areAttempts_174 (by decide) ?_
          refine z_goto (tgt := 179) dL_areAttempts_175 (by decide) ?_
          refine z_istore dL_areAttempts_179 (by decide) ?_
          refine z_iload dL_areAttempts_181 rfl ?_
          refine z_iload dL_areAttempts_183 rfl ?_
          refine z_icmp_le (tgt := 193) dL_areAttempts_185 (by decide) (fun q_9 => absurd q_9 ((nI_ge (Nat.not_le.mp hle) (by omega)))) (fun _ => ?_)
          refine z_iload dL_areAttempts_188 rfl ?_
          refine z_goto (tgt := 195) dL_areAttempts_190 (by decide) ?_
          refine z_istore dL_areAttempts_195 (by decide) ?_
          refine z_iload dL_areAttempts_197 rfl ?_
          refine z_iload dL_areAttempts_199 rfl ?_
          refine z_iload dL_areAttempts_201 rfl ?_
          refine z_isub dL_areAttempts_203 ?_
          refine z_iadd dL_areAttempts_204 ?_
          refine z_istore dL_areAttempts_205 (by decide) ?_
          refine z_iconst (v := 0) dL_areAttempts_207 (by decide) ?_
          refine z_istore dL_areAttempts_208 (by decide) ?_
          refine z_iconst (v := 0) dL_areAttempts_210 (by decide) ?_
          refine z_istore dL_areAttempts_211 (by decide) ?_
          exact in0 _ _ _ (Nat.zero_add _) hnx S
      refine z_iload dL_areAttempts_67 rfl ?_
      refine z_iload_n dL_areAttempts_69 rfl ?_
      refine z_icmp_ge (tgt := 444) dL_areAttempts_70 (by decide) (fun q_9 => absurd q_9 ((nI_ge hjl (by omega)))) (fun _ => ?_)
      refine z_iload dL_areAttempts_73 rfl ?_
      refine z_if_eq (tgt := 444) dL_areAttempts_75 (by decide) (fun q_9 => absurd q_9 (((by decide)))) (fun _ => ?_)
      refine z_aload_n dL_areAttempts_78 rfl ?_
      refine z_iload dL_areAttempts_79 rfl ?_
      refine z_callV dL_areAttempts_81 cv0_L_85 (q_startOf hG S hc) rfl S.c rfl rfl ⟨(Nat.le_of_ble_eq_true rfl), (Nat.le_of_ble_eq_true rfl)⟩ (Nat.le_of_ble_eq_true rfl) (Nat.le_of_ble_eq_true rfl) (Nat.le_of_ble_eq_true rfl) (fun v σ1 nx1 hx1 hq1 => ?_)
      obtain ⟨rfl, S, rfl⟩ := hq1
      rw [zAc_3]
      refine z_istore dL_areAttempts_84 (by decide) ?_
      refine z_aload_n dL_areAttempts_86 rfl ?_
      refine z_iload dL_areAttempts_87 rfl ?_
      refine z_callV dL_areAttempts_89 cv0_L_156 (q_endOf hG S hc) rfl S.c rfl rfl ⟨(Nat.le_of_ble_eq_true rfl), (Nat.le_of_ble_eq_true rfl)⟩ (Nat.le_of_ble_eq_true rfl) (Nat.le_of_ble_eq_true rfl) (Nat.le_of_ble_eq_true rfl) (fun v σ1 nx1 hx1 hq1 => ?_)
      obtain ⟨rfl, S, rfl⟩ := hq1
      rw [zAc_4]
      refine z_istore dL_areAttempts_92 (by decide) ?_
      refine z_iload dL_areAttempts_94 rfl ?_
      refine z_iload dL_areAttempts_96 rfl ?_
      refine z_icmp_le (tgt := 178) dL_areAttempts_98 (by decide) (fun q_9 => absurd q_9 ((nI_ge b1 (by omega)))) (fun _ => ?_)
      refine z_iload dL_areAttempts_101 rfl ?_
      refine z_iload_n dL_areAttempts_103 rfl ?_
      refine z_icmp_gt (tgt := 178) dL_areAttempts_104 (by decide) (fun q_9 => absurd q_9 (((nI_nlt b2 (by omega))))) (fun _ => ?_)
      refine z_aload_n dL_areAttempts_107 rfl ?_
      refine z_iload dL_areAttempts_108 rfl ?_
      refine z_callV dL_areAttempts_110 cv0_L_159 (q_workerOf hG S hc) rfl S.c rfl rfl ⟨(Nat.le_of_ble_eq_true rfl), (Nat.le_of_ble_eq_true rfl)⟩ (Nat.le_of_ble_eq_true rfl) (Nat.le_of_ble_eq_true rfl) (Nat.le_of_ble_eq_true rfl) (fun v σ1 nx1 hx1 hq1 => ?_)
      obtain ⟨rfl, S, rfl⟩ := hq1
      rw [zAc_2]
      refine z_if_lt (tgt := 178) dL_areAttempts_113 (by decide) (fun q_9 => absurd q_9 (((nI_pos (by omega))))) (fun _ => ?_)
      refine z_aload_n dL_areAttempts_116 rfl ?_
      refine z_iload dL_areAttempts_117 rfl ?_
      refine z_callV dL_areAttempts_119 cv0_L_159 (q_workerOf hG S hc) rfl S.c rfl rfl ⟨(Nat.le_of_ble_eq_true rfl), (Nat.le_of_ble_eq_true rfl)⟩ (Nat.le_of_ble_eq_true rfl) (Nat.le_of_ble_eq_true rfl) (Nat.le_of_ble_eq_true rfl) (fun v σ1 nx1 hx1 hq1 => ?_)
      obtain ⟨rfl, S, rfl⟩ := hq1
      rw [zAc_2]
      refine z_aload_n dL_areAttempts_122 rfl ?_
      refine z_iconst (v := 2) dL_areAttempts_123 (by decide) ?_
      refine z_gr dL_areAttempts_124 S (i := 2) (by decide) hg2 ?_
      refine z_icmp_ge (tgt := 178) dL_areAttempts_125 (by decide) (fun q_9 => absurd q_9 ((nI_ge b3 (by omega)))) (fun _ => ?_)
      refine z_aload_n dL_areAttempts_128 rfl ?_
      refine z_iload dL_areAttempts_129 rfl ?_
      refine z_callV dL_areAttempts_131 cv0_L_162 (q_partitionOf hG S hc) rfl S.c rfl rfl ⟨(Nat.le_of_ble_eq_true rfl), (Nat.le_of_ble_eq_true rfl)⟩ (Nat.le_of_ble_eq_true rfl) (Nat.le_of_ble_eq_true rfl) (Nat.le_of_ble_eq_true rfl) (fun v σ1 nx1 hx1 hq1 => ?_)
      obtain ⟨rfl, S, rfl⟩ := hq1
      rw [zAc_1]
      refine z_if_lt (tgt := 178) dL_areAttempts_134 (by decide) (fun q_9 => absurd q_9 (((nI_pos (by omega))))) (fun _ => ?_)
      refine z_aload_n dL_areAttempts_137 rfl ?_
      refine z_iload dL_areAttempts_138 rfl ?_
      refine z_callV dL_areAttempts_140 cv0_L_162 (q_partitionOf hG S hc) rfl S.c rfl rfl ⟨(Nat.le_of_ble_eq_true rfl), (Nat.le_of_ble_eq_true rfl)⟩ (Nat.le_of_ble_eq_true rfl) (Nat.le_of_ble_eq_true rfl) (Nat.le_of_ble_eq_true rfl) (fun v σ1 nx1 hx1 hq1 => ?_)
      obtain ⟨rfl, S, rfl⟩ := hq1
      rw [zAc_1]
      refine z_aload_n dL_areAttempts_143 rfl ?_
      refine z_aload_n dL_areAttempts_144 rfl ?_
      refine z_iload dL_areAttempts_145 rfl ?_
      refine z_callV dL_areAttempts_147 cv0_L_82 (q_nodeOf hG S hc) rfl S.c rfl rfl ⟨(Nat.le_of_ble_eq_true rfl), (Nat.le_of_ble_eq_true rfl)⟩ (Nat.le_of_ble_eq_true rfl) (Nat.le_of_ble_eq_true rfl) (Nat.le_of_ble_eq_true rfl) (fun v σ1 nx1 hx1 hq1 => ?_)
      obtain ⟨rfl, S, rfl⟩ := hq1
      rw [zAc_0]
      refine z_callV dL_areAttempts_150 cv0_L_58 (q_partitions hG S b6) rfl S.c rfl rfl ⟨(Nat.le_of_ble_eq_true rfl), (Nat.le_of_ble_eq_true rfl)⟩ (Nat.le_of_ble_eq_true rfl) (Nat.le_of_ble_eq_true rfl) (Nat.le_of_ble_eq_true rfl) (fun v σ1 nx1 hx1 hq1 => ?_)
      obtain ⟨rfl, S, rfl⟩ := hq1
      refine z_icmp_ge (tgt := 178) dL_areAttempts_153 (by decide) (fun q_9 => absurd q_9 ((nI_ge b4 (by omega)))) (fun _ => ?_)
      refine z_iload dL_areAttempts_156 rfl ?_
      cases j with
      | zero =>
        refine z_if_eq (tgt := 174) dL_areAttempts_158 (by decide) (fun _ => ?_) (fun q_9 => absurd ((rfl)) q_9)
        exact s5 _ _ _ _ _ hnx S
      | succ j' =>
        obtain ⟨a, ha⟩ : ∃ a, A[j']? = some a := ⟨_, List.getElem?_eq_getElem (by omega)⟩
        obtain ⟨p1, -⟩ := hat.2.1 j' (j' + 1) a c ha hc (Nat.lt_succ_self j')
        refine z_if_eq (tgt := 174) dL_areAttempts_158 (by decide) (fun q_9 => absurd q_9 (((fun w => absurd ((nI_eq (a := j' + 1) (b := 0) (by omega) (by decide)).mp w) (Nat.succ_ne_zero j'))))) (fun _ => ?_)
        refine z_iload dL_areAttempts_161 rfl ?_
        refine z_aload_n dL_areAttempts_163 rfl ?_
        refine z_iload dL_areAttempts_164 rfl ?_
        refine z_iconst (v := 1) dL_areAttempts_166 (by decide) ?_
        refine z_isub dL_areAttempts_167 ?_
        rw [zsub1 (by omega)]
        refine z_callV dL_areAttempts_168 cv0_L_85 (q_startOf hG S ha) rfl S.c rfl rfl ⟨(Nat.le_of_ble_eq_true rfl), (Nat.le_of_ble_eq_true rfl)⟩ (Nat.le_of_ble_eq_true rfl) (Nat.le_of_ble_eq_true rfl) (Nat.le_of_ble_eq_true rfl) (fun v σ1 nx1 hx1 hq1 => ?_)
        obtain ⟨rfl, S, rfl⟩ := hq1
        rw [zAc_3]
        refine z_icmp_lt (tgt := 178) dL_areAttempts_171 (by decide) (fun q_9 => absurd q_9 (((nI_nlt p1 (by omega))))) (fun _ => ?_)
        exact s5 _ _ _ _ _ hnx S
  have l0 := outer A.length 0
  rw [List.take_zero, show zlst [] = 0 from rfl, show zts [] = 0 from rfl, show zcps [] = 0 from rfl] at l0
  refine z_aload_n dL_areAttempts_0 rfl ?_
  refine z_callV dL_areAttempts_1 cv_L_147 (p_attempts S) rfl S.c rfl rfl ⟨(Nat.le_of_ble_eq_true rfl), (Nat.le_of_ble_eq_true rfl)⟩ (Nat.le_of_ble_eq_true rfl) (Nat.le_of_ble_eq_true rfl) (Nat.le_of_ble_eq_true rfl) (fun v σ1 nx1 hx1 hq1 => ?_)
  obtain ⟨rfl, S, rfl⟩ := hq1
  refine z_istore_n dL_areAttempts_4 (by decide) ?_
  refine z_iconst (v := 0) dL_areAttempts_5 (by decide) ?_
  refine z_istore dL_areAttempts_6 (by decide) ?_
  refine z_iconst (v := 0) dL_areAttempts_8 (by decide) ?_
  refine z_istore dL_areAttempts_9 (by decide) ?_
  refine z_iconst (v := 0) dL_areAttempts_11 (by decide) ?_
  refine z_istore dL_areAttempts_12 (by decide) ?_
  refine z_aload_n dL_areAttempts_14 rfl ?_
  refine z_callV dL_areAttempts_15 cv_L_150 (p_ticks S) rfl S.c rfl rfl ⟨(Nat.le_of_ble_eq_true rfl), (Nat.le_of_ble_eq_true rfl)⟩ (Nat.le_of_ble_eq_true rfl) (Nat.le_of_ble_eq_true rfl) (Nat.le_of_ble_eq_true rfl) (fun v σ1 nx1 hx1 hq1 => ?_)
  obtain ⟨rfl, S, rfl⟩ := hq1
  refine z_iload_n dL_areAttempts_18 rfl ?_
  refine z_icmp_ne (tgt := 61) dL_areAttempts_19 (by decide) (fun q_9 => absurd ((rfl)) q_9) (fun _ => ?_)
  refine z_aload_n dL_areAttempts_22 rfl ?_
  refine z_callV dL_areAttempts_23 cv_L_153 (p_spilled S) rfl S.c rfl rfl ⟨(Nat.le_of_ble_eq_true rfl), (Nat.le_of_ble_eq_true rfl)⟩ (Nat.le_of_ble_eq_true rfl) (Nat.le_of_ble_eq_true rfl) (Nat.le_of_ble_eq_true rfl) (fun v σ1 nx1 hx1 hq1 => ?_)
  obtain ⟨rfl, S, rfl⟩ := hq1
  refine z_if_lt (tgt := 61) dL_areAttempts_26 (by decide) (fun q_9 => absurd q_9 (((nI_pos hsp)))) (fun _ => ?_)
  refine z_aload_n dL_areAttempts_29 rfl ?_
  refine z_bipush (v := 8) dL_areAttempts_30 (by decide) ?_
  refine z_iload_n dL_areAttempts_32 rfl ?_
  refine z_iconst (v := 0) dL_areAttempts_33 (by decide) ?_
  refine z_iconst (v := 0) dL_areAttempts_34 (by decide) ?_
  refine z_callH dL_areAttempts_35 ch_L_102 (w_asks_nodeOf hG hnx S) rfl rfl ⟨(Nat.le_of_ble_eq_true rfl), (Nat.le_of_ble_eq_true rfl)⟩ (Nat.le_of_ble_eq_true rfl) (Nat.le_of_ble_eq_true rfl) (Nat.le_of_ble_eq_true rfl) (fun v σ1 nx1 hx1 hq1 => ?_)
  obtain ⟨rfl, S⟩ := hq1.badI (zkn_bad (Or.inr (Int32.le_refl _))) S
  replace hnx := Nat.le_trans hnx hx1
  refine z_bipush (v := (-30)) dL_areAttempts_38 (by decide) ?_
  refine z_icmp_ne (tgt := 61) dL_areAttempts_40 (by decide) (fun q_9 => absurd ((rfl)) q_9) (fun _ => ?_)
  refine z_aload_n dL_areAttempts_43 rfl ?_
  refine z_bipush (v := 9) dL_areAttempts_44 (by decide) ?_
  refine z_iconst (v := (-1)) dL_areAttempts_46 (by decide) ?_
  refine z_iconst (v := 0) dL_areAttempts_47 (by decide) ?_
  refine z_iconst (v := 0) dL_areAttempts_48 (by decide) ?_
  refine z_callH dL_areAttempts_49 ch_L_102 (w_asks_startOf hG hnx S) rfl rfl ⟨(Nat.le_of_ble_eq_true rfl), (Nat.le_of_ble_eq_true rfl)⟩ (Nat.le_of_ble_eq_true rfl) (Nat.le_of_ble_eq_true rfl) (Nat.le_of_ble_eq_true rfl) (fun v σ1 nx1 hx1 hq1 => ?_)
  obtain ⟨rfl, S⟩ := hq1.badI (zkn_bad (Or.inl (by decide))) S
  replace hnx := Nat.le_trans hnx hx1
  refine z_bipush (v := (-30)) dL_areAttempts_52 (by decide) ?_
  refine z_icmp_ne (tgt := 61) dL_areAttempts_54 (by decide) (fun q_9 => absurd ((rfl)) q_9) (fun _ => ?_)
  refine z_iconst (v := 1) dL_areAttempts_57 (by decide) ?_
  refine z_goto (tgt := 62) dL_areAttempts_58 (by decide) ?_
  refine z_istore dL_areAttempts_62 (by decide) ?_
  refine z_iconst (v := 0) dL_areAttempts_64 (by decide) ?_
  refine z_istore dL_areAttempts_65 (by decide) ?_
  exact l0 _ _ _ _ _ _ _ (Nat.zero_add _) hnx S
end
