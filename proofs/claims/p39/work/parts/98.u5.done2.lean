/-! the law: a step's kinds, ended -/
theorem zadd2 (j : Nat) : nI j + 2 = nI (j + 2) := nI_add j 2
theorem zadd3 (j : Nat) : nI j + 3 = nI (j + 3) := nI_add j 3
section
variable {G : zG} {σ : zH} {b nx : Nat} {R : Nat → Nat → Int32} {nt : zNT} {lim mem wk r tk sp cs : Nat} {slow : Nat → Nat} {L : zNS} {A : List zAE} {s w o t h : Nat} {l15 l16 l17 : Option Value}
set_option maxRecDepth 100000 in
set_option maxHeartbeats 4000000 in
theorem l_dLim (hG : zKap G) (hnx : b + 82 ≤ nx) (S : zVs G σ b (nt, lim, mem, wk, slow, r, L, A, tk, sp, cs) R) (he : zRe (nt, lim, mem, wk, slow, r, L, A, tk, sp, cs) R) (ht : t < 7000) : zWP G kL_isDone (zFM G kL_isDone.2.2.2.1 (zSt2 G b)) 433 (zDl G b s w o t h [l15, l16, l17]) [] σ nx 0 0 := by
  obtain ⟨hr, hg0, hlim, hg2, hg3, hg4, hsm, hsp, hmz⟩ := id he
  obtain ⟨x, hx⟩ : ∃ x, x = t % 14 := ⟨_, rfl⟩
  have hxb : x < 14 := by omega
  have hrx : nI t - nI t / 14 * 14 = nI x := by rw [hx]; exact pk_rem (d := 14) (by omega) (by decide) (by decide)
  have hzk := zk10 (t := x) (by omega)
  have hzb : zk_1000 (-1) ≠ 0 := by decide
  have h14 : nt.length ≤ 14 := S.2.1.2.2.1
  refine z_aload dL_isDone_433 rfl ?_
  refine z_iconst (v := 1) dL_isDone_435 (by decide) ?_
  refine z_gr dL_isDone_436 S (i := 1) (by decide) hlim ?_
  refine z_istore dL_isDone_437 (by decide) ?_
  refine z_aload dL_isDone_439 rfl ?_
  refine z_iconst (v := 1) dL_isDone_441 (by decide) ?_
  refine z_iload dL_isDone_442 rfl ?_
  refine z_bipush (v := 14) dL_isDone_444 (by decide) ?_
  refine z_irem dL_isDone_446 (by decide) ?_
  rw [hrx]
  refine z_gs dL_isDone_447 S (i := 1) (by decide) (fun σ1 S => ?_)
  refine z_aload_n dL_isDone_448 rfl ?_
  refine z_iconst (v := 3) dL_isDone_449 (by decide) ?_
  refine z_iload dL_isDone_450 rfl ?_
  refine z_bipush (v := 14) dL_isDone_452 (by decide) ?_
  refine z_irem dL_isDone_454 (by decide) ?_
  rw [hrx]
  refine z_iconst (v := 0) dL_isDone_455 (by decide) ?_
  refine z_callH dL_isDone_456 ch_L_174 (w_sets_setLimit hG hnx S) rfl rfl ⟨(Nat.le_of_ble_eq_true rfl), (Nat.le_of_ble_eq_true rfl)⟩ (Nat.le_of_ble_eq_true rfl) (Nat.le_of_ble_eq_true rfl) (Nat.le_of_ble_eq_true rfl) (fun v σ1 nx1 hx1 hq1 => ?_)
  obtain ⟨u', z, rfl, hP, hT, hF⟩ := hq1.good rfl hzk
  replace hnx := Nat.le_trans hnx hx1
  have ok' := o_setLimit S.2.1 hzk hP hT
  obtain ⟨rfl, rfl⟩ := hP
  rw [nI_clamp (by omega)] at hT ok'
  have S' : zVs G σ1 b (nt, x, mem, wk, slow, r, [], A, tk, sp, cs) (zRu R 7 1 (nI x)) := ⟨hT, ok', S.2.2.fr hF⟩
  clear hT hF S hq1
  have S := S'
  have he' : zRe (nt, x, mem, wk, slow, r, [], A, tk, sp, cs) (zRu R 7 1 (nI x)) := zRe_g he (by decide) rfl rfl rfl rfl (Nat.zero_le _)
  obtain ⟨-, hg0', -⟩ := id he'
  have loop : ∀ (d j : Nat) (σ2 : zH) (nx2 : Nat), j + d = nt.length → b + 82 ≤ nx2 → zVs G σ2 b (nt, x, mem, wk, slow, r, [], A, tk, sp, cs) (zRu R 7 1 (nI x)) →
      zWP G kL_isDone (zFM G kL_isDone.2.2.2.1 (zSt2 G b)) 486 (zDl G b s w o t h [some (.int (nI lim)), some (.int 1), some (.int (nI j))]) [] σ2 nx2 40 3000 := by
    intro d
    induction d with
    | zero =>
      intro j σ2 nx2 hj hnx S
      refine z_iload dL_isDone_486 rfl ?_
      refine z_aload dL_isDone_488 rfl ?_
      refine z_iconst (v := 0) dL_isDone_490 (by decide) ?_
      refine z_gr dL_isDone_491 S (i := 0) (by decide) hg0' ?_
      refine z_icmp_ge (tgt := 522) dL_isDone_492 (by decide) (fun _ => ?_) (fun q_9 => absurd (((nI_le (by omega) (by omega)))) q_9)
      refine z_iload dL_isDone_522 rfl ?_
      exact z_zret dL_isDone_524 rfl rfl (Nat.le_of_ble_eq_true rfl) (Nat.le_of_ble_eq_true rfl) ⟨rfl, _, _, S, he'⟩
    | succ d ih =>
      intro j σ2 nx2 hj hnx S
      have nxt := ih (j + 1)
      refine z_iload dL_isDone_486 rfl ?_
      refine z_aload dL_isDone_488 rfl ?_
      refine z_iconst (v := 0) dL_isDone_490 (by decide) ?_
      refine z_gr dL_isDone_491 S (i := 0) (by decide) hg0' ?_
      refine z_icmp_ge (tgt := 522) dL_isDone_492 (by decide) (fun q_9 => absurd q_9 ((nI_ge (show j < nt.length by omega) (by omega)))) (fun _ => ?_)
      refine z_iload dL_isDone_495 rfl ?_
      refine z_if_eq (tgt := 522) dL_isDone_497 (by decide) (fun q_9 => absurd q_9 (((by decide)))) (fun _ => ?_)
      refine z_aload_n dL_isDone_500 rfl ?_
      refine z_iload dL_isDone_501 rfl ?_
      refine z_callV dL_isDone_503 cv0_L_88 (q_isCached hG S (by omega)) rfl S.c rfl rfl ⟨(Nat.le_of_ble_eq_true rfl), (Nat.le_of_ble_eq_true rfl)⟩ (Nat.le_of_ble_eq_true rfl) (Nat.le_of_ble_eq_true rfl) (Nat.le_of_ble_eq_true rfl) (fun v σ1 nx1 hx1 hq1 => ?_)
      obtain ⟨rfl, S, rfl⟩ := hq1
      rw [show zcd [] j = false from rfl, if_neg (by decide)]
      refine z_if_ne (tgt := 513) dL_isDone_506 (by decide) (fun q_9 => absurd ((rfl)) q_9) (fun _ => ?_)
      refine z_iconst (v := 1) dL_isDone_509 (by decide) ?_
      refine z_goto (tgt := 514) dL_isDone_510 (by decide) ?_
      refine z_istore dL_isDone_514 (by decide) ?_
      refine z_inc1 dL_isDone_516 rfl (by decide) ?_
      rw [nI_1]
      refine z_goto (tgt := 486) dL_isDone_519 (by decide) ?_
      exact nxt _ _ (by omega) hnx S
  skip
  refine z_widen (ca' := 4) (sl' := 12) (Nat.le_of_ble_eq_true rfl) (Nat.le_of_ble_eq_true rfl) ?_
  refine z_iload dL_isDone_459 rfl ?_
  refine z_icmp_ne (tgt := 480) dL_isDone_461 (by decide) (fun q_9 => absurd ((rfl)) q_9) (fun _ => ?_)
  refine z_aload_n dL_isDone_464 rfl ?_
  refine z_iconst (v := 3) dL_isDone_465 (by decide) ?_
  refine z_iconst (v := (-1)) dL_isDone_466 (by decide) ?_
  refine z_iconst (v := 0) dL_isDone_467 (by decide) ?_
  refine z_callH dL_isDone_468 ch_L_174 (w_sets_setLimit hG hnx S) rfl rfl ⟨(Nat.le_of_ble_eq_true rfl), (Nat.le_of_ble_eq_true rfl)⟩ (Nat.le_of_ble_eq_true rfl) (Nat.le_of_ble_eq_true rfl) (Nat.le_of_ble_eq_true rfl) (fun v σ1 nx1 hx1 hq1 => ?_)
  obtain ⟨rfl, S⟩ := hq1.badA hzb S
  replace hnx := Nat.le_trans hnx hx1
  refine z_bipush (v := (-20)) dL_isDone_471 (by decide) ?_
  refine z_icmp_ne (tgt := 480) dL_isDone_473 (by decide) (fun q_9 => absurd ((rfl)) q_9) (fun _ => ?_)
  refine z_iconst (v := 1) dL_isDone_476 (by decide) ?_
  refine z_goto (tgt := 481) dL_isDone_477 (by decide) ?_
  refine z_istore dL_isDone_481 (by decide) ?_
  refine z_iconst (v := 0) dL_isDone_483 (by decide) ?_
  refine z_istore dL_isDone_484 (by decide) ?_
  exact z_widen (ca' := 40) (sl' := 3000) (Nat.le_of_ble_eq_true rfl) (Nat.le_of_ble_eq_true rfl) (loop nt.length 0 _ _ (Nat.zero_add _) hnx S)
set_option maxRecDepth 100000 in
set_option maxHeartbeats 4000000 in
theorem l_dRoom (hG : zKap G) (hnx : b + 82 ≤ nx) (S : zVs G σ b (nt, lim, mem, wk, slow, r, L, A, tk, sp, cs) R) (he : zRe (nt, lim, mem, wk, slow, r, L, A, tk, sp, cs) R) (ht : t < 7000) : zWP G kL_isDone (zFM G kL_isDone.2.2.2.1 (zSt2 G b)) 532 (zDl G b s w o t h [l15, l16, l17]) [] σ nx 0 0 := by
  obtain ⟨hr, hg0, hlim, hg2, hg3, hg4, hsm, hsp, hmz⟩ := id he
  obtain ⟨x, hx⟩ : ∃ x, x = t % 60 := ⟨_, rfl⟩
  have hxb : x < 60 := by omega
  have hrx : nI t - nI t / 60 * 60 = nI x := by rw [hx]; exact pk_rem (d := 60) (by omega) (by decide) (by decide)
  have hzk := zk10 (t := x) (by omega)
  have hzb : zk_1000 1001 ≠ 0 := by decide
  have h14 : nt.length ≤ 14 := S.2.1.2.2.1
  have hLok : zLok L := S.2.1.2.2.2.2.2.2.2.2.1
  have hLn : ∀ q ∈ L, q.1 < nt.length := fun q hq => by
    obtain ⟨k, hk⟩ := List.getElem?_of_mem hq
    exact (S.2.1.2.2.2.2.2.2.2.2.2.1 k q hk).1
  have hlen := zcd_len L (zLok_iff.mp hLok).2.1 hLn
  have hlen2 := zcd_len (zmkr x 0 L) (zLok_iff.mp (zLok_mkr (r := x) (s := 0) hLok)).2.1 (fun q hq => hLn q (zmkr_mem hq))
  have hL14 : L.length ≤ 14 := hLok.2.2
  have hdrop : (zmkr x 0 L).length ≤ L.length := by
    obtain ⟨n, -, e⟩ := zmkr_drop x 0 L
    rw [e, List.length_drop]; omega
  obtain ⟨tot, htot⟩ : ∃ tot, tot = L.length := ⟨_, rfl⟩
  rw [← htot] at hlen hL14 hdrop
  have loop1 : ∀ (d j : Nat) (σ2 : zH) (nx2 : Nat), j + d = nt.length → b + 82 ≤ nx2 → zVs G σ2 b (nt, lim, mem, wk, slow, r, L, A, tk, sp, cs) R →
      (∀ (σ3 : zH) (nx3 : Nat) (l16 l17 : Option Value), b + 82 ≤ nx3 → zVs G σ3 b (nt, lim, mem, wk, slow, r, L, A, tk, sp, cs) R → zWP G kL_isDone (zFM G kL_isDone.2.2.2.1 (zSt2 G b)) 572 (zDl G b s w o t h [some (.int (nI tot)), l16, l17]) [] σ3 nx3 0 0) →
      zWP G kL_isDone (zFM G kL_isDone.2.2.2.1 (zSt2 G b)) 538 (zDl G b s w o t h [some (.int (nI (zcn (zcd L) j))), some (.int (nI j)), l17]) [] σ2 nx2 0 0 := by
    intro d
    induction d with
    | zero =>
      intro j σ2 nx2 hj hnx S kk
      have ej : j = nt.length := by omega
      rw [ej, hlen]
      refine z_iload dL_isDone_538 rfl ?_
      refine z_aload dL_isDone_540 rfl ?_
      refine z_iconst (v := 0) dL_isDone_542 (by decide) ?_
      refine z_gr dL_isDone_543 S (i := 0) (by decide) hg0 ?_
      refine z_icmp_ge (tgt := 572) dL_isDone_544 (by decide) (fun _ => ?_) (fun q_9 => absurd (((nI_le (by omega) (by omega)))) q_9)
      exact kk _ _ _ _ hnx S
    | succ d ih =>
      intro j σ2 nx2 hj hnx S kk
      have nxt := ih (j + 1)
      rw [zcn] at nxt
      by_cases c : zcd L j = true
      · rw [if_pos c] at nxt
        refine z_iload dL_isDone_538 rfl ?_
        refine z_aload dL_isDone_540 rfl ?_
        refine z_iconst (v := 0) dL_isDone_542 (by decide) ?_
        refine z_gr dL_isDone_543 S (i := 0) (by decide) hg0 ?_
        refine z_icmp_ge (tgt := 572) dL_isDone_544 (by decide) (fun q_9 => absurd q_9 ((nI_ge (show j < nt.length by omega) (by omega)))) (fun _ => ?_)
        refine z_iload dL_isDone_547 rfl ?_
        refine z_aload_n dL_isDone_549 rfl ?_
        refine z_iload dL_isDone_550 rfl ?_
        refine z_callV dL_isDone_552 cv0_L_88 (q_isCached hG S (by omega)) rfl S.c rfl rfl ⟨(Nat.le_of_ble_eq_true rfl), (Nat.le_of_ble_eq_true rfl)⟩ (Nat.le_of_ble_eq_true rfl) (Nat.le_of_ble_eq_true rfl) (Nat.le_of_ble_eq_true rfl) (fun v σ1 nx1 hx1 hq1 => ?_)
        obtain ⟨rfl, S, rfl⟩ := hq1
        rw [if_pos c]
        refine z_if_eq (tgt := 562) dL_isDone_555 (by decide) (fun q_9 => absurd q_9 (((by decide)))) (fun _ => ?_)
        refine z_iconst (v := 1) dL_isDone_558 (by decide) ?_
        refine z_goto (tgt := 563) dL_isDone_559 (by decide) ?_
        refine z_iadd dL_isDone_563 ?_
        rw [nI_1]
        refine z_istore dL_isDone_564 (by decide) ?_
        refine z_inc1 dL_isDone_566 rfl (by decide) ?_
        rw [nI_1]
        refine z_goto (tgt := 538) dL_isDone_569 (by decide) ?_
        exact nxt _ _ (by omega) hnx S kk
      · rw [if_neg c, ← nI_add] at nxt
        refine z_iload dL_isDone_538 rfl ?_
        refine z_aload dL_isDone_540 rfl ?_
        refine z_iconst (v := 0) dL_isDone_542 (by decide) ?_
        refine z_gr dL_isDone_543 S (i := 0) (by decide) hg0 ?_
        refine z_icmp_ge (tgt := 572) dL_isDone_544 (by decide) (fun q_9 => absurd q_9 ((nI_ge (show j < nt.length by omega) (by omega)))) (fun _ => ?_)
        refine z_iload dL_isDone_547 rfl ?_
        refine z_aload_n dL_isDone_549 rfl ?_
        refine z_iload dL_isDone_550 rfl ?_
        refine z_callV dL_isDone_552 cv0_L_88 (q_isCached hG S (by omega)) rfl S.c rfl rfl ⟨(Nat.le_of_ble_eq_true rfl), (Nat.le_of_ble_eq_true rfl)⟩ (Nat.le_of_ble_eq_true rfl) (Nat.le_of_ble_eq_true rfl) (Nat.le_of_ble_eq_true rfl) (fun v σ1 nx1 hx1 hq1 => ?_)
        obtain ⟨rfl, S, rfl⟩ := hq1
        rw [if_neg c]
        refine z_if_eq (tgt := 562) dL_isDone_555 (by decide) (fun _ => ?_) (fun q_9 => absurd ((rfl)) q_9)
        refine z_iconst (v := 0) dL_isDone_562 (by decide) ?_
        refine z_iadd dL_isDone_563 ?_
        refine z_istore dL_isDone_564 (by decide) ?_
        refine z_inc1 dL_isDone_566 rfl (by decide) ?_
        rw [nI_1]
        refine z_goto (tgt := 538) dL_isDone_569 (by decide) ?_
        exact nxt _ _ (by omega) hnx S kk
  refine z_iconst (v := 0) dL_isDone_532 (by decide) ?_
  refine z_istore dL_isDone_533 (by decide) ?_
  refine z_iconst (v := 0) dL_isDone_535 (by decide) ?_
  refine z_istore dL_isDone_536 (by decide) ?_
  refine loop1 nt.length 0 _ _ (Nat.zero_add _) hnx S ?_
  clear loop1 S hnx
  intro σ nx l16 l17 hnx S
  refine z_aload dL_isDone_572 rfl ?_
  refine z_iconst (v := 4) dL_isDone_574 (by decide) ?_
  refine z_iload dL_isDone_575 rfl ?_
  refine z_bipush (v := 60) dL_isDone_577 (by decide) ?_
  refine z_irem dL_isDone_579 (by decide) ?_
  rw [hrx]
  refine z_gs dL_isDone_580 S (i := 4) (by decide) (fun σ1 S => ?_)
  refine z_aload_n dL_isDone_581 rfl ?_
  refine z_iconst (v := 4) dL_isDone_582 (by decide) ?_
  refine z_iload dL_isDone_583 rfl ?_
  refine z_bipush (v := 60) dL_isDone_585 (by decide) ?_
  refine z_irem dL_isDone_587 (by decide) ?_
  rw [hrx]
  refine z_iconst (v := 0) dL_isDone_588 (by decide) ?_
  refine z_callH dL_isDone_589 ch_L_174 (w_sets_setRoom hG hnx S) rfl rfl ⟨(Nat.le_of_ble_eq_true rfl), (Nat.le_of_ble_eq_true rfl)⟩ (Nat.le_of_ble_eq_true rfl) (Nat.le_of_ble_eq_true rfl) (Nat.le_of_ble_eq_true rfl) (fun v σ1 nx1 hx1 hq1 => ?_)
  obtain ⟨u', z, rfl, hP, hT, hF⟩ := hq1.good rfl hzk
  replace hnx := Nat.le_trans hnx hx1
  have ok' := o_setRoom S.2.1 hzk hP hT
  obtain ⟨rfl, rfl⟩ := hP
  rw [nI_clamp (by omega)] at hT ok'
  have S' : zVs G σ1 b (nt, lim, mem, wk, slow, x, zmkr x 0 L, A, tk, sp, cs) (zRu R 7 4 (nI x)) := ⟨hT, ok', S.2.2.fr hF⟩
  rw [nI_clamp (by omega), ← htot]
  clear hT hF S hq1
  have S := S'
  have he' : zRe (nt, lim, mem, wk, slow, x, zmkr x 0 L, A, tk, sp, cs) (zRu R 7 4 (nI x)) := zRe_g he (by decide) rfl rfl rfl rfl (zmkr_sm0 x L)
  obtain ⟨-, hg0', -⟩ := id he'
  have hmon : ∀ j, j ≤ nt.length → zcn (zcd (zmkr x 0 L)) j ≤ tot := fun j hj => Nat.le_trans (zcn_mono _ hj) (by omega)
  have loop2 : ∀ (d j : Nat) (σ2 : zH) (nx2 : Nat), j + d = nt.length → b + 82 ≤ nx2 → zVs G σ2 b (nt, lim, mem, wk, slow, x, zmkr x 0 L, A, tk, sp, cs) (zRu R 7 4 (nI x)) →
      zWP G kL_isDone (zFM G kL_isDone.2.2.2.1 (zSt2 G b)) 597 (zDl G b s w o t h [some (.int (nI (tot - zcn (zcd (zmkr x 0 L)) j))), some (.int (nI (tot - (zmkr x 0 L).length))), some (.int (nI j))]) [] σ2 nx2 4 12 := by
    intro d
    induction d with
    | zero =>
      intro j σ2 nx2 hj hnx S
      have ej : j = nt.length := by omega
      rw [ej, hlen2]
      refine z_iload dL_isDone_597 rfl ?_
      refine z_aload dL_isDone_599 rfl ?_
      refine z_iconst (v := 0) dL_isDone_601 (by decide) ?_
      refine z_gr dL_isDone_602 S (i := 0) (by decide) hg0' ?_
      refine z_icmp_ge (tgt := 631) dL_isDone_603 (by decide) (fun _ => ?_) (fun q_9 => absurd (((nI_le (by omega) (by omega)))) q_9)
      refine z_iload dL_isDone_631 rfl ?_
      refine z_iload dL_isDone_633 rfl ?_
      refine z_icmp_ne (tgt := 656) dL_isDone_635 (by decide) (fun q_9 => absurd ((rfl)) q_9) (fun _ => ?_)
      refine z_aload_n dL_isDone_638 rfl ?_
      refine z_iconst (v := 4) dL_isDone_639 (by decide) ?_
      refine z_sipush (v := 1001) dL_isDone_640 (by decide) ?_
      refine z_iconst (v := 0) dL_isDone_643 (by decide) ?_
      refine z_callH dL_isDone_644 ch_L_174 (w_sets_setRoom hG hnx S) rfl rfl ⟨(Nat.le_of_ble_eq_true rfl), (Nat.le_of_ble_eq_true rfl)⟩ (Nat.le_of_ble_eq_true rfl) (Nat.le_of_ble_eq_true rfl) (Nat.le_of_ble_eq_true rfl) (fun v σ1 nx1 hx1 hq1 => ?_)
      obtain ⟨rfl, S⟩ := hq1.badA hzb S
      replace hnx := Nat.le_trans hnx hx1
      refine z_bipush (v := (-20)) dL_isDone_647 (by decide) ?_
      refine z_icmp_ne (tgt := 656) dL_isDone_649 (by decide) (fun q_9 => absurd ((rfl)) q_9) (fun _ => ?_)
      refine z_iconst (v := 1) dL_isDone_652 (by decide) ?_
      refine z_goto (tgt := 657) dL_isDone_653 (by decide) ?_
      exact z_zret dL_isDone_657 rfl rfl (Nat.le_of_ble_eq_true rfl) (Nat.le_of_ble_eq_true rfl) ⟨rfl, _, _, S, he'⟩
    | succ d ih =>
      intro j σ2 nx2 hj hnx S
      have nxt := ih (j + 1)
      have hm := hmon (j + 1) (by omega)
      rw [zcn] at nxt hm
      by_cases c : zcd (zmkr x 0 L) j = true
      · rw [if_pos c] at nxt hm
        have e1 : nI (tot - zcn (zcd (zmkr x 0 L)) j) - 1 = nI (tot - (zcn (zcd (zmkr x 0 L)) j + 1)) := by
          rw [Nat.sub_add_eq]
          exact pk_sub (b := 1) (by omega)
        refine z_iload dL_isDone_597 rfl ?_
        refine z_aload dL_isDone_599 rfl ?_
        refine z_iconst (v := 0) dL_isDone_601 (by decide) ?_
        refine z_gr dL_isDone_602 S (i := 0) (by decide) hg0' ?_
        refine z_icmp_ge (tgt := 631) dL_isDone_603 (by decide) (fun q_9 => absurd q_9 ((nI_ge (show j < nt.length by omega) (by omega)))) (fun _ => ?_)
        refine z_iload dL_isDone_606 rfl ?_
        refine z_aload_n dL_isDone_608 rfl ?_
        refine z_iload dL_isDone_609 rfl ?_
        refine z_callV dL_isDone_611 cv0_L_88 (q_isCached hG S (by omega)) rfl S.c rfl rfl ⟨(Nat.le_of_ble_eq_true rfl), (Nat.le_of_ble_eq_true rfl)⟩ (Nat.le_of_ble_eq_true rfl) (Nat.le_of_ble_eq_true rfl) (Nat.le_of_ble_eq_true rfl) (fun v σ1 nx1 hx1 hq1 => ?_)
        obtain ⟨rfl, S, rfl⟩ := hq1
        rw [if_pos c]
        refine z_if_eq (tgt := 621) dL_isDone_614 (by decide) (fun q_9 => absurd q_9 (((by decide)))) (fun _ => ?_)
        refine z_iconst (v := 1) dL_isDone_617 (by decide) ?_
        refine z_goto (tgt := 622) dL_isDone_618 (by decide) ?_
        refine z_isub dL_isDone_622 ?_
        rw [e1]
        refine z_istore dL_isDone_623 (by decide) ?_
        refine z_inc1 dL_isDone_625 rfl (by decide) ?_
        rw [nI_1]
        refine z_goto (tgt := 597) dL_isDone_628 (by decide) ?_
        exact nxt _ _ (by omega) hnx S
      · rw [if_neg c, Nat.add_zero] at nxt
        have e1 : nI (tot - zcn (zcd (zmkr x 0 L)) j) - 0 = nI (tot - zcn (zcd (zmkr x 0 L)) j) := pk_sub (b := 0) (Nat.zero_le _)
        refine z_iload dL_isDone_597 rfl ?_
        refine z_aload dL_isDone_599 rfl ?_
        refine z_iconst (v := 0) dL_isDone_601 (by decide) ?_
        refine z_gr dL_isDone_602 S (i := 0) (by decide) hg0' ?_
        refine z_icmp_ge (tgt := 631) dL_isDone_603 (by decide) (fun q_9 => absurd q_9 ((nI_ge (show j < nt.length by omega) (by omega)))) (fun _ => ?_)
        refine z_iload dL_isDone_606 rfl ?_
        refine z_aload_n dL_isDone_608 rfl ?_
        refine z_iload dL_isDone_609 rfl ?_
        refine z_callV dL_isDone_611 cv0_L_88 (q_isCached hG S (by omega)) rfl S.c rfl rfl ⟨(Nat.le_of_ble_eq_true rfl), (Nat.le_of_ble_eq_true rfl)⟩ (Nat.le_of_ble_eq_true rfl) (Nat.le_of_ble_eq_true rfl) (Nat.le_of_ble_eq_true rfl) (fun v σ1 nx1 hx1 hq1 => ?_)
        obtain ⟨rfl, S, rfl⟩ := hq1
        rw [if_neg c]
        refine z_if_eq (tgt := 621) dL_isDone_614 (by decide) (fun _ => ?_) (fun q_9 => absurd ((rfl)) q_9)
        refine z_iconst (v := 0) dL_isDone_621 (by decide) ?_
        refine z_isub dL_isDone_622 ?_
        rw [e1]
        refine z_istore dL_isDone_623 (by decide) ?_
        refine z_inc1 dL_isDone_625 rfl (by decide) ?_
        rw [nI_1]
        refine z_goto (tgt := 597) dL_isDone_628 (by decide) ?_
        exact nxt _ _ (by omega) hnx S
  refine z_widen (ca' := 4) (sl' := 12) (Nat.le_of_ble_eq_true rfl) (Nat.le_of_ble_eq_true rfl) ?_
  refine z_istore dL_isDone_592 (by decide) ?_
  refine z_iconst (v := 0) dL_isDone_594 (by decide) ?_
  refine z_istore dL_isDone_595 (by decide) ?_
  exact loop2 nt.length 0 _ _ (Nat.zero_add _) hnx S
set_option maxRecDepth 100000 in
set_option maxHeartbeats 8000000 in
theorem l_isDone {k : Nat} (hX : G.2.2 9 ≤ 260) (hG : zKap G) (hnx : b + 82 ≤ nx) (S : zVs G σ b (nt, lim, mem, wk, slow, r, L, A, tk, sp, cs) R) (he : zRe (nt, lim, mem, wk, slow, r, L, A, tk, sp, cs) R) (hk : k ≤ 900) : zM G yL_isDone kL_isDone [.ref b, .ref (G.2.2 8), .int (nI k), .ref (b + 74 + 0), .ref (b + 74 + 1), .ref (b + 74 + 2), .ref (b + 74 + 3), .ref (b + 74 + 4), .ref (b + 74 + 5), .ref (b + 74 + 6), .ref (b + 81)] σ nx (zSt2 G b) := by
  refine zM.of (ls := [some (.ref b), some (.ref (G.2.2 8)), some (.int (nI k)), some (.ref (b + 74 + 0)), some (.ref (b + 74 + 1)), some (.ref (b + 74 + 2)), some (.ref (b + 74 + 3)), some (.ref (b + 74 + 4)), some (.ref (b + 74 + 5)), some (.ref (b + 74 + 6)), some (.ref (b + 81)), none, none, none, none, none, none, none]) (by decide +kernel) ⟨rfl, rfl, rfl⟩ (Nat.le_of_ble_eq_true rfl) (fun _ h => h) ?_
  have h14 : nt.length ≤ 14 := S.2.1.2.2.1
  obtain ⟨-, hg0, -⟩ := id he
  refine z_aload_n dL_isDone_0 rfl ?_
  refine z_iload_n dL_isDone_1 rfl ?_
  refine z_bipush (v := 26) dL_isDone_2 (by decide) ?_
  refine z_callS dL_isDone_4 cv_L_181 (l_part (n := 26) hX (by omega) (by decide) (by decide)) rfl rfl ⟨(Nat.le_of_ble_eq_true rfl), (Nat.le_of_ble_eq_true rfl)⟩ (Nat.le_of_ble_eq_true rfl) (Nat.le_of_ble_eq_true rfl) (Nat.le_of_ble_eq_true rfl) (fun v σ1 nx1 hx1 hq1 => ?_)
  obtain ⟨⟨w, hw, rfl⟩, rfl, rfl⟩ := hq1
  refine z_istore dL_isDone_7 (by decide) ?_
  refine z_aload_n dL_isDone_9 rfl ?_
  refine z_iload_n dL_isDone_10 rfl ?_
  refine z_iconst (v := 1) dL_isDone_11 (by decide) ?_
  refine z_iadd dL_isDone_12 ?_
  rw [nI_1]
  refine z_sipush (v := 6000) dL_isDone_13 (by decide) ?_
  refine z_callS dL_isDone_16 cv_L_181 (l_part (n := 6000) hX (by omega) (by decide) (by decide)) rfl rfl ⟨(Nat.le_of_ble_eq_true rfl), (Nat.le_of_ble_eq_true rfl)⟩ (Nat.le_of_ble_eq_true rfl) (Nat.le_of_ble_eq_true rfl) (Nat.le_of_ble_eq_true rfl) (fun v σ1 nx1 hx1 hq1 => ?_)
  obtain ⟨⟨o, ho, rfl⟩, rfl, rfl⟩ := hq1
  refine z_istore dL_isDone_19 (by decide) ?_
  refine z_aload_n dL_isDone_21 rfl ?_
  refine z_iload_n dL_isDone_22 rfl ?_
  refine z_iconst (v := 2) dL_isDone_23 (by decide) ?_
  refine z_iadd dL_isDone_24 ?_
  rw [zadd2]
  refine z_sipush (v := 7000) dL_isDone_25 (by decide) ?_
  refine z_callS dL_isDone_28 cv_L_181 (l_part (n := 7000) hX (by omega) (by decide) (by decide)) rfl rfl ⟨(Nat.le_of_ble_eq_true rfl), (Nat.le_of_ble_eq_true rfl)⟩ (Nat.le_of_ble_eq_true rfl) (Nat.le_of_ble_eq_true rfl) (Nat.le_of_ble_eq_true rfl) (fun v σ1 nx1 hx1 hq1 => ?_)
  obtain ⟨⟨t, ht, rfl⟩, rfl, rfl⟩ := hq1
  refine z_istore dL_isDone_31 (by decide) ?_
  refine z_aload_n dL_isDone_33 rfl ?_
  refine z_iload_n dL_isDone_34 rfl ?_
  refine z_iconst (v := 3) dL_isDone_35 (by decide) ?_
  refine z_iadd dL_isDone_36 ?_
  rw [zadd3]
  refine z_sipush (v := 8000) dL_isDone_37 (by decide) ?_
  refine z_callS dL_isDone_40 cv_L_181 (l_part (n := 8000) hX (by omega) (by decide) (by decide)) rfl rfl ⟨(Nat.le_of_ble_eq_true rfl), (Nat.le_of_ble_eq_true rfl)⟩ (Nat.le_of_ble_eq_true rfl) (Nat.le_of_ble_eq_true rfl) (Nat.le_of_ble_eq_true rfl) (fun v σ1 nx1 hx1 hq1 => ?_)
  obtain ⟨⟨h, hh, rfl⟩, rfl, rfl⟩ := hq1
  refine z_istore dL_isDone_43 (by decide) ?_
  refine z_iload dL_isDone_45 rfl ?_
  refine z_bipush (v := 7) dL_isDone_47 (by decide) ?_
  by_cases c7 : w < 7
  · refine z_icmp_lt (tgt := 59) dL_isDone_49 (by decide) (fun _ => ?_) (fun q_9 => absurd (((nI_lt (a := w) (b := 7) c7 (by decide)))) q_9)
    exact l_dMade hG hnx S he ho ht hh
  by_cases c0 : nt.length = 0
  · refine z_icmp_lt (tgt := 59) dL_isDone_49 (by decide) (fun q_9 => absurd q_9 (((nI_nlt (a := w) (b := 7) (by omega) (by omega))))) (fun _ => ?_)
    refine z_aload dL_isDone_52 rfl ?_
    refine z_iconst (v := 0) dL_isDone_54 (by decide) ?_
    refine z_gr dL_isDone_55 S (i := 0) (by decide) hg0 ?_
    refine z_if_ne (tgt := 98) dL_isDone_56 (by decide) (fun q_9 => absurd (((by rw [c0]; rfl))) q_9) (fun _ => ?_)
    exact l_dMade hG hnx S he ho ht hh
  refine z_icmp_lt (tgt := 59) dL_isDone_49 (by decide) (fun q_9 => absurd q_9 (((nI_nlt (a := w) (b := 7) (by omega) (by omega))))) (fun _ => ?_)
  refine z_aload dL_isDone_52 rfl ?_
  refine z_iconst (v := 0) dL_isDone_54 (by decide) ?_
  refine z_gr dL_isDone_55 S (i := 0) (by decide) hg0 ?_
  refine z_if_ne (tgt := 98) dL_isDone_56 (by decide) (fun _ => ?_) (fun q_9 => absurd q_9 (((fun y => c0 ((nI_eq (b := 0) (by omega) (by decide)).mp y)))))
  have ne : ∀ j, j < 2 ^ 31 → w ≠ j → ¬ nI w = nI j := fun j hj hw2 y => hw2 ((nI_eq (by omega) hj).mp y)
  by_cases c14 : w < 14
  · refine z_iload dL_isDone_98 rfl ?_
    refine z_bipush (v := 14) dL_isDone_100 (by decide) ?_
    refine z_icmp_ge (tgt := 119) dL_isDone_102 (by decide) (fun q_9 => absurd q_9 (((nI_ge (a := w) (b := 14) c14 (by decide))))) (fun _ => ?_)
    exact l_dPut hG hnx S he ho
  by_cases c19 : w < 19
  · refine z_iload dL_isDone_98 rfl ?_
    refine z_bipush (v := 14) dL_isDone_100 (by decide) ?_
    refine z_icmp_ge (tgt := 119) dL_isDone_102 (by decide) (fun _ => ?_) (fun q_9 => absurd (((nI_le (a := 14) (b := w) (by omega) (by omega)))) q_9)
    refine z_iload dL_isDone_119 rfl ?_
    refine z_bipush (v := 19) dL_isDone_121 (by decide) ?_
    refine z_icmp_ge (tgt := 165) dL_isDone_123 (by decide) (fun q_9 => absurd q_9 (((nI_ge (a := w) (b := 19) c19 (by decide))))) (fun _ => ?_)
    exact l_dRun hG hnx S he ho (by omega)
  by_cases d19 : w = 19
  · refine z_iload dL_isDone_98 rfl ?_
    refine z_bipush (v := 14) dL_isDone_100 (by decide) ?_
    refine z_icmp_ge (tgt := 119) dL_isDone_102 (by decide) (fun _ => ?_) (fun q_9 => absurd (((nI_le (a := 14) (b := w) (by omega) (by omega)))) q_9)
    refine z_iload dL_isDone_119 rfl ?_
    refine z_bipush (v := 19) dL_isDone_121 (by decide) ?_
    refine z_icmp_ge (tgt := 165) dL_isDone_123 (by decide) (fun _ => ?_) (fun q_9 => absurd (((nI_le (a := 19) (b := w) (by omega) (by omega)))) q_9)
    refine z_iload dL_isDone_165 rfl ?_
    refine z_bipush (v := 19) dL_isDone_167 (by decide) ?_
    refine z_icmp_ne (tgt := 260) dL_isDone_169 (by decide) (fun q_9 => absurd (((by rw [d19]; rfl))) q_9) (fun _ => ?_)
    exact l_dWork hG hnx S he ho
  by_cases d20 : w = 20
  · refine z_iload dL_isDone_98 rfl ?_
    refine z_bipush (v := 14) dL_isDone_100 (by decide) ?_
    refine z_icmp_ge (tgt := 119) dL_isDone_102 (by decide) (fun _ => ?_) (fun q_9 => absurd (((nI_le (a := 14) (b := w) (by omega) (by omega)))) q_9)
    refine z_iload dL_isDone_119 rfl ?_
    refine z_bipush (v := 19) dL_isDone_121 (by decide) ?_
    refine z_icmp_ge (tgt := 165) dL_isDone_123 (by decide) (fun _ => ?_) (fun q_9 => absurd (((nI_le (a := 19) (b := w) (by omega) (by omega)))) q_9)
    refine z_iload dL_isDone_165 rfl ?_
    refine z_bipush (v := 19) dL_isDone_167 (by decide) ?_
    refine z_icmp_ne (tgt := 260) dL_isDone_169 (by decide) (fun _ => ?_) (fun q_9 => absurd q_9 (((ne 19 (by decide) (by omega)))))
    refine z_iload dL_isDone_260 rfl ?_
    refine z_bipush (v := 20) dL_isDone_262 (by decide) ?_
    refine z_icmp_ne (tgt := 368) dL_isDone_264 (by decide) (fun q_9 => absurd (((by rw [d20]; rfl))) q_9) (fun _ => ?_)
    exact l_dSlow hG hnx S he ho ht
  by_cases d21 : w = 21
  · refine z_iload dL_isDone_98 rfl ?_
    refine z_bipush (v := 14) dL_isDone_100 (by decide) ?_
    refine z_icmp_ge (tgt := 119) dL_isDone_102 (by decide) (fun _ => ?_) (fun q_9 => absurd (((nI_le (a := 14) (b := w) (by omega) (by omega)))) q_9)
    refine z_iload dL_isDone_119 rfl ?_
    refine z_bipush (v := 19) dL_isDone_121 (by decide) ?_
    refine z_icmp_ge (tgt := 165) dL_isDone_123 (by decide) (fun _ => ?_) (fun q_9 => absurd (((nI_le (a := 19) (b := w) (by omega) (by omega)))) q_9)
    refine z_iload dL_isDone_165 rfl ?_
    refine z_bipush (v := 19) dL_isDone_167 (by decide) ?_
    refine z_icmp_ne (tgt := 260) dL_isDone_169 (by decide) (fun _ => ?_) (fun q_9 => absurd q_9 (((ne 19 (by decide) (by omega)))))
    refine z_iload dL_isDone_260 rfl ?_
    refine z_bipush (v := 20) dL_isDone_262 (by decide) ?_
    refine z_icmp_ne (tgt := 368) dL_isDone_264 (by decide) (fun _ => ?_) (fun q_9 => absurd q_9 (((ne 20 (by decide) (by omega)))))
    refine z_iload dL_isDone_368 rfl ?_
    refine z_bipush (v := 21) dL_isDone_370 (by decide) ?_
    refine z_icmp_ne (tgt := 426) dL_isDone_372 (by decide) (fun q_9 => absurd (((by rw [d21]; rfl))) q_9) (fun _ => ?_)
    exact l_dMem hG hnx S he ht
  by_cases d22 : w = 22
  · refine z_iload dL_isDone_98 rfl ?_
    refine z_bipush (v := 14) dL_isDone_100 (by decide) ?_
    refine z_icmp_ge (tgt := 119) dL_isDone_102 (by decide) (fun _ => ?_) (fun q_9 => absurd (((nI_le (a := 14) (b := w) (by omega) (by omega)))) q_9)
    refine z_iload dL_isDone_119 rfl ?_
    refine z_bipush (v := 19) dL_isDone_121 (by decide) ?_
    refine z_icmp_ge (tgt := 165) dL_isDone_123 (by decide) (fun _ => ?_) (fun q_9 => absurd (((nI_le (a := 19) (b := w) (by omega) (by omega)))) q_9)
    refine z_iload dL_isDone_165 rfl ?_
    refine z_bipush (v := 19) dL_isDone_167 (by decide) ?_
    refine z_icmp_ne (tgt := 260) dL_isDone_169 (by decide) (fun _ => ?_) (fun q_9 => absurd q_9 (((ne 19 (by decide) (by omega)))))
    refine z_iload dL_isDone_260 rfl ?_
    refine z_bipush (v := 20) dL_isDone_262 (by decide) ?_
    refine z_icmp_ne (tgt := 368) dL_isDone_264 (by decide) (fun _ => ?_) (fun q_9 => absurd q_9 (((ne 20 (by decide) (by omega)))))
    refine z_iload dL_isDone_368 rfl ?_
    refine z_bipush (v := 21) dL_isDone_370 (by decide) ?_
    refine z_icmp_ne (tgt := 426) dL_isDone_372 (by decide) (fun _ => ?_) (fun q_9 => absurd q_9 (((ne 21 (by decide) (by omega)))))
    refine z_iload dL_isDone_426 rfl ?_
    refine z_bipush (v := 22) dL_isDone_428 (by decide) ?_
    refine z_icmp_ne (tgt := 525) dL_isDone_430 (by decide) (fun q_9 => absurd (((by rw [d22]; rfl))) q_9) (fun _ => ?_)
    exact l_dLim hG hnx S he ht
  by_cases d23 : w = 23
  · refine z_iload dL_isDone_98 rfl ?_
    refine z_bipush (v := 14) dL_isDone_100 (by decide) ?_
    refine z_icmp_ge (tgt := 119) dL_isDone_102 (by decide) (fun _ => ?_) (fun q_9 => absurd (((nI_le (a := 14) (b := w) (by omega) (by omega)))) q_9)
    refine z_iload dL_isDone_119 rfl ?_
    refine z_bipush (v := 19) dL_isDone_121 (by decide) ?_
    refine z_icmp_ge (tgt := 165) dL_isDone_123 (by decide) (fun _ => ?_) (fun q_9 => absurd (((nI_le (a := 19) (b := w) (by omega) (by omega)))) q_9)
    refine z_iload dL_isDone_165 rfl ?_
    refine z_bipush (v := 19) dL_isDone_167 (by decide) ?_
    refine z_icmp_ne (tgt := 260) dL_isDone_169 (by decide) (fun _ => ?_) (fun q_9 => absurd q_9 (((ne 19 (by decide) (by omega)))))
    refine z_iload dL_isDone_260 rfl ?_
    refine z_bipush (v := 20) dL_isDone_262 (by decide) ?_
    refine z_icmp_ne (tgt := 368) dL_isDone_264 (by decide) (fun _ => ?_) (fun q_9 => absurd q_9 (((ne 20 (by decide) (by omega)))))
    refine z_iload dL_isDone_368 rfl ?_
    refine z_bipush (v := 21) dL_isDone_370 (by decide) ?_
    refine z_icmp_ne (tgt := 426) dL_isDone_372 (by decide) (fun _ => ?_) (fun q_9 => absurd q_9 (((ne 21 (by decide) (by omega)))))
    refine z_iload dL_isDone_426 rfl ?_
    refine z_bipush (v := 22) dL_isDone_428 (by decide) ?_
    refine z_icmp_ne (tgt := 525) dL_isDone_430 (by decide) (fun _ => ?_) (fun q_9 => absurd q_9 (((ne 22 (by decide) (by omega)))))
    refine z_iload dL_isDone_525 rfl ?_
    refine z_bipush (v := 23) dL_isDone_527 (by decide) ?_
    refine z_icmp_ne (tgt := 658) dL_isDone_529 (by decide) (fun q_9 => absurd (((by rw [d23]; rfl))) q_9) (fun _ => ?_)
    exact l_dRoom hG hnx S he ht
  refine z_iload dL_isDone_98 rfl ?_
  refine z_bipush (v := 14) dL_isDone_100 (by decide) ?_
  refine z_icmp_ge (tgt := 119) dL_isDone_102 (by decide) (fun _ => ?_) (fun q_9 => absurd (((nI_le (a := 14) (b := w) (by omega) (by omega)))) q_9)
  refine z_iload dL_isDone_119 rfl ?_
  refine z_bipush (v := 19) dL_isDone_121 (by decide) ?_
  refine z_icmp_ge (tgt := 165) dL_isDone_123 (by decide) (fun _ => ?_) (fun q_9 => absurd (((nI_le (a := 19) (b := w) (by omega) (by omega)))) q_9)
  refine z_iload dL_isDone_165 rfl ?_
  refine z_bipush (v := 19) dL_isDone_167 (by decide) ?_
  refine z_icmp_ne (tgt := 260) dL_isDone_169 (by decide) (fun _ => ?_) (fun q_9 => absurd q_9 (((ne 19 (by decide) (by omega)))))
  refine z_iload dL_isDone_260 rfl ?_
  refine z_bipush (v := 20) dL_isDone_262 (by decide) ?_
  refine z_icmp_ne (tgt := 368) dL_isDone_264 (by decide) (fun _ => ?_) (fun q_9 => absurd q_9 (((ne 20 (by decide) (by omega)))))
  refine z_iload dL_isDone_368 rfl ?_
  refine z_bipush (v := 21) dL_isDone_370 (by decide) ?_
  refine z_icmp_ne (tgt := 426) dL_isDone_372 (by decide) (fun _ => ?_) (fun q_9 => absurd q_9 (((ne 21 (by decide) (by omega)))))
  refine z_iload dL_isDone_426 rfl ?_
  refine z_bipush (v := 22) dL_isDone_428 (by decide) ?_
  refine z_icmp_ne (tgt := 525) dL_isDone_430 (by decide) (fun _ => ?_) (fun q_9 => absurd q_9 (((ne 22 (by decide) (by omega)))))
  refine z_iload dL_isDone_525 rfl ?_
  refine z_bipush (v := 23) dL_isDone_527 (by decide) ?_
  refine z_icmp_ne (tgt := 658) dL_isDone_529 (by decide) (fun _ => ?_) (fun q_9 => absurd q_9 (((ne 23 (by decide) (by omega)))))
  exact l_dMark hG hnx S he ho ht (by omega)
end
