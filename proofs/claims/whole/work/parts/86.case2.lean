/-! the law: its cases, 2 -/
section
variable {G : zG} {a b L i nx : Nat} {xs : Nat → Int32} {σ : zH} {x5 x6 x7 x8 : Option Value}
set_option maxRecDepth 100000 in
set_option maxHeartbeats 1000000 in
theorem law_4 (hG : zKap G) (hL : L ≤ 2048) (hi : 4 * i + 4 ≤ L) (hI : zLI G σ nx b i) (kk : zKont G a b L xs i) : zWP G kL_law (zSc a L xs (zLF a)) 492 (zLls a b i x5 x6 x7 x8) [] σ nx (400 + 28 * i) (60000 + 2800 * i) := by
  obtain ⟨⟨nt, lim, mem, wk, slow, r, L1, A, tk, sp, cs⟩, un, S, f, hT, hmd, hM, ok, hun, ho, hnx⟩ := hI
  refine z_aload_n dL_law_492 rfl ?_
  refine z_aload_n dL_law_493 rfl ?_
  refine z_iload dL_law_494 rfl ?_
  refine z_iconst (v := 1) dL_law_496 (by decide) ?_
  refine z_iadd dL_law_497 ?_
  rw [zadd1]
  refine z_sldn (by omega) hL dL_law_498 ?_
  refine z_aload_n dL_law_499 rfl ?_
  refine z_iload dL_law_500 rfl ?_
  refine z_iconst (v := 2) dL_law_502 (by decide) ?_
  refine z_iadd dL_law_503 ?_
  rw [zadd2]
  refine z_sldn (by omega) hL dL_law_504 ?_
  refine z_aload_n dL_law_505 rfl ?_
  refine z_callH dL_law_506 ch_L_137 (w_union (b := b) (hi := b + 109) (o := b + 108) hG hnx ok hT ho (by omega) (by omega)) rfl rfl ⟨(Nat.le_of_ble_eq_true rfl), (Nat.le_of_ble_eq_true rfl)⟩ (by show 400 + 28 * i + 26 ≤ 601024; omega) (by show 60000 + 2800 * i + 2790 ≤ 7293034; omega) (Nat.le_of_ble_eq_true rfl) (fun v s1 n1 hx1 hq1 => ?_)
  have hmd1 := hq1.md hmd
  obtain ⟨rfl, q1, q2, -⟩ := hq1
  have hm := m_union (G := G) (b := b) (m := b + 74) (x := (xs (4 * i + 1))) (y := (xs (4 * i + 2))) (S := S) (un := un) (by omega) ok hM
  have hok := fun (σ9 : zH) (u9 : zUv) (w9 : Int32) => o_union (G := G) (σ := σ9) (b := b) (hi := b + 109) (u' := u9) (w := w9) (x := (xs (4 * i + 1))) (y := (xs (4 * i + 2))) ok
  have hcl : (zk_union nt (xs (4 * i + 1)) (xs (4 * i + 2))) < 2 ^ 31 := by unfold zk_union; repeat (first | split | decide)
  generalize (zk_union nt (xs (4 * i + 1)) (xs (4 * i + 2))) = c at q1 q2 hm hok hcl ⊢
  generalize hP : (zPn nt lim mem wk slow r L1 A tk sp cs 3 (upd (zD0 (xs (4 * i + 1)) (xs (4 * i + 2)) ((nt.getD (xs (4 * i + 1)).toNatClampNeg zdf).2.2.1 3 + (nt.getD (xs (4 * i + 2)).toNatClampNeg zdf).2.2.1 3) ((nt.getD (xs (4 * i + 1)).toNatClampNeg zdf).2.2.1 4 + (nt.getD (xs (4 * i + 2)).toNatClampNeg zdf).2.2.1 4)) 12 (zLW nt b (xs (4 * i + 1)) (xs (4 * i + 2))))) = P at q1 hm hok
  clear hP
  refine z_istore dL_law_509 (by decide) ?_
  refine z_aload_n dL_law_511 rfl ?_
  refine z_aload_n dL_law_512 rfl ?_
  refine z_iload dL_law_513 rfl ?_
  refine z_iconst (v := 1) dL_law_515 (by decide) ?_
  refine z_iadd dL_law_516 ?_
  rw [zadd1]
  refine z_sldn (by omega) hL dL_law_517 ?_
  refine z_aload_n dL_law_518 rfl ?_
  refine z_iload dL_law_519 rfl ?_
  refine z_iconst (v := 2) dL_law_521 (by decide) ?_
  refine z_iadd dL_law_522 ?_
  rw [zadd2]
  refine z_sldn (by omega) hL dL_law_523 ?_
  refine z_callV dL_law_524 cv_L_140 (hm s1 n1 hmd1) rfl hmd1.1 rfl rfl ⟨(Nat.le_of_ble_eq_true rfl), (Nat.le_of_ble_eq_true rfl)⟩ (by show 400 + 28 * i + 26 + 0 ≤ 601024; omega) (by show 60000 + 2800 * i + 2790 + 0 ≤ 7293034; omega) (Nat.le_of_ble_eq_true rfl) (fun v s2 n2 hx2 hq2 => ?_)
  obtain ⟨rfl, f2, S2, hmd2, ⟨w2, rfl⟩, ht, hb1, hb2⟩ := hq2
  refine z_istore dL_law_527 (by decide) ?_
  refine z_aload_n dL_law_529 rfl ?_
  refine z_callV dL_law_530 cv_L_123 (c_thrown s2 _ hmd2) rfl hmd2.1 rfl rfl ⟨(Nat.le_of_ble_eq_true rfl), (Nat.le_of_ble_eq_true rfl)⟩ (by show 400 + 28 * i + 26 + 0 + 0 ≤ 601024; omega) (by show 60000 + 2800 * i + 2790 + 0 + 0 ≤ 7293034; omega) (Nat.le_of_ble_eq_true rfl) (fun v s3 n3 hx3 hq3 => ?_)
  obtain ⟨rfl, f3, S3, hmd3, rfl, rfl⟩ := hq3
  have fr : zFr s1 s3 (b + 74) 34 := fun x q => (f3 x q).trans (f2 x q)
  refine z_iload dL_law_533 rfl ?_
  refine z_icmp_eq (tgt := 540) dL_law_535 (by decide) (fun _ => ?_) (fun q => absurd (ht) q)
  refine z_iload dL_law_540 rfl ?_
  by_cases c0 : c = 0
  · obtain ⟨u', w, hP, hT2, f4, hf4, hf0⟩ := q1 c0
    obtain ⟨hw, hun2⟩ := hb1 c0 u' w hP
    have ok2 := hok _ _ _ c0 hP hT2
    cases hw
    refine z_if_ne (tgt := 557) dL_law_542 (by decide) (fun q => absurd ((show nI c = 0 by rw [c0]; rfl)) q) (fun _ => ?_)
    refine z_aload_n dL_law_545 rfl ?_
    refine z_iconst (v := 0) dL_law_546 (by decide) ?_
    refine z_lald dL_law_547 ((fr _ (by omega)).trans hf4) zin01 ?_
    rw [show (0 : Int32).toNatClampNeg = 0 by decide, hf0]
    refine z_iload dL_law_548 rfl ?_
    refine z_i2l dL_law_550 ?_
    refine z_lcmp dL_law_551 (zcmp_self _) ?_
    refine z_if_eq (tgt := 557) dL_law_552 (by decide) (fun _ => ?_) (fun q => absurd (rfl) q)
    refine z_goto (tgt := 2299) dL_law_557 (by decide) ?_
    refine z_widen (ca' := 400 + 28 * (i + 1)) (sl' := 60000 + 2800 * (i + 1)) (by show 400 + 28 * i + 26 + 0 + 0 ≤ _; omega) (by show 60000 + 2800 * i + 2790 + 0 + 0 ≤ _; omega) ?_
    exact kk _ _ _ _ _ _ (zLI_ok (hT2.frm fr) hmd3 hun2 ok2 hun ((fr _ (by omega)).trans hf4) (by omega))
  · obtain ⟨hT2, f4, hf4⟩ := q2 c0
    have hM2 := hb2 c0
    refine z_if_ne (tgt := 557) dL_law_542 (by decide) (fun _ => ?_) (fun q => absurd q ((fun w => c0 ((nI_eq (a := c) (b := 0) hcl (by decide)).mp w))))
    refine z_goto (tgt := 2299) dL_law_557 (by decide) ?_
    refine z_widen (ca' := 400 + 28 * (i + 1)) (sl' := 60000 + 2800 * (i + 1)) (by show 400 + 28 * i + 26 + 0 + 0 ≤ _; omega) (by show 60000 + 2800 * i + 2790 + 0 + 0 ≤ _; omega) ?_
    exact kk _ _ _ _ _ _ (zLI_ok (hT2.frm fr) hmd3 ⟨un, by omega, hM2⟩ ok hun ((fr _ (by omega)).trans hf4) (by omega))
set_option maxRecDepth 100000 in
set_option maxHeartbeats 1000000 in
theorem law_5 (hG : zKap G) (hL : L ≤ 2048) (hi : 4 * i + 4 ≤ L) (hI : zLI G σ nx b i) (kk : zKont G a b L xs i) : zWP G kL_law (zSc a L xs (zLF a)) 560 (zLls a b i x5 x6 x7 x8) [] σ nx (400 + 28 * i) (60000 + 2800 * i) := by
  obtain ⟨⟨nt, lim, mem, wk, slow, r, L1, A, tk, sp, cs⟩, un, S, f, hT, hmd, hM, ok, hun, ho, hnx⟩ := hI
  refine z_aload_n dL_law_560 rfl ?_
  refine z_aload_n dL_law_561 rfl ?_
  refine z_iload dL_law_562 rfl ?_
  refine z_iconst (v := 1) dL_law_564 (by decide) ?_
  refine z_iadd dL_law_565 ?_
  rw [zadd1]
  refine z_sldn (by omega) hL dL_law_566 ?_
  refine z_aload_n dL_law_567 rfl ?_
  refine z_iload dL_law_568 rfl ?_
  refine z_iconst (v := 2) dL_law_570 (by decide) ?_
  refine z_iadd dL_law_571 ?_
  rw [zadd2]
  refine z_sldn (by omega) hL dL_law_572 ?_
  refine z_aload_n dL_law_573 rfl ?_
  refine z_iload dL_law_574 rfl ?_
  refine z_iconst (v := 3) dL_law_576 (by decide) ?_
  refine z_iadd dL_law_577 ?_
  rw [zadd3]
  refine z_sldn (by omega) hL dL_law_578 ?_
  refine z_aload_n dL_law_579 rfl ?_
  refine z_callH dL_law_580 ch_L_141 (w_group (b := b) (hi := b + 109) (o := b + 108) hG hnx ok hT ho (by omega) (by omega)) rfl rfl ⟨(Nat.le_of_ble_eq_true rfl), (Nat.le_of_ble_eq_true rfl)⟩ (by show 400 + 28 * i + 26 ≤ 601024; omega) (by show 60000 + 2800 * i + 2790 ≤ 7293034; omega) (Nat.le_of_ble_eq_true rfl) (fun v s1 n1 hx1 hq1 => ?_)
  have hmd1 := hq1.md hmd
  obtain ⟨rfl, q1, q2, -⟩ := hq1
  have hm := m_group (G := G) (b := b) (m := b + 74) (x := (xs (4 * i + 1))) (y := (xs (4 * i + 2))) (z := (xs (4 * i + 3))) (S := S) (un := un) (by omega) ok hM
  have hok := fun (σ9 : zH) (u9 : zUv) (w9 : Int32) => o_group (G := G) (σ := σ9) (b := b) (hi := b + 109) (u' := u9) (w := w9) (x := (xs (4 * i + 1))) (y := (xs (4 * i + 2))) (z := (xs (4 * i + 3))) ok
  have hcl : (zk_group nt.length (xs (4 * i + 1)) (xs (4 * i + 2)) (xs (4 * i + 3))) < 2 ^ 31 := by unfold zk_group; repeat (first | split | decide)
  generalize (zk_group nt.length (xs (4 * i + 1)) (xs (4 * i + 2)) (xs (4 * i + 3))) = c at q1 q2 hm hok hcl ⊢
  generalize hP : (zPn nt lim mem wk slow r L1 A tk sp cs 4 (upd (upd (upd (zD0 (xs (4 * i + 1)) (-1) ((nt.getD (xs (4 * i + 1)).toNatClampNeg zdf).2.2.1 3) (xs (4 * i + 3))) 7 (xs (4 * i + 2))) 6 (xs (4 * i + 3))) 12 (zLW nt b (xs (4 * i + 1)) (-1)))) = P at q1 hm hok
  clear hP
  refine z_istore dL_law_583 (by decide) ?_
  refine z_aload_n dL_law_585 rfl ?_
  refine z_aload_n dL_law_586 rfl ?_
  refine z_iload dL_law_587 rfl ?_
  refine z_iconst (v := 1) dL_law_589 (by decide) ?_
  refine z_iadd dL_law_590 ?_
  rw [zadd1]
  refine z_sldn (by omega) hL dL_law_591 ?_
  refine z_aload_n dL_law_592 rfl ?_
  refine z_iload dL_law_593 rfl ?_
  refine z_iconst (v := 2) dL_law_595 (by decide) ?_
  refine z_iadd dL_law_596 ?_
  rw [zadd2]
  refine z_sldn (by omega) hL dL_law_597 ?_
  refine z_aload_n dL_law_598 rfl ?_
  refine z_iload dL_law_599 rfl ?_
  refine z_iconst (v := 3) dL_law_601 (by decide) ?_
  refine z_iadd dL_law_602 ?_
  rw [zadd3]
  refine z_sldn (by omega) hL dL_law_603 ?_
  refine z_callV dL_law_604 cv_L_143 (hm s1 n1 hmd1) rfl hmd1.1 rfl rfl ⟨(Nat.le_of_ble_eq_true rfl), (Nat.le_of_ble_eq_true rfl)⟩ (by show 400 + 28 * i + 26 + 0 ≤ 601024; omega) (by show 60000 + 2800 * i + 2790 + 0 ≤ 7293034; omega) (Nat.le_of_ble_eq_true rfl) (fun v s2 n2 hx2 hq2 => ?_)
  obtain ⟨rfl, f2, S2, hmd2, ⟨w2, rfl⟩, ht, hb1, hb2⟩ := hq2
  refine z_istore dL_law_607 (by decide) ?_
  refine z_aload_n dL_law_609 rfl ?_
  refine z_callV dL_law_610 cv_L_123 (c_thrown s2 _ hmd2) rfl hmd2.1 rfl rfl ⟨(Nat.le_of_ble_eq_true rfl), (Nat.le_of_ble_eq_true rfl)⟩ (by show 400 + 28 * i + 26 + 0 + 0 ≤ 601024; omega) (by show 60000 + 2800 * i + 2790 + 0 + 0 ≤ 7293034; omega) (Nat.le_of_ble_eq_true rfl) (fun v s3 n3 hx3 hq3 => ?_)
  obtain ⟨rfl, f3, S3, hmd3, rfl, rfl⟩ := hq3
  have fr : zFr s1 s3 (b + 74) 34 := fun x q => (f3 x q).trans (f2 x q)
  refine z_iload dL_law_613 rfl ?_
  refine z_icmp_eq (tgt := 620) dL_law_615 (by decide) (fun _ => ?_) (fun q => absurd (ht) q)
  refine z_iload dL_law_620 rfl ?_
  by_cases c0 : c = 0
  · obtain ⟨u', w, hP, hT2, f4, hf4, hf0⟩ := q1 c0
    obtain ⟨hw, hun2⟩ := hb1 c0 u' w hP
    have ok2 := hok _ _ _ c0 hP hT2
    cases hw
    refine z_if_ne (tgt := 637) dL_law_622 (by decide) (fun q => absurd ((show nI c = 0 by rw [c0]; rfl)) q) (fun _ => ?_)
    refine z_aload_n dL_law_625 rfl ?_
    refine z_iconst (v := 0) dL_law_626 (by decide) ?_
    refine z_lald dL_law_627 ((fr _ (by omega)).trans hf4) zin01 ?_
    rw [show (0 : Int32).toNatClampNeg = 0 by decide, hf0]
    refine z_iload dL_law_628 rfl ?_
    refine z_i2l dL_law_630 ?_
    refine z_lcmp dL_law_631 (zcmp_self _) ?_
    refine z_if_eq (tgt := 637) dL_law_632 (by decide) (fun _ => ?_) (fun q => absurd (rfl) q)
    refine z_goto (tgt := 2299) dL_law_637 (by decide) ?_
    refine z_widen (ca' := 400 + 28 * (i + 1)) (sl' := 60000 + 2800 * (i + 1)) (by show 400 + 28 * i + 26 + 0 + 0 ≤ _; omega) (by show 60000 + 2800 * i + 2790 + 0 + 0 ≤ _; omega) ?_
    exact kk _ _ _ _ _ _ (zLI_ok (hT2.frm fr) hmd3 hun2 ok2 hun ((fr _ (by omega)).trans hf4) (by omega))
  · obtain ⟨hT2, f4, hf4⟩ := q2 c0
    have hM2 := hb2 c0
    refine z_if_ne (tgt := 637) dL_law_622 (by decide) (fun _ => ?_) (fun q => absurd q ((fun w => c0 ((nI_eq (a := c) (b := 0) hcl (by decide)).mp w))))
    refine z_goto (tgt := 2299) dL_law_637 (by decide) ?_
    refine z_widen (ca' := 400 + 28 * (i + 1)) (sl' := 60000 + 2800 * (i + 1)) (by show 400 + 28 * i + 26 + 0 + 0 ≤ _; omega) (by show 60000 + 2800 * i + 2790 + 0 + 0 ≤ _; omega) ?_
    exact kk _ _ _ _ _ _ (zLI_ok (hT2.frm fr) hmd3 ⟨un, by omega, hM2⟩ ok hun ((fr _ (by omega)).trans hf4) (by omega))
set_option maxRecDepth 100000 in
set_option maxHeartbeats 1000000 in
theorem law_6 (hG : zKap G) (hL : L ≤ 2048) (hi : 4 * i + 4 ≤ L) (hI : zLI G σ nx b i) (kk : zKont G a b L xs i) : zWP G kL_law (zSc a L xs (zLF a)) 640 (zLls a b i x5 x6 x7 x8) [] σ nx (400 + 28 * i) (60000 + 2800 * i) := by
  obtain ⟨⟨nt, lim, mem, wk, slow, r, L1, A, tk, sp, cs⟩, un, S, f, hT, hmd, hM, ok, hun, ho, hnx⟩ := hI
  refine z_aload_n dL_law_640 rfl ?_
  refine z_aload_n dL_law_641 rfl ?_
  refine z_iload dL_law_642 rfl ?_
  refine z_iconst (v := 1) dL_law_644 (by decide) ?_
  refine z_iadd dL_law_645 ?_
  rw [zadd1]
  refine z_sldn (by omega) hL dL_law_646 ?_
  refine z_aload_n dL_law_647 rfl ?_
  refine z_iload dL_law_648 rfl ?_
  refine z_iconst (v := 2) dL_law_650 (by decide) ?_
  refine z_iadd dL_law_651 ?_
  rw [zadd2]
  refine z_sldn (by omega) hL dL_law_652 ?_
  refine z_aload_n dL_law_653 rfl ?_
  refine z_iload dL_law_654 rfl ?_
  refine z_iconst (v := 3) dL_law_656 (by decide) ?_
  refine z_iadd dL_law_657 ?_
  rw [zadd3]
  refine z_sldn (by omega) hL dL_law_658 ?_
  refine z_aload_n dL_law_659 rfl ?_
  refine z_callH dL_law_660 ch_L_144 (w_join (b := b) (hi := b + 109) (o := b + 108) hG hnx ok hT ho (by omega) (by omega)) rfl rfl ⟨(Nat.le_of_ble_eq_true rfl), (Nat.le_of_ble_eq_true rfl)⟩ (by show 400 + 28 * i + 27 ≤ 601024; omega) (by show 60000 + 2800 * i + 2790 ≤ 7293034; omega) (Nat.le_of_ble_eq_true rfl) (fun v s1 n1 hx1 hq1 => ?_)
  have hmd1 := hq1.md hmd
  obtain ⟨rfl, q1, q2, -⟩ := hq1
  have hm := m_join (G := G) (b := b) (m := b + 74) (x := (xs (4 * i + 1))) (y := (xs (4 * i + 2))) (z := (xs (4 * i + 3))) (S := S) (un := un) (by omega) ok hM
  have hok := fun (σ9 : zH) (u9 : zUv) (w9 : Int32) => o_join (G := G) (σ := σ9) (b := b) (hi := b + 109) (u' := u9) (w := w9) (x := (xs (4 * i + 1))) (y := (xs (4 * i + 2))) (z := (xs (4 * i + 3))) ok
  have hcl : (zk_join nt (xs (4 * i + 1)) (xs (4 * i + 2)) (xs (4 * i + 3))) < 2 ^ 31 := by unfold zk_join; repeat (first | split | decide)
  generalize (zk_join nt (xs (4 * i + 1)) (xs (4 * i + 2)) (xs (4 * i + 3))) = c at q1 q2 hm hok hcl ⊢
  generalize hP : (zPn nt lim mem wk slow r L1 A tk sp cs 5 (upd (upd (zD0 (xs (4 * i + 1)) (xs (4 * i + 2)) ((nt.getD (xs (4 * i + 1)).toNatClampNeg zdf).2.2.1 3 * (nt.getD (xs (4 * i + 2)).toNatClampNeg zdf).2.2.1 3) (if (xs (4 * i + 3)) < (nt.getD (xs (4 * i + 1)).toNatClampNeg zdf).2.2.1 4 then (nt.getD (xs (4 * i + 1)).toNatClampNeg zdf).2.2.1 4 else (xs (4 * i + 3)))) 6 (xs (4 * i + 3))) 12 (zLW nt b (xs (4 * i + 1)) (xs (4 * i + 2))))) = P at q1 hm hok
  clear hP
  refine z_istore dL_law_663 (by decide) ?_
  refine z_aload_n dL_law_665 rfl ?_
  refine z_aload_n dL_law_666 rfl ?_
  refine z_iload dL_law_667 rfl ?_
  refine z_iconst (v := 1) dL_law_669 (by decide) ?_
  refine z_iadd dL_law_670 ?_
  rw [zadd1]
  refine z_sldn (by omega) hL dL_law_671 ?_
  refine z_aload_n dL_law_672 rfl ?_
  refine z_iload dL_law_673 rfl ?_
  refine z_iconst (v := 2) dL_law_675 (by decide) ?_
  refine z_iadd dL_law_676 ?_
  rw [zadd2]
  refine z_sldn (by omega) hL dL_law_677 ?_
  refine z_aload_n dL_law_678 rfl ?_
  refine z_iload dL_law_679 rfl ?_
  refine z_iconst (v := 3) dL_law_681 (by decide) ?_
  refine z_iadd dL_law_682 ?_
  rw [zadd3]
  refine z_sldn (by omega) hL dL_law_683 ?_
  refine z_callV dL_law_684 cv_L_146 (hm s1 n1 hmd1) rfl hmd1.1 rfl rfl ⟨(Nat.le_of_ble_eq_true rfl), (Nat.le_of_ble_eq_true rfl)⟩ (by show 400 + 28 * i + 27 + 0 ≤ 601024; omega) (by show 60000 + 2800 * i + 2790 + 0 ≤ 7293034; omega) (Nat.le_of_ble_eq_true rfl) (fun v s2 n2 hx2 hq2 => ?_)
  obtain ⟨rfl, f2, S2, hmd2, ⟨w2, rfl⟩, ht, hb1, hb2⟩ := hq2
  refine z_istore dL_law_687 (by decide) ?_
  refine z_aload_n dL_law_689 rfl ?_
  refine z_callV dL_law_690 cv_L_123 (c_thrown s2 _ hmd2) rfl hmd2.1 rfl rfl ⟨(Nat.le_of_ble_eq_true rfl), (Nat.le_of_ble_eq_true rfl)⟩ (by show 400 + 28 * i + 27 + 0 + 0 ≤ 601024; omega) (by show 60000 + 2800 * i + 2790 + 0 + 0 ≤ 7293034; omega) (Nat.le_of_ble_eq_true rfl) (fun v s3 n3 hx3 hq3 => ?_)
  obtain ⟨rfl, f3, S3, hmd3, rfl, rfl⟩ := hq3
  have fr : zFr s1 s3 (b + 74) 34 := fun x q => (f3 x q).trans (f2 x q)
  refine z_iload dL_law_693 rfl ?_
  refine z_icmp_eq (tgt := 700) dL_law_695 (by decide) (fun _ => ?_) (fun q => absurd (ht) q)
  refine z_iload dL_law_700 rfl ?_
  by_cases c0 : c = 0
  · obtain ⟨u', w, hP, hT2, f4, hf4, hf0⟩ := q1 c0
    obtain ⟨hw, hun2⟩ := hb1 c0 u' w hP
    have ok2 := hok _ _ _ c0 hP hT2
    cases hw
    refine z_if_ne (tgt := 717) dL_law_702 (by decide) (fun q => absurd ((show nI c = 0 by rw [c0]; rfl)) q) (fun _ => ?_)
    refine z_aload_n dL_law_705 rfl ?_
    refine z_iconst (v := 0) dL_law_706 (by decide) ?_
    refine z_lald dL_law_707 ((fr _ (by omega)).trans hf4) zin01 ?_
    rw [show (0 : Int32).toNatClampNeg = 0 by decide, hf0]
    refine z_iload dL_law_708 rfl ?_
    refine z_i2l dL_law_710 ?_
    refine z_lcmp dL_law_711 (zcmp_self _) ?_
    refine z_if_eq (tgt := 717) dL_law_712 (by decide) (fun _ => ?_) (fun q => absurd (rfl) q)
    refine z_goto (tgt := 2299) dL_law_717 (by decide) ?_
    refine z_widen (ca' := 400 + 28 * (i + 1)) (sl' := 60000 + 2800 * (i + 1)) (by show 400 + 28 * i + 27 + 0 + 0 ≤ _; omega) (by show 60000 + 2800 * i + 2790 + 0 + 0 ≤ _; omega) ?_
    exact kk _ _ _ _ _ _ (zLI_ok (hT2.frm fr) hmd3 hun2 ok2 hun ((fr _ (by omega)).trans hf4) (by omega))
  · obtain ⟨hT2, f4, hf4⟩ := q2 c0
    have hM2 := hb2 c0
    refine z_if_ne (tgt := 717) dL_law_702 (by decide) (fun _ => ?_) (fun q => absurd q ((fun w => c0 ((nI_eq (a := c) (b := 0) hcl (by decide)).mp w))))
    refine z_goto (tgt := 2299) dL_law_717 (by decide) ?_
    refine z_widen (ca' := 400 + 28 * (i + 1)) (sl' := 60000 + 2800 * (i + 1)) (by show 400 + 28 * i + 27 + 0 + 0 ≤ _; omega) (by show 60000 + 2800 * i + 2790 + 0 + 0 ≤ _; omega) ?_
    exact kk _ _ _ _ _ _ (zLI_ok (hT2.frm fr) hmd3 ⟨un, by omega, hM2⟩ ok hun ((fr _ (by omega)).trans hf4) (by omega))
set_option maxRecDepth 100000 in
set_option maxHeartbeats 1000000 in
theorem law_7 (hG : zKap G) (hL : L ≤ 2048) (hi : 4 * i + 4 ≤ L) (hI : zLI G σ nx b i) (kk : zKont G a b L xs i) : zWP G kL_law (zSc a L xs (zLF a)) 720 (zLls a b i x5 x6 x7 x8) [] σ nx (400 + 28 * i) (60000 + 2800 * i) := by
  obtain ⟨⟨nt, lim, mem, wk, slow, r, L1, A, tk, sp, cs⟩, un, S, f, hT, hmd, hM, ok, hun, ho, hnx⟩ := hI
  refine z_aload_n dL_law_720 rfl ?_
  refine z_callV dL_law_721 cv_L_147 (c_nodes hT) rfl hT.1 rfl rfl ⟨(Nat.le_of_ble_eq_true rfl), (Nat.le_of_ble_eq_true rfl)⟩ (by show 400 + 28 * i + 0 ≤ 601024; omega) (by show 60000 + 2800 * i + 0 ≤ 7293034; omega) (Nat.le_of_ble_eq_true rfl) (fun v s1 n1 hx1 hq1 => ?_)
  obtain ⟨rfl, rfl, rfl⟩ := hq1
  refine z_aload_n dL_law_724 rfl ?_
  refine z_callV dL_law_725 cv_L_150 (c_q_nodes (m := b + 74) hM s1 n1 hmd) rfl hmd.1 rfl rfl ⟨(Nat.le_of_ble_eq_true rfl), (Nat.le_of_ble_eq_true rfl)⟩ (by show 400 + 28 * i + 0 + 0 ≤ 601024; omega) (by show 60000 + 2800 * i + 0 + 0 ≤ 7293034; omega) (Nat.le_of_ble_eq_true rfl) (fun v s2 n2 hx2 hq2 => ?_)
  obtain ⟨rfl, fr, S2, hmd2, -, -, hb1, -⟩ := hq2
  obtain ⟨rfl, hM2⟩ := hb1 rfl
  refine z_icmp_eq (tgt := 2299) dL_law_728 (by decide) (fun _ => ?_) (fun q => absurd (rfl) q)
  refine z_widen (ca' := 400 + 28 * (i + 1)) (sl' := 60000 + 2800 * (i + 1)) (by show 400 + 28 * i + 0 + 0 ≤ _; omega) (by show 60000 + 2800 * i + 0 + 0 ≤ _; omega) ?_
  exact kk _ _ _ _ _ _ (zLI_ok (u := (nt, lim, mem, wk, slow, r, L1, A, tk, sp, cs)) (zTu.frm hT fr) hmd2 ⟨un, by omega, hM2⟩ ok hun ((fr _ (by omega)).trans ho) (by omega))
end
