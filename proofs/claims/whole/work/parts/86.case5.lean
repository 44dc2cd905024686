/-! the law: its cases, 5 -/
section
variable {G : zG} {a b L i nx : Nat} {xs : Nat → Int32} {σ : zH} {x5 x6 x7 x8 : Option Value}
set_option maxRecDepth 100000 in
set_option maxHeartbeats 1000000 in
theorem law_18 (hG : zKap G) (hL : L ≤ 2048) (hi : 4 * i + 4 ≤ L) (hI : zLI G σ nx b i) (kk : zKont G a b L xs i) : zWP G kL_law (zSc a L xs (zLF a)) 1372 (zLls a b i x5 x6 x7 x8) [] σ nx (400 + 28 * i) (60000 + 2800 * i) := by
  obtain ⟨⟨nt, lim, mem, wk, slow, r, L1, A, tk, sp, cs⟩, un, S, f, hT, hmd, hM, ok, hun, ho, hnx⟩ := hI
  refine z_aload_n dL_law_1372 rfl ?_
  refine z_aload_n dL_law_1373 rfl ?_
  refine z_iload dL_law_1374 rfl ?_
  refine z_iconst (v := 1) dL_law_1376 (by decide) ?_
  refine z_iadd dL_law_1377 ?_
  rw [zadd1]
  refine z_sldn (by omega) hL dL_law_1378 ?_
  refine z_aload_n dL_law_1379 rfl ?_
  refine z_callH dL_law_1380 ch_L_181 (w_setMemory (b := b) (hi := b + 109) (o := b + 108) hG hnx ok hT ho (by omega) (by omega)) rfl rfl ⟨(Nat.le_of_ble_eq_true rfl), (Nat.le_of_ble_eq_true rfl)⟩ (by show 400 + 28 * i + 1 ≤ 601024; omega) (by show 60000 + 2800 * i + 6 ≤ 7293034; omega) (Nat.le_of_ble_eq_true rfl) (fun v s1 n1 hx1 hq1 => ?_)
  have hmd1 := hq1.md hmd
  obtain ⟨rfl, q1, q2, -⟩ := hq1
  have hm := m_setMemory (G := G) (m := b + 74) (x := (xs (4 * i + 1))) (S := S) (un := un) (by omega) ok hM
  have hok := fun (σ9 : zH) (u9 : zUv) (w9 : Int32) => o_setMemory (G := G) (σ := σ9) (b := b) (hi := b + 109) (u' := u9) (w := w9) (x := (xs (4 * i + 1))) ok
  have hcl : (zk_1000 (xs (4 * i + 1))) < 2 ^ 31 := by unfold zk_1000; repeat (first | split | decide)
  generalize (zk_1000 (xs (4 * i + 1))) = c at q1 q2 hm hok hcl ⊢
  generalize hP : (zPq (nt, lim, (xs (4 * i + 1)).toNatClampNeg, wk, slow, r, L1, A, tk, sp, cs) (nI mem)) = P at q1 hm hok
  clear hP
  refine z_istore dL_law_1383 (by decide) ?_
  refine z_aload_n dL_law_1385 rfl ?_
  refine z_aload_n dL_law_1386 rfl ?_
  refine z_iload dL_law_1387 rfl ?_
  refine z_iconst (v := 1) dL_law_1389 (by decide) ?_
  refine z_iadd dL_law_1390 ?_
  rw [zadd1]
  refine z_sldn (by omega) hL dL_law_1391 ?_
  refine z_callV dL_law_1392 cv_L_183 (hm s1 n1 hmd1) rfl hmd1.1 rfl rfl ⟨(Nat.le_of_ble_eq_true rfl), (Nat.le_of_ble_eq_true rfl)⟩ (by show 400 + 28 * i + 1 + 0 ≤ 601024; omega) (by show 60000 + 2800 * i + 6 + 0 ≤ 7293034; omega) (Nat.le_of_ble_eq_true rfl) (fun v s2 n2 hx2 hq2 => ?_)
  obtain ⟨rfl, f2, S2, hmd2, ⟨w2, rfl⟩, ht, hb1, hb2⟩ := hq2
  refine z_istore dL_law_1395 (by decide) ?_
  refine z_aload_n dL_law_1397 rfl ?_
  refine z_callV dL_law_1398 cv_L_123 (c_thrown s2 _ hmd2) rfl hmd2.1 rfl rfl ⟨(Nat.le_of_ble_eq_true rfl), (Nat.le_of_ble_eq_true rfl)⟩ (by show 400 + 28 * i + 1 + 0 + 0 ≤ 601024; omega) (by show 60000 + 2800 * i + 6 + 0 + 0 ≤ 7293034; omega) (Nat.le_of_ble_eq_true rfl) (fun v s3 n3 hx3 hq3 => ?_)
  obtain ⟨rfl, f3, S3, hmd3, rfl, rfl⟩ := hq3
  have fr : zFr s1 s3 (b + 74) 34 := fun x q => (f3 x q).trans (f2 x q)
  refine z_iload dL_law_1401 rfl ?_
  refine z_icmp_eq (tgt := 1408) dL_law_1403 (by decide) (fun _ => ?_) (fun q => absurd (ht) q)
  refine z_iload dL_law_1408 rfl ?_
  by_cases c0 : c = 0
  · obtain ⟨u', w, hP, hT2, f4, hf4, hf0⟩ := q1 c0
    obtain ⟨hw, hun2⟩ := hb1 c0 u' w hP
    have ok2 := hok _ _ _ c0 hP hT2
    cases hw
    refine z_if_ne (tgt := 1425) dL_law_1410 (by decide) (fun q => absurd ((show nI c = 0 by rw [c0]; rfl)) q) (fun _ => ?_)
    refine z_aload_n dL_law_1413 rfl ?_
    refine z_iconst (v := 0) dL_law_1414 (by decide) ?_
    refine z_lald dL_law_1415 ((fr _ (by omega)).trans hf4) zin01 ?_
    rw [show (0 : Int32).toNatClampNeg = 0 by decide, hf0]
    refine z_iload dL_law_1416 rfl ?_
    refine z_i2l dL_law_1418 ?_
    refine z_lcmp dL_law_1419 (zcmp_self _) ?_
    refine z_if_eq (tgt := 1425) dL_law_1420 (by decide) (fun _ => ?_) (fun q => absurd (rfl) q)
    refine z_goto (tgt := 2299) dL_law_1425 (by decide) ?_
    refine z_widen (ca' := 400 + 28 * (i + 1)) (sl' := 60000 + 2800 * (i + 1)) (by show 400 + 28 * i + 1 + 0 + 0 ≤ _; omega) (by show 60000 + 2800 * i + 6 + 0 + 0 ≤ _; omega) ?_
    exact kk _ _ _ _ _ _ (zLI_ok (hT2.frm fr) hmd3 hun2 ok2 hun ((fr _ (by omega)).trans hf4) (by omega))
  · obtain ⟨hT2, f4, hf4⟩ := q2 c0
    have hM2 := hb2 c0
    refine z_if_ne (tgt := 1425) dL_law_1410 (by decide) (fun _ => ?_) (fun q => absurd q ((fun w => c0 ((nI_eq (a := c) (b := 0) hcl (by decide)).mp w))))
    refine z_goto (tgt := 2299) dL_law_1425 (by decide) ?_
    refine z_widen (ca' := 400 + 28 * (i + 1)) (sl' := 60000 + 2800 * (i + 1)) (by show 400 + 28 * i + 1 + 0 + 0 ≤ _; omega) (by show 60000 + 2800 * i + 6 + 0 + 0 ≤ _; omega) ?_
    exact kk _ _ _ _ _ _ (zLI_ok (hT2.frm fr) hmd3 ⟨un, by omega, hM2⟩ ok hun ((fr _ (by omega)).trans hf4) (by omega))
set_option maxRecDepth 100000 in
set_option maxHeartbeats 1000000 in
theorem law_19 (hG : zKap G) (hL : L ≤ 2048) (hi : 4 * i + 4 ≤ L) (hI : zLI G σ nx b i) (kk : zKont G a b L xs i) : zWP G kL_law (zSc a L xs (zLF a)) 1428 (zLls a b i x5 x6 x7 x8) [] σ nx (400 + 28 * i) (60000 + 2800 * i) := by
  obtain ⟨⟨nt, lim, mem, wk, slow, r, L1, A, tk, sp, cs⟩, un, S, f, hT, hmd, hM, ok, hun, ho, hnx⟩ := hI
  refine z_aload_n dL_law_1428 rfl ?_
  refine z_aload_n dL_law_1429 rfl ?_
  refine z_iload dL_law_1430 rfl ?_
  refine z_iconst (v := 1) dL_law_1432 (by decide) ?_
  refine z_iadd dL_law_1433 ?_
  rw [zadd1]
  refine z_sldn (by omega) hL dL_law_1434 ?_
  refine z_aload_n dL_law_1435 rfl ?_
  refine z_callH dL_law_1436 ch_L_184 (w_setLimit (b := b) (hi := b + 109) (o := b + 108) hG hnx ok hT ho (by omega) (by omega)) rfl rfl ⟨(Nat.le_of_ble_eq_true rfl), (Nat.le_of_ble_eq_true rfl)⟩ (by show 400 + 28 * i + 1 ≤ 601024; omega) (by show 60000 + 2800 * i + 6 ≤ 7293034; omega) (Nat.le_of_ble_eq_true rfl) (fun v s1 n1 hx1 hq1 => ?_)
  have hmd1 := hq1.md hmd
  obtain ⟨rfl, q1, q2, -⟩ := hq1
  have hm := m_setLimit (G := G) (m := b + 74) (x := (xs (4 * i + 1))) (S := S) (un := un) (by omega) ok hM
  have hok := fun (σ9 : zH) (u9 : zUv) (w9 : Int32) => o_setLimit (G := G) (σ := σ9) (b := b) (hi := b + 109) (u' := u9) (w := w9) (x := (xs (4 * i + 1))) ok
  have hcl : (zk_1000 (xs (4 * i + 1))) < 2 ^ 31 := by unfold zk_1000; repeat (first | split | decide)
  generalize (zk_1000 (xs (4 * i + 1))) = c at q1 q2 hm hok hcl ⊢
  generalize hP : (zPq (nt, (xs (4 * i + 1)).toNatClampNeg, mem, wk, slow, r, [], A, tk, sp, cs) (nI lim)) = P at q1 hm hok
  clear hP
  refine z_istore dL_law_1439 (by decide) ?_
  refine z_aload_n dL_law_1441 rfl ?_
  refine z_aload_n dL_law_1442 rfl ?_
  refine z_iload dL_law_1443 rfl ?_
  refine z_iconst (v := 1) dL_law_1445 (by decide) ?_
  refine z_iadd dL_law_1446 ?_
  rw [zadd1]
  refine z_sldn (by omega) hL dL_law_1447 ?_
  refine z_callV dL_law_1448 cv_L_186 (hm s1 n1 hmd1) rfl hmd1.1 rfl rfl ⟨(Nat.le_of_ble_eq_true rfl), (Nat.le_of_ble_eq_true rfl)⟩ (by show 400 + 28 * i + 1 + 0 ≤ 601024; omega) (by show 60000 + 2800 * i + 6 + 0 ≤ 7293034; omega) (Nat.le_of_ble_eq_true rfl) (fun v s2 n2 hx2 hq2 => ?_)
  obtain ⟨rfl, f2, S2, hmd2, ⟨w2, rfl⟩, ht, hb1, hb2⟩ := hq2
  refine z_istore dL_law_1451 (by decide) ?_
  refine z_aload_n dL_law_1453 rfl ?_
  refine z_callV dL_law_1454 cv_L_123 (c_thrown s2 _ hmd2) rfl hmd2.1 rfl rfl ⟨(Nat.le_of_ble_eq_true rfl), (Nat.le_of_ble_eq_true rfl)⟩ (by show 400 + 28 * i + 1 + 0 + 0 ≤ 601024; omega) (by show 60000 + 2800 * i + 6 + 0 + 0 ≤ 7293034; omega) (Nat.le_of_ble_eq_true rfl) (fun v s3 n3 hx3 hq3 => ?_)
  obtain ⟨rfl, f3, S3, hmd3, rfl, rfl⟩ := hq3
  have fr : zFr s1 s3 (b + 74) 34 := fun x q => (f3 x q).trans (f2 x q)
  refine z_iload dL_law_1457 rfl ?_
  refine z_icmp_eq (tgt := 1464) dL_law_1459 (by decide) (fun _ => ?_) (fun q => absurd (ht) q)
  refine z_iload dL_law_1464 rfl ?_
  by_cases c0 : c = 0
  · obtain ⟨u', w, hP, hT2, f4, hf4, hf0⟩ := q1 c0
    obtain ⟨hw, hun2⟩ := hb1 c0 u' w hP
    have ok2 := hok _ _ _ c0 hP hT2
    cases hw
    refine z_if_ne (tgt := 1481) dL_law_1466 (by decide) (fun q => absurd ((show nI c = 0 by rw [c0]; rfl)) q) (fun _ => ?_)
    refine z_aload_n dL_law_1469 rfl ?_
    refine z_iconst (v := 0) dL_law_1470 (by decide) ?_
    refine z_lald dL_law_1471 ((fr _ (by omega)).trans hf4) zin01 ?_
    rw [show (0 : Int32).toNatClampNeg = 0 by decide, hf0]
    refine z_iload dL_law_1472 rfl ?_
    refine z_i2l dL_law_1474 ?_
    refine z_lcmp dL_law_1475 (zcmp_self _) ?_
    refine z_if_eq (tgt := 1481) dL_law_1476 (by decide) (fun _ => ?_) (fun q => absurd (rfl) q)
    refine z_goto (tgt := 2299) dL_law_1481 (by decide) ?_
    refine z_widen (ca' := 400 + 28 * (i + 1)) (sl' := 60000 + 2800 * (i + 1)) (by show 400 + 28 * i + 1 + 0 + 0 ≤ _; omega) (by show 60000 + 2800 * i + 6 + 0 + 0 ≤ _; omega) ?_
    exact kk _ _ _ _ _ _ (zLI_ok (hT2.frm fr) hmd3 hun2 ok2 hun ((fr _ (by omega)).trans hf4) (by omega))
  · obtain ⟨hT2, f4, hf4⟩ := q2 c0
    have hM2 := hb2 c0
    refine z_if_ne (tgt := 1481) dL_law_1466 (by decide) (fun _ => ?_) (fun q => absurd q ((fun w => c0 ((nI_eq (a := c) (b := 0) hcl (by decide)).mp w))))
    refine z_goto (tgt := 2299) dL_law_1481 (by decide) ?_
    refine z_widen (ca' := 400 + 28 * (i + 1)) (sl' := 60000 + 2800 * (i + 1)) (by show 400 + 28 * i + 1 + 0 + 0 ≤ _; omega) (by show 60000 + 2800 * i + 6 + 0 + 0 ≤ _; omega) ?_
    exact kk _ _ _ _ _ _ (zLI_ok (hT2.frm fr) hmd3 ⟨un, by omega, hM2⟩ ok hun ((fr _ (by omega)).trans hf4) (by omega))
set_option maxRecDepth 100000 in
set_option maxHeartbeats 1000000 in
theorem law_20 (hG : zKap G) (hL : L ≤ 2048) (hi : 4 * i + 4 ≤ L) (hI : zLI G σ nx b i) (kk : zKont G a b L xs i) : zWP G kL_law (zSc a L xs (zLF a)) 1484 (zLls a b i x5 x6 x7 x8) [] σ nx (400 + 28 * i) (60000 + 2800 * i) := by
  obtain ⟨⟨nt, lim, mem, wk, slow, r, L1, A, tk, sp, cs⟩, un, S, f, hT, hmd, hM, ok, hun, ho, hnx⟩ := hI
  refine z_aload_n dL_law_1484 rfl ?_
  refine z_aload_n dL_law_1485 rfl ?_
  refine z_iload dL_law_1486 rfl ?_
  refine z_iconst (v := 1) dL_law_1488 (by decide) ?_
  refine z_iadd dL_law_1489 ?_
  rw [zadd1]
  refine z_sldn (by omega) hL dL_law_1490 ?_
  refine z_aload_n dL_law_1491 rfl ?_
  refine z_callH dL_law_1492 ch_L_187 (w_setRoom (b := b) (hi := b + 109) (o := b + 108) hG hnx ok hT ho (by omega) (by omega)) rfl rfl ⟨(Nat.le_of_ble_eq_true rfl), (Nat.le_of_ble_eq_true rfl)⟩ (by show 400 + 28 * i + 1 ≤ 601024; omega) (by show 60000 + 2800 * i + 6 ≤ 7293034; omega) (Nat.le_of_ble_eq_true rfl) (fun v s1 n1 hx1 hq1 => ?_)
  have hmd1 := hq1.md hmd
  obtain ⟨rfl, q1, q2, -⟩ := hq1
  have hm := m_setRoom (G := G) (m := b + 74) (x := (xs (4 * i + 1))) (S := S) (un := un) (by omega) ok hM
  have hok := fun (σ9 : zH) (u9 : zUv) (w9 : Int32) => o_setRoom (G := G) (σ := σ9) (b := b) (hi := b + 109) (u' := u9) (w := w9) (x := (xs (4 * i + 1))) ok
  have hcl : (zk_1000 (xs (4 * i + 1))) < 2 ^ 31 := by unfold zk_1000; repeat (first | split | decide)
  generalize (zk_1000 (xs (4 * i + 1))) = c at q1 q2 hm hok hcl ⊢
  generalize hP : (zPq (nt, lim, mem, wk, slow, (xs (4 * i + 1)).toNatClampNeg, zmkr (xs (4 * i + 1)).toNatClampNeg 0 L1, A, tk, sp, cs) (nI (L1.length - (zmkr (xs (4 * i + 1)).toNatClampNeg 0 L1).length))) = P at q1 hm hok
  clear hP
  refine z_istore dL_law_1495 (by decide) ?_
  refine z_aload_n dL_law_1497 rfl ?_
  refine z_aload_n dL_law_1498 rfl ?_
  refine z_iload dL_law_1499 rfl ?_
  refine z_iconst (v := 1) dL_law_1501 (by decide) ?_
  refine z_iadd dL_law_1502 ?_
  rw [zadd1]
  refine z_sldn (by omega) hL dL_law_1503 ?_
  refine z_callV dL_law_1504 cv_L_189 (hm s1 n1 hmd1) rfl hmd1.1 rfl rfl ⟨(Nat.le_of_ble_eq_true rfl), (Nat.le_of_ble_eq_true rfl)⟩ (by show 400 + 28 * i + 1 + 0 ≤ 601024; omega) (by show 60000 + 2800 * i + 6 + 0 ≤ 7293034; omega) (Nat.le_of_ble_eq_true rfl) (fun v s2 n2 hx2 hq2 => ?_)
  obtain ⟨rfl, f2, S2, hmd2, ⟨w2, rfl⟩, ht, hb1, hb2⟩ := hq2
  refine z_istore dL_law_1507 (by decide) ?_
  refine z_aload_n dL_law_1509 rfl ?_
  refine z_callV dL_law_1510 cv_L_123 (c_thrown s2 _ hmd2) rfl hmd2.1 rfl rfl ⟨(Nat.le_of_ble_eq_true rfl), (Nat.le_of_ble_eq_true rfl)⟩ (by show 400 + 28 * i + 1 + 0 + 0 ≤ 601024; omega) (by show 60000 + 2800 * i + 6 + 0 + 0 ≤ 7293034; omega) (Nat.le_of_ble_eq_true rfl) (fun v s3 n3 hx3 hq3 => ?_)
  obtain ⟨rfl, f3, S3, hmd3, rfl, rfl⟩ := hq3
  have fr : zFr s1 s3 (b + 74) 34 := fun x q => (f3 x q).trans (f2 x q)
  refine z_iload dL_law_1513 rfl ?_
  refine z_icmp_eq (tgt := 1520) dL_law_1515 (by decide) (fun _ => ?_) (fun q => absurd (ht) q)
  refine z_iload dL_law_1520 rfl ?_
  by_cases c0 : c = 0
  · obtain ⟨u', w, hP, hT2, f4, hf4, hf0⟩ := q1 c0
    obtain ⟨hw, hun2⟩ := hb1 c0 u' w hP
    have ok2 := hok _ _ _ c0 hP hT2
    cases hw
    refine z_if_ne (tgt := 1537) dL_law_1522 (by decide) (fun q => absurd ((show nI c = 0 by rw [c0]; rfl)) q) (fun _ => ?_)
    refine z_aload_n dL_law_1525 rfl ?_
    refine z_iconst (v := 0) dL_law_1526 (by decide) ?_
    refine z_lald dL_law_1527 ((fr _ (by omega)).trans hf4) zin01 ?_
    rw [show (0 : Int32).toNatClampNeg = 0 by decide, hf0]
    refine z_iload dL_law_1528 rfl ?_
    refine z_i2l dL_law_1530 ?_
    refine z_lcmp dL_law_1531 (zcmp_self _) ?_
    refine z_if_eq (tgt := 1537) dL_law_1532 (by decide) (fun _ => ?_) (fun q => absurd (rfl) q)
    refine z_goto (tgt := 2299) dL_law_1537 (by decide) ?_
    refine z_widen (ca' := 400 + 28 * (i + 1)) (sl' := 60000 + 2800 * (i + 1)) (by show 400 + 28 * i + 1 + 0 + 0 ≤ _; omega) (by show 60000 + 2800 * i + 6 + 0 + 0 ≤ _; omega) ?_
    exact kk _ _ _ _ _ _ (zLI_ok (hT2.frm fr) hmd3 hun2 ok2 hun ((fr _ (by omega)).trans hf4) (by omega))
  · obtain ⟨hT2, f4, hf4⟩ := q2 c0
    have hM2 := hb2 c0
    refine z_if_ne (tgt := 1537) dL_law_1522 (by decide) (fun _ => ?_) (fun q => absurd q ((fun w => c0 ((nI_eq (a := c) (b := 0) hcl (by decide)).mp w))))
    refine z_goto (tgt := 2299) dL_law_1537 (by decide) ?_
    refine z_widen (ca' := 400 + 28 * (i + 1)) (sl' := 60000 + 2800 * (i + 1)) (by show 400 + 28 * i + 1 + 0 + 0 ≤ _; omega) (by show 60000 + 2800 * i + 6 + 0 + 0 ≤ _; omega) ?_
    exact kk _ _ _ _ _ _ (zLI_ok (hT2.frm fr) hmd3 ⟨un, by omega, hM2⟩ ok hun ((fr _ (by omega)).trans hf4) (by omega))
set_option maxRecDepth 100000 in
set_option maxHeartbeats 1000000 in
theorem law_21 (hG : zKap G) (hL : L ≤ 2048) (hi : 4 * i + 4 ≤ L) (hI : zLI G σ nx b i) (kk : zKont G a b L xs i) : zWP G kL_law (zSc a L xs (zLF a)) 1540 (zLls a b i x5 x6 x7 x8) [] σ nx (400 + 28 * i) (60000 + 2800 * i) := by
  obtain ⟨⟨nt, lim, mem, wk, slow, r, L1, A, tk, sp, cs⟩, un, S, f, hT, hmd, hM, ok, hun, ho, hnx⟩ := hI
  by_cases e2 : xs (4 * i + 2) = 0
  · refine z_aload_n dL_law_1540 rfl ?_
    refine z_aload_n dL_law_1541 rfl ?_
    refine z_iload dL_law_1542 rfl ?_
    refine z_iconst (v := 1) dL_law_1544 (by decide) ?_
    refine z_iadd dL_law_1545 ?_
    rw [zadd1]
    refine z_sldn (by omega) hL dL_law_1546 ?_
    refine z_aload_n dL_law_1547 rfl ?_
    refine z_iload dL_law_1548 rfl ?_
    refine z_iconst (v := 2) dL_law_1550 (by decide) ?_
    refine z_iadd dL_law_1551 ?_
    rw [zadd2]
    refine z_sldn (by omega) hL dL_law_1552 ?_
    refine z_if_eq (tgt := 1560) dL_law_1553 (by decide) (fun _ => ?_) (fun q => absurd (e2) q)
    refine z_iconst (v := 0) dL_law_1560 (by decide) ?_
    refine z_aload_n dL_law_1561 rfl ?_
    refine z_callH dL_law_1562 ch_L_190 (w_mark (b := b) (hi := b + 109) (o := b + 108) hG hnx (Or.inl rfl) ok hT ho (by omega) (by omega)) rfl rfl ⟨(Nat.le_of_ble_eq_true rfl), (Nat.le_of_ble_eq_true rfl)⟩ (by show 400 + 28 * i + 1 ≤ 601024; omega) (by show 60000 + 2800 * i + 6 ≤ 7293034; omega) (Nat.le_of_ble_eq_true rfl) (fun v s1 n1 hx1 hq1 => ?_)
    have hmd1 := hq1.md hmd
    obtain ⟨rfl, q1, q2, -⟩ := hq1
    have hm := m_mark (G := G) (m := b + 74) (Or.inl rfl) (x := (xs (4 * i + 1))) (y := 0) (S := S) (un := un) (by omega) ok hM
    have hok := fun (σ9 : zH) (u9 : zUv) (w9 : Int32) => o_mark (G := G) (σ := σ9) (b := b) (hi := b + 109) (u' := u9) (w := w9) (Or.inl rfl) (x := (xs (4 * i + 1))) (y := 0) ok
    have hcl : (zk_node nt.length (xs (4 * i + 1))) < 2 ^ 31 := by unfold zk_node; repeat (first | split | decide)
    generalize (zk_node nt.length (xs (4 * i + 1))) = c at q1 q2 hm hok hcl ⊢
    generalize hP : (zPq (zmark nt (xs (4 * i + 1)).toNatClampNeg 0, lim, mem, wk, slow, r, L1, A, tk, sp, cs) ((nt.getD (xs (4 * i + 1)).toNatClampNeg zdf).2.2.1 11)) = P at q1 hm hok
    clear hP
    refine z_istore dL_law_1565 (by decide) ?_
    refine z_aload_n dL_law_1567 rfl ?_
    refine z_aload_n dL_law_1568 rfl ?_
    refine z_iload dL_law_1569 rfl ?_
    refine z_iconst (v := 1) dL_law_1571 (by decide) ?_
    refine z_iadd dL_law_1572 ?_
    rw [zadd1]
    refine z_sldn (by omega) hL dL_law_1573 ?_
    refine z_aload_n dL_law_1574 rfl ?_
    refine z_iload dL_law_1575 rfl ?_
    refine z_iconst (v := 2) dL_law_1577 (by decide) ?_
    refine z_iadd dL_law_1578 ?_
    rw [zadd2]
    refine z_sldn (by omega) hL dL_law_1579 ?_
    refine z_if_eq (tgt := 1587) dL_law_1580 (by decide) (fun _ => ?_) (fun q => absurd (e2) q)
    refine z_iconst (v := 0) dL_law_1587 (by decide) ?_
    refine z_callV dL_law_1588 cv_L_193 (hm s1 n1 hmd1) rfl hmd1.1 rfl rfl ⟨(Nat.le_of_ble_eq_true rfl), (Nat.le_of_ble_eq_true rfl)⟩ (by show 400 + 28 * i + 1 + 0 ≤ 601024; omega) (by show 60000 + 2800 * i + 6 + 0 ≤ 7293034; omega) (Nat.le_of_ble_eq_true rfl) (fun v s2 n2 hx2 hq2 => ?_)
    obtain ⟨rfl, f2, S2, hmd2, ⟨w2, rfl⟩, ht, hb1, hb2⟩ := hq2
    refine z_istore dL_law_1591 (by decide) ?_
    refine z_aload_n dL_law_1593 rfl ?_
    refine z_callV dL_law_1594 cv_L_123 (c_thrown s2 _ hmd2) rfl hmd2.1 rfl rfl ⟨(Nat.le_of_ble_eq_true rfl), (Nat.le_of_ble_eq_true rfl)⟩ (by show 400 + 28 * i + 1 + 0 + 0 ≤ 601024; omega) (by show 60000 + 2800 * i + 6 + 0 + 0 ≤ 7293034; omega) (Nat.le_of_ble_eq_true rfl) (fun v s3 n3 hx3 hq3 => ?_)
    obtain ⟨rfl, f3, S3, hmd3, rfl, rfl⟩ := hq3
    have fr : zFr s1 s3 (b + 74) 34 := fun x q => (f3 x q).trans (f2 x q)
    refine z_iload dL_law_1597 rfl ?_
    refine z_icmp_eq (tgt := 1604) dL_law_1599 (by decide) (fun _ => ?_) (fun q => absurd (ht) q)
    refine z_iload dL_law_1604 rfl ?_
    by_cases c0 : c = 0
    · obtain ⟨u', w, hP, hT2, f4, hf4, hf0⟩ := q1 c0
      obtain ⟨hw, hun2⟩ := hb1 c0 u' w hP
      have ok2 := hok _ _ _ c0 hP hT2
      cases hw
      refine z_if_ne (tgt := 1628) dL_law_1606 (by decide) (fun q => absurd ((show nI c = 0 by rw [c0]; rfl)) q) (fun _ => ?_)
      refine z_aload_n dL_law_1609 rfl ?_
      refine z_iconst (v := 0) dL_law_1610 (by decide) ?_
      refine z_lald dL_law_1611 ((fr _ (by omega)).trans hf4) zin01 ?_
      rw [show (0 : Int32).toNatClampNeg = 0 by decide, hf0]
      refine z_iload dL_law_1612 rfl ?_
      by_cases ew : w2 = 0
      · refine z_if_eq (tgt := 1621) dL_law_1614 (by decide) (fun _ => ?_) (fun q => absurd (ew) q)
        refine z_lconst (v := 0) dL_law_1621 (by decide) ?_
        rw [show zbl w2 = 0 from if_pos ew]
        refine z_lcmp dL_law_1622 (zcmp_self _) ?_
        refine z_if_eq (tgt := 1628) dL_law_1623 (by decide) (fun _ => ?_) (fun q => absurd (rfl) q)
        refine z_goto (tgt := 2299) dL_law_1628 (by decide) ?_
        refine z_widen (ca' := 400 + 28 * (i + 1)) (sl' := 60000 + 2800 * (i + 1)) (by show 400 + 28 * i + 1 + 0 + 0 ≤ _; omega) (by show 60000 + 2800 * i + 6 + 0 + 0 ≤ _; omega) ?_
        exact kk _ _ _ _ _ _ (zLI_ok (hT2.frm fr) hmd3 hun2 ok2 hun ((fr _ (by omega)).trans hf4) (by omega))
      · refine z_if_eq (tgt := 1621) dL_law_1614 (by decide) (fun q => absurd q (ew)) (fun _ => ?_)
        refine z_lconst (v := 1) dL_law_1617 (by decide) ?_
        refine z_goto (tgt := 1622) dL_law_1618 (by decide) ?_
        rw [show zbl w2 = 1 from if_neg ew]
        refine z_lcmp dL_law_1622 (zcmp_self _) ?_
        refine z_if_eq (tgt := 1628) dL_law_1623 (by decide) (fun _ => ?_) (fun q => absurd (rfl) q)
        refine z_goto (tgt := 2299) dL_law_1628 (by decide) ?_
        refine z_widen (ca' := 400 + 28 * (i + 1)) (sl' := 60000 + 2800 * (i + 1)) (by show 400 + 28 * i + 1 + 0 + 0 ≤ _; omega) (by show 60000 + 2800 * i + 6 + 0 + 0 ≤ _; omega) ?_
        exact kk _ _ _ _ _ _ (zLI_ok (hT2.frm fr) hmd3 hun2 ok2 hun ((fr _ (by omega)).trans hf4) (by omega))
    · obtain ⟨hT2, f4, hf4⟩ := q2 c0
      have hM2 := hb2 c0
      refine z_if_ne (tgt := 1628) dL_law_1606 (by decide) (fun _ => ?_) (fun q => absurd q ((fun w => c0 ((nI_eq (a := c) (b := 0) hcl (by decide)).mp w))))
      refine z_goto (tgt := 2299) dL_law_1628 (by decide) ?_
      refine z_widen (ca' := 400 + 28 * (i + 1)) (sl' := 60000 + 2800 * (i + 1)) (by show 400 + 28 * i + 1 + 0 + 0 ≤ _; omega) (by show 60000 + 2800 * i + 6 + 0 + 0 ≤ _; omega) ?_
      exact kk _ _ _ _ _ _ (zLI_ok (hT2.frm fr) hmd3 ⟨un, by omega, hM2⟩ ok hun ((fr _ (by omega)).trans hf4) (by omega))
  · refine z_aload_n dL_law_1540 rfl ?_
    refine z_aload_n dL_law_1541 rfl ?_
    refine z_iload dL_law_1542 rfl ?_
    refine z_iconst (v := 1) dL_law_1544 (by decide) ?_
    refine z_iadd dL_law_1545 ?_
    rw [zadd1]
    refine z_sldn (by omega) hL dL_law_1546 ?_
    refine z_aload_n dL_law_1547 rfl ?_
    refine z_iload dL_law_1548 rfl ?_
    refine z_iconst (v := 2) dL_law_1550 (by decide) ?_
    refine z_iadd dL_law_1551 ?_
    rw [zadd2]
    refine z_sldn (by omega) hL dL_law_1552 ?_
    refine z_if_eq (tgt := 1560) dL_law_1553 (by decide) (fun q => absurd q (e2)) (fun _ => ?_)
    refine z_iconst (v := 1) dL_law_1556 (by decide) ?_
    refine z_goto (tgt := 1561) dL_law_1557 (by decide) ?_
    refine z_aload_n dL_law_1561 rfl ?_
    refine z_callH dL_law_1562 ch_L_190 (w_mark (b := b) (hi := b + 109) (o := b + 108) hG hnx (Or.inr rfl) ok hT ho (by omega) (by omega)) rfl rfl ⟨(Nat.le_of_ble_eq_true rfl), (Nat.le_of_ble_eq_true rfl)⟩ (by show 400 + 28 * i + 1 ≤ 601024; omega) (by show 60000 + 2800 * i + 6 ≤ 7293034; omega) (Nat.le_of_ble_eq_true rfl) (fun v s1 n1 hx1 hq1 => ?_)
    have hmd1 := hq1.md hmd
    obtain ⟨rfl, q1, q2, -⟩ := hq1
    have hm := m_mark (G := G) (m := b + 74) (Or.inr rfl) (x := (xs (4 * i + 1))) (y := 1) (S := S) (un := un) (by omega) ok hM
    have hok := fun (σ9 : zH) (u9 : zUv) (w9 : Int32) => o_mark (G := G) (σ := σ9) (b := b) (hi := b + 109) (u' := u9) (w := w9) (Or.inr rfl) (x := (xs (4 * i + 1))) (y := 1) ok
    have hcl : (zk_node nt.length (xs (4 * i + 1))) < 2 ^ 31 := by unfold zk_node; repeat (first | split | decide)
    generalize (zk_node nt.length (xs (4 * i + 1))) = c at q1 q2 hm hok hcl ⊢
    generalize hP : (zPq (zmark nt (xs (4 * i + 1)).toNatClampNeg 1, lim, mem, wk, slow, r, L1, A, tk, sp, cs) ((nt.getD (xs (4 * i + 1)).toNatClampNeg zdf).2.2.1 11)) = P at q1 hm hok
    clear hP
    refine z_istore dL_law_1565 (by decide) ?_
    refine z_aload_n dL_law_1567 rfl ?_
    refine z_aload_n dL_law_1568 rfl ?_
    refine z_iload dL_law_1569 rfl ?_
    refine z_iconst (v := 1) dL_law_1571 (by decide) ?_
    refine z_iadd dL_law_1572 ?_
    rw [zadd1]
    refine z_sldn (by omega) hL dL_law_1573 ?_
    refine z_aload_n dL_law_1574 rfl ?_
    refine z_iload dL_law_1575 rfl ?_
    refine z_iconst (v := 2) dL_law_1577 (by decide) ?_
    refine z_iadd dL_law_1578 ?_
    rw [zadd2]
    refine z_sldn (by omega) hL dL_law_1579 ?_
    refine z_if_eq (tgt := 1587) dL_law_1580 (by decide) (fun q => absurd q (e2)) (fun _ => ?_)
    refine z_iconst (v := 1) dL_law_1583 (by decide) ?_
    refine z_goto (tgt := 1588) dL_law_1584 (by decide) ?_
    refine z_callV dL_law_1588 cv_L_193 (hm s1 n1 hmd1) rfl hmd1.1 rfl rfl ⟨(Nat.le_of_ble_eq_true rfl), (Nat.le_of_ble_eq_true rfl)⟩ (by show 400 + 28 * i + 1 + 0 ≤ 601024; omega) (by show 60000 + 2800 * i + 6 + 0 ≤ 7293034; omega) (Nat.le_of_ble_eq_true rfl) (fun v s2 n2 hx2 hq2 => ?_)
    obtain ⟨rfl, f2, S2, hmd2, ⟨w2, rfl⟩, ht, hb1, hb2⟩ := hq2
    refine z_istore dL_law_1591 (by decide) ?_
    refine z_aload_n dL_law_1593 rfl ?_
    refine z_callV dL_law_1594 cv_L_123 (c_thrown s2 _ hmd2) rfl hmd2.1 rfl rfl ⟨(Nat.le_of_ble_eq_true rfl), (Nat.le_of_ble_eq_true rfl)⟩ (by show 400 + 28 * i + 1 + 0 + 0 ≤ 601024; omega) (by show 60000 + 2800 * i + 6 + 0 + 0 ≤ 7293034; omega) (Nat.le_of_ble_eq_true rfl) (fun v s3 n3 hx3 hq3 => ?_)
    obtain ⟨rfl, f3, S3, hmd3, rfl, rfl⟩ := hq3
    have fr : zFr s1 s3 (b + 74) 34 := fun x q => (f3 x q).trans (f2 x q)
    refine z_iload dL_law_1597 rfl ?_
    refine z_icmp_eq (tgt := 1604) dL_law_1599 (by decide) (fun _ => ?_) (fun q => absurd (ht) q)
    refine z_iload dL_law_1604 rfl ?_
    by_cases c0 : c = 0
    · obtain ⟨u', w, hP, hT2, f4, hf4, hf0⟩ := q1 c0
      obtain ⟨hw, hun2⟩ := hb1 c0 u' w hP
      have ok2 := hok _ _ _ c0 hP hT2
      cases hw
      refine z_if_ne (tgt := 1628) dL_law_1606 (by decide) (fun q => absurd ((show nI c = 0 by rw [c0]; rfl)) q) (fun _ => ?_)
      refine z_aload_n dL_law_1609 rfl ?_
      refine z_iconst (v := 0) dL_law_1610 (by decide) ?_
      refine z_lald dL_law_1611 ((fr _ (by omega)).trans hf4) zin01 ?_
      rw [show (0 : Int32).toNatClampNeg = 0 by decide, hf0]
      refine z_iload dL_law_1612 rfl ?_
      by_cases ew : w2 = 0
      · refine z_if_eq (tgt := 1621) dL_law_1614 (by decide) (fun _ => ?_) (fun q => absurd (ew) q)
        refine z_lconst (v := 0) dL_law_1621 (by decide) ?_
        rw [show zbl w2 = 0 from if_pos ew]
        refine z_lcmp dL_law_1622 (zcmp_self _) ?_
        refine z_if_eq (tgt := 1628) dL_law_1623 (by decide) (fun _ => ?_) (fun q => absurd (rfl) q)
        refine z_goto (tgt := 2299) dL_law_1628 (by decide) ?_
        refine z_widen (ca' := 400 + 28 * (i + 1)) (sl' := 60000 + 2800 * (i + 1)) (by show 400 + 28 * i + 1 + 0 + 0 ≤ _; omega) (by show 60000 + 2800 * i + 6 + 0 + 0 ≤ _; omega) ?_
        exact kk _ _ _ _ _ _ (zLI_ok (hT2.frm fr) hmd3 hun2 ok2 hun ((fr _ (by omega)).trans hf4) (by omega))
      · refine z_if_eq (tgt := 1621) dL_law_1614 (by decide) (fun q => absurd q (ew)) (fun _ => ?_)
        refine z_lconst (v := 1) dL_law_1617 (by decide) ?_
        refine z_goto (tgt := 1622) dL_law_1618 (by decide) ?_
        rw [show zbl w2 = 1 from if_neg ew]
        refine z_lcmp dL_law_1622 (zcmp_self _) ?_
        refine z_if_eq (tgt := 1628) dL_law_1623 (by decide) (fun _ => ?_) (fun q => absurd (rfl) q)
        refine z_goto (tgt := 2299) dL_law_1628 (by decide) ?_
        refine z_widen (ca' := 400 + 28 * (i + 1)) (sl' := 60000 + 2800 * (i + 1)) (by show 400 + 28 * i + 1 + 0 + 0 ≤ _; omega) (by show 60000 + 2800 * i + 6 + 0 + 0 ≤ _; omega) ?_
        exact kk _ _ _ _ _ _ (zLI_ok (hT2.frm fr) hmd3 hun2 ok2 hun ((fr _ (by omega)).trans hf4) (by omega))
    · obtain ⟨hT2, f4, hf4⟩ := q2 c0
      have hM2 := hb2 c0
      refine z_if_ne (tgt := 1628) dL_law_1606 (by decide) (fun _ => ?_) (fun q => absurd q ((fun w => c0 ((nI_eq (a := c) (b := 0) hcl (by decide)).mp w))))
      refine z_goto (tgt := 2299) dL_law_1628 (by decide) ?_
      refine z_widen (ca' := 400 + 28 * (i + 1)) (sl' := 60000 + 2800 * (i + 1)) (by show 400 + 28 * i + 1 + 0 + 0 ≤ _; omega) (by show 60000 + 2800 * i + 6 + 0 + 0 ≤ _; omega) ?_
      exact kk _ _ _ _ _ _ (zLI_ok (hT2.frm fr) hmd3 ⟨un, by omega, hM2⟩ ok hun ((fr _ (by omega)).trans hf4) (by omega))
end
