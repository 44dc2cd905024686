/-! the law: its cases, 6 -/
section
variable {G : zG} {a b L i nx : Nat} {xs : Nat → Int32} {σ : zH} {x5 x6 x7 x8 : Option Value}
set_option maxRecDepth 100000 in
set_option maxHeartbeats 1000000 in
theorem law_22 (hG : zKap G) (hL : L ≤ 2048) (hi : 4 * i + 4 ≤ L) (hI : zLI G σ nx b i) (kk : zKont G a b L xs i) : zWP G kL_law (zSc a L xs (zLF a)) 1631 (zLls a b i x5 x6 x7 x8) [] σ nx (400 + 28 * i) (60000 + 2800 * i) := by
  obtain ⟨⟨nt, lim, mem, wk, slow, r, L1, A, tk, sp, cs⟩, un, S, f, hT, hmd, hM, ok, hun, ho, hnx⟩ := hI
  refine z_aload_n dL_law_1631 rfl ?_
  refine z_aload_n dL_law_1632 rfl ?_
  refine z_iload dL_law_1633 rfl ?_
  refine z_iconst (v := 1) dL_law_1635 (by decide) ?_
  refine z_iadd dL_law_1636 ?_
  rw [zadd1]
  refine z_sldn (by omega) hL dL_law_1637 ?_
  refine z_aload_n dL_law_1638 rfl ?_
  refine z_callH dL_law_1639 ch_L_194 (w_isCached (b := b) (hi := b + 109) (o := b + 108) hG hnx ok hT ho (by omega) (by omega)) rfl rfl ⟨(Nat.le_of_ble_eq_true rfl), (Nat.le_of_ble_eq_true rfl)⟩ (by show 400 + 28 * i + 1 ≤ 601024; omega) (by show 60000 + 2800 * i + 6 ≤ 7293034; omega) (Nat.le_of_ble_eq_true rfl) (fun v s1 n1 hx1 hq1 => ?_)
  have hmd1 := hq1.md hmd
  obtain ⟨rfl, q1, q2, -⟩ := hq1
  have hm := m_isCached (G := G) (m := b + 74) (x := (xs (4 * i + 1))) (S := S) (un := un) (by omega) ok hM
  have hok := fun (σ9 : zH) (u9 : zUv) (w9 : Int32) => o_isCached (G := G) (σ := σ9) (b := b) (hi := b + 109) (u' := u9) (w := w9) (x := (xs (4 * i + 1))) ok
  have hcl : (zk_node nt.length (xs (4 * i + 1))) < 2 ^ 31 := by unfold zk_node; repeat (first | split | decide)
  generalize (zk_node nt.length (xs (4 * i + 1))) = c at q1 q2 hm hok hcl ⊢
  generalize hP : (zPq (nt, lim, mem, wk, slow, r, L1, A, tk, sp, cs) (if zcd L1 (xs (4 * i + 1)).toNatClampNeg = true then 1 else 0)) = P at q1 hm hok
  clear hP
  refine z_istore dL_law_1642 (by decide) ?_
  refine z_aload_n dL_law_1644 rfl ?_
  refine z_aload_n dL_law_1645 rfl ?_
  refine z_iload dL_law_1646 rfl ?_
  refine z_iconst (v := 1) dL_law_1648 (by decide) ?_
  refine z_iadd dL_law_1649 ?_
  rw [zadd1]
  refine z_sldn (by omega) hL dL_law_1650 ?_
  refine z_callV dL_law_1651 cv_L_196 (hm s1 n1 hmd1) rfl hmd1.1 rfl rfl ⟨(Nat.le_of_ble_eq_true rfl), (Nat.le_of_ble_eq_true rfl)⟩ (by show 400 + 28 * i + 1 + 0 ≤ 601024; omega) (by show 60000 + 2800 * i + 6 + 0 ≤ 7293034; omega) (Nat.le_of_ble_eq_true rfl) (fun v s2 n2 hx2 hq2 => ?_)
  obtain ⟨rfl, f2, S2, hmd2, ⟨w2, rfl⟩, ht, hb1, hb2⟩ := hq2
  refine z_istore dL_law_1654 (by decide) ?_
  refine z_aload_n dL_law_1656 rfl ?_
  refine z_callV dL_law_1657 cv_L_123 (c_thrown s2 _ hmd2) rfl hmd2.1 rfl rfl ⟨(Nat.le_of_ble_eq_true rfl), (Nat.le_of_ble_eq_true rfl)⟩ (by show 400 + 28 * i + 1 + 0 + 0 ≤ 601024; omega) (by show 60000 + 2800 * i + 6 + 0 + 0 ≤ 7293034; omega) (Nat.le_of_ble_eq_true rfl) (fun v s3 n3 hx3 hq3 => ?_)
  obtain ⟨rfl, f3, S3, hmd3, rfl, rfl⟩ := hq3
  have fr : zFr s1 s3 (b + 74) 34 := fun x q => (f3 x q).trans (f2 x q)
  refine z_iload dL_law_1660 rfl ?_
  refine z_icmp_eq (tgt := 1667) dL_law_1662 (by decide) (fun _ => ?_) (fun q => absurd (ht) q)
  refine z_iload dL_law_1667 rfl ?_
  by_cases c0 : c = 0
  · obtain ⟨u', w, hP, hT2, f4, hf4, hf0⟩ := q1 c0
    obtain ⟨hw, hun2⟩ := hb1 c0 u' w hP
    have ok2 := hok _ _ _ c0 hP hT2
    cases hw
    refine z_if_ne (tgt := 1691) dL_law_1669 (by decide) (fun q => absurd ((show nI c = 0 by rw [c0]; rfl)) q) (fun _ => ?_)
    refine z_aload_n dL_law_1672 rfl ?_
    refine z_iconst (v := 0) dL_law_1673 (by decide) ?_
    refine z_lald dL_law_1674 ((fr _ (by omega)).trans hf4) zin01 ?_
    rw [show (0 : Int32).toNatClampNeg = 0 by decide, hf0]
    refine z_iload dL_law_1675 rfl ?_
    by_cases ew : w2 = 0
    · refine z_if_eq (tgt := 1684) dL_law_1677 (by decide) (fun _ => ?_) (fun q => absurd (ew) q)
      refine z_lconst (v := 0) dL_law_1684 (by decide) ?_
      rw [show zbl w2 = 0 from if_pos ew]
      refine z_lcmp dL_law_1685 (zcmp_self _) ?_
      refine z_if_eq (tgt := 1691) dL_law_1686 (by decide) (fun _ => ?_) (fun q => absurd (rfl) q)
      refine z_goto (tgt := 2299) dL_law_1691 (by decide) ?_
      refine z_widen (ca' := 400 + 28 * (i + 1)) (sl' := 60000 + 2800 * (i + 1)) (by show 400 + 28 * i + 1 + 0 + 0 ≤ _; omega) (by show 60000 + 2800 * i + 6 + 0 + 0 ≤ _; omega) ?_
      exact kk _ _ _ _ _ _ (zLI_ok (hT2.frm fr) hmd3 hun2 ok2 hun ((fr _ (by omega)).trans hf4) (by omega))
    · refine z_if_eq (tgt := 1684) dL_law_1677 (by decide) (fun q => absurd q (ew)) (fun _ => ?_)
      refine z_lconst (v := 1) dL_law_1680 (by decide) ?_
      refine z_goto (tgt := 1685) dL_law_1681 (by decide) ?_
      rw [show zbl w2 = 1 from if_neg ew]
      refine z_lcmp dL_law_1685 (zcmp_self _) ?_
      refine z_if_eq (tgt := 1691) dL_law_1686 (by decide) (fun _ => ?_) (fun q => absurd (rfl) q)
      refine z_goto (tgt := 2299) dL_law_1691 (by decide) ?_
      refine z_widen (ca' := 400 + 28 * (i + 1)) (sl' := 60000 + 2800 * (i + 1)) (by show 400 + 28 * i + 1 + 0 + 0 ≤ _; omega) (by show 60000 + 2800 * i + 6 + 0 + 0 ≤ _; omega) ?_
      exact kk _ _ _ _ _ _ (zLI_ok (hT2.frm fr) hmd3 hun2 ok2 hun ((fr _ (by omega)).trans hf4) (by omega))
  · obtain ⟨hT2, f4, hf4⟩ := q2 c0
    have hM2 := hb2 c0
    refine z_if_ne (tgt := 1691) dL_law_1669 (by decide) (fun _ => ?_) (fun q => absurd q ((fun w => c0 ((nI_eq (a := c) (b := 0) hcl (by decide)).mp w))))
    refine z_goto (tgt := 2299) dL_law_1691 (by decide) ?_
    refine z_widen (ca' := 400 + 28 * (i + 1)) (sl' := 60000 + 2800 * (i + 1)) (by show 400 + 28 * i + 1 + 0 + 0 ≤ _; omega) (by show 60000 + 2800 * i + 6 + 0 + 0 ≤ _; omega) ?_
    exact kk _ _ _ _ _ _ (zLI_ok (hT2.frm fr) hmd3 ⟨un, by omega, hM2⟩ ok hun ((fr _ (by omega)).trans hf4) (by omega))
set_option maxRecDepth 100000 in
set_option maxHeartbeats 1000000 in
theorem law_23 (hG : zKap G) (hL : L ≤ 2048) (hi : 4 * i + 4 ≤ L) (hI : zLI G σ nx b i) (kk : zKont G a b L xs i) : zWP G kL_law (zSc a L xs (zLF a)) 1694 (zLls a b i x5 x6 x7 x8) [] σ nx (400 + 28 * i) (60000 + 2800 * i) := by
  obtain ⟨⟨nt, lim, mem, wk, slow, r, L1, A, tk, sp, cs⟩, un, S, f, hT, hmd, hM, ok, hun, ho, hnx⟩ := hI
  refine z_aload_n dL_law_1694 rfl ?_
  refine z_aload_n dL_law_1695 rfl ?_
  refine z_iload dL_law_1696 rfl ?_
  refine z_iconst (v := 1) dL_law_1698 (by decide) ?_
  refine z_iadd dL_law_1699 ?_
  rw [zadd1]
  refine z_sldn (by omega) hL dL_law_1700 ?_
  refine z_aload_n dL_law_1701 rfl ?_
  refine z_callH dL_law_1702 ch_L_197 (w_stages (b := b) (hi := b + 109) (o := b + 108) hG hnx ok hT ho (by omega) (by omega)) rfl rfl ⟨(Nat.le_of_ble_eq_true rfl), (Nat.le_of_ble_eq_true rfl)⟩ (by show 400 + 28 * i + 1 ≤ 601024; omega) (by show 60000 + 2800 * i + 6 ≤ 7293034; omega) (Nat.le_of_ble_eq_true rfl) (fun v s1 n1 hx1 hq1 => ?_)
  have hmd1 := hq1.md hmd
  obtain ⟨rfl, q1, q2, -⟩ := hq1
  have hm := m_stages (G := G) (m := b + 74) (x := (xs (4 * i + 1))) (S := S) (un := un) (by omega) ok hM
  have hok := fun (σ9 : zH) (u9 : zUv) (w9 : Int32) => o_stages (G := G) (σ := σ9) (b := b) (hi := b + 109) (u' := u9) (w := w9) (x := (xs (4 * i + 1))) ok
  have hcl : (zk_node nt.length (xs (4 * i + 1))) < 2 ^ 31 := by unfold zk_node; repeat (first | split | decide)
  generalize (zk_node nt.length (xs (4 * i + 1))) = c at q1 q2 hm hok hcl ⊢
  generalize hP : (zPq (nt, lim, mem, wk, slow, r, L1, A, tk, sp, cs) (nI (zcn (zdraw lim nt (zcd L1) (xs (4 * i + 1)).toNatClampNeg).2.1 14))) = P at q1 hm hok
  clear hP
  refine z_istore dL_law_1705 (by decide) ?_
  refine z_aload_n dL_law_1707 rfl ?_
  refine z_aload_n dL_law_1708 rfl ?_
  refine z_iload dL_law_1709 rfl ?_
  refine z_iconst (v := 1) dL_law_1711 (by decide) ?_
  refine z_iadd dL_law_1712 ?_
  rw [zadd1]
  refine z_sldn (by omega) hL dL_law_1713 ?_
  refine z_callV dL_law_1714 cv_L_199 (hm s1 n1 hmd1) rfl hmd1.1 rfl rfl ⟨(Nat.le_of_ble_eq_true rfl), (Nat.le_of_ble_eq_true rfl)⟩ (by show 400 + 28 * i + 1 + 0 ≤ 601024; omega) (by show 60000 + 2800 * i + 6 + 0 ≤ 7293034; omega) (Nat.le_of_ble_eq_true rfl) (fun v s2 n2 hx2 hq2 => ?_)
  obtain ⟨rfl, f2, S2, hmd2, ⟨w2, rfl⟩, ht, hb1, hb2⟩ := hq2
  refine z_istore dL_law_1717 (by decide) ?_
  refine z_aload_n dL_law_1719 rfl ?_
  refine z_callV dL_law_1720 cv_L_123 (c_thrown s2 _ hmd2) rfl hmd2.1 rfl rfl ⟨(Nat.le_of_ble_eq_true rfl), (Nat.le_of_ble_eq_true rfl)⟩ (by show 400 + 28 * i + 1 + 0 + 0 ≤ 601024; omega) (by show 60000 + 2800 * i + 6 + 0 + 0 ≤ 7293034; omega) (Nat.le_of_ble_eq_true rfl) (fun v s3 n3 hx3 hq3 => ?_)
  obtain ⟨rfl, f3, S3, hmd3, rfl, rfl⟩ := hq3
  have fr : zFr s1 s3 (b + 74) 34 := fun x q => (f3 x q).trans (f2 x q)
  refine z_iload dL_law_1723 rfl ?_
  refine z_icmp_eq (tgt := 1730) dL_law_1725 (by decide) (fun _ => ?_) (fun q => absurd (ht) q)
  refine z_iload dL_law_1730 rfl ?_
  by_cases c0 : c = 0
  · obtain ⟨u', w, hP, hT2, f4, hf4, hf0⟩ := q1 c0
    obtain ⟨hw, hun2⟩ := hb1 c0 u' w hP
    have ok2 := hok _ _ _ c0 hP hT2
    cases hw
    refine z_if_ne (tgt := 1747) dL_law_1732 (by decide) (fun q => absurd ((show nI c = 0 by rw [c0]; rfl)) q) (fun _ => ?_)
    refine z_aload_n dL_law_1735 rfl ?_
    refine z_iconst (v := 0) dL_law_1736 (by decide) ?_
    refine z_lald dL_law_1737 ((fr _ (by omega)).trans hf4) zin01 ?_
    rw [show (0 : Int32).toNatClampNeg = 0 by decide, hf0]
    refine z_iload dL_law_1738 rfl ?_
    refine z_i2l dL_law_1740 ?_
    refine z_lcmp dL_law_1741 (zcmp_self _) ?_
    refine z_if_eq (tgt := 1747) dL_law_1742 (by decide) (fun _ => ?_) (fun q => absurd (rfl) q)
    refine z_goto (tgt := 2299) dL_law_1747 (by decide) ?_
    refine z_widen (ca' := 400 + 28 * (i + 1)) (sl' := 60000 + 2800 * (i + 1)) (by show 400 + 28 * i + 1 + 0 + 0 ≤ _; omega) (by show 60000 + 2800 * i + 6 + 0 + 0 ≤ _; omega) ?_
    exact kk _ _ _ _ _ _ (zLI_ok (hT2.frm fr) hmd3 hun2 ok2 hun ((fr _ (by omega)).trans hf4) (by omega))
  · obtain ⟨hT2, f4, hf4⟩ := q2 c0
    have hM2 := hb2 c0
    refine z_if_ne (tgt := 1747) dL_law_1732 (by decide) (fun _ => ?_) (fun q => absurd q ((fun w => c0 ((nI_eq (a := c) (b := 0) hcl (by decide)).mp w))))
    refine z_goto (tgt := 2299) dL_law_1747 (by decide) ?_
    refine z_widen (ca' := 400 + 28 * (i + 1)) (sl' := 60000 + 2800 * (i + 1)) (by show 400 + 28 * i + 1 + 0 + 0 ≤ _; omega) (by show 60000 + 2800 * i + 6 + 0 + 0 ≤ _; omega) ?_
    exact kk _ _ _ _ _ _ (zLI_ok (hT2.frm fr) hmd3 ⟨un, by omega, hM2⟩ ok hun ((fr _ (by omega)).trans hf4) (by omega))
set_option maxRecDepth 100000 in
set_option maxHeartbeats 1000000 in
theorem law_24 (hG : zKap G) (hL : L ≤ 2048) (hi : 4 * i + 4 ≤ L) (hI : zLI G σ nx b i) (kk : zKont G a b L xs i) : zWP G kL_law (zSc a L xs (zLF a)) 1750 (zLls a b i x5 x6 x7 x8) [] σ nx (400 + 28 * i) (60000 + 2800 * i) := by
  obtain ⟨⟨nt, lim, mem, wk, slow, r, L1, A, tk, sp, cs⟩, un, S, f, hT, hmd, hM, ok, hun, ho, hnx⟩ := hI
  refine z_aload_n dL_law_1750 rfl ?_
  refine z_aload_n dL_law_1751 rfl ?_
  refine z_iload dL_law_1752 rfl ?_
  refine z_iconst (v := 1) dL_law_1754 (by decide) ?_
  refine z_iadd dL_law_1755 ?_
  rw [zadd1]
  refine z_sldn (by omega) hL dL_law_1756 ?_
  refine z_aload_n dL_law_1757 rfl ?_
  refine z_iload dL_law_1758 rfl ?_
  refine z_iconst (v := 2) dL_law_1760 (by decide) ?_
  refine z_iadd dL_law_1761 ?_
  rw [zadd2]
  refine z_sldn (by omega) hL dL_law_1762 ?_
  refine z_aload_n dL_law_1763 rfl ?_
  refine z_callH dL_law_1764 ch_L_200 (w_outputOf (b := b) (hi := b + 109) (o := b + 108) hG hnx ok hT ho (by omega) (by omega)) rfl rfl ⟨(Nat.le_of_ble_eq_true rfl), (Nat.le_of_ble_eq_true rfl)⟩ (by show 400 + 28 * i + 2 ≤ 601024; omega) (by show 60000 + 2800 * i + 12 ≤ 7293034; omega) (Nat.le_of_ble_eq_true rfl) (fun v s1 n1 hx1 hq1 => ?_)
  have hmd1 := hq1.md hmd
  obtain ⟨rfl, q1, q2, -⟩ := hq1
  have hm := m_outputOf (G := G) (m := b + 74) (x := (xs (4 * i + 1))) (y := (xs (4 * i + 2))) (S := S) (un := un) (by omega) ok hM
  have hok := fun (σ9 : zH) (u9 : zUv) (w9 : Int32) => o_outputOf (G := G) (σ := σ9) (b := b) (hi := b + 109) (u' := u9) (w := w9) (x := (xs (4 * i + 1))) (y := (xs (4 * i + 2))) ok
  have hcl : (zk_out lim nt (zcd L1) (xs (4 * i + 1)) (xs (4 * i + 2))) < 2 ^ 31 := by unfold zk_out; repeat (first | split | decide)
  generalize (zk_out lim nt (zcd L1) (xs (4 * i + 1)) (xs (4 * i + 2))) = c at q1 q2 hm hok hcl ⊢
  generalize hP : (zPq (nt, lim, mem, wk, slow, r, L1, A, tk, sp, cs) (nI (znu (zdraw lim nt (zcd L1) (xs (4 * i + 1)).toNatClampNeg).2.1 (xs (4 * i + 2)).toNatClampNeg))) = P at q1 hm hok
  clear hP
  refine z_istore dL_law_1767 (by decide) ?_
  refine z_aload_n dL_law_1769 rfl ?_
  refine z_aload_n dL_law_1770 rfl ?_
  refine z_iload dL_law_1771 rfl ?_
  refine z_iconst (v := 1) dL_law_1773 (by decide) ?_
  refine z_iadd dL_law_1774 ?_
  rw [zadd1]
  refine z_sldn (by omega) hL dL_law_1775 ?_
  refine z_aload_n dL_law_1776 rfl ?_
  refine z_iload dL_law_1777 rfl ?_
  refine z_iconst (v := 2) dL_law_1779 (by decide) ?_
  refine z_iadd dL_law_1780 ?_
  rw [zadd2]
  refine z_sldn (by omega) hL dL_law_1781 ?_
  refine z_callV dL_law_1782 cv_L_202 (hm s1 n1 hmd1) rfl hmd1.1 rfl rfl ⟨(Nat.le_of_ble_eq_true rfl), (Nat.le_of_ble_eq_true rfl)⟩ (by show 400 + 28 * i + 2 + 0 ≤ 601024; omega) (by show 60000 + 2800 * i + 12 + 0 ≤ 7293034; omega) (Nat.le_of_ble_eq_true rfl) (fun v s2 n2 hx2 hq2 => ?_)
  obtain ⟨rfl, f2, S2, hmd2, ⟨w2, rfl⟩, ht, hb1, hb2⟩ := hq2
  refine z_istore dL_law_1785 (by decide) ?_
  refine z_aload_n dL_law_1787 rfl ?_
  refine z_callV dL_law_1788 cv_L_123 (c_thrown s2 _ hmd2) rfl hmd2.1 rfl rfl ⟨(Nat.le_of_ble_eq_true rfl), (Nat.le_of_ble_eq_true rfl)⟩ (by show 400 + 28 * i + 2 + 0 + 0 ≤ 601024; omega) (by show 60000 + 2800 * i + 12 + 0 + 0 ≤ 7293034; omega) (Nat.le_of_ble_eq_true rfl) (fun v s3 n3 hx3 hq3 => ?_)
  obtain ⟨rfl, f3, S3, hmd3, rfl, rfl⟩ := hq3
  have fr : zFr s1 s3 (b + 74) 34 := fun x q => (f3 x q).trans (f2 x q)
  refine z_iload dL_law_1791 rfl ?_
  refine z_icmp_eq (tgt := 1798) dL_law_1793 (by decide) (fun _ => ?_) (fun q => absurd (ht) q)
  refine z_iload dL_law_1798 rfl ?_
  by_cases c0 : c = 0
  · obtain ⟨u', w, hP, hT2, f4, hf4, hf0⟩ := q1 c0
    obtain ⟨hw, hun2⟩ := hb1 c0 u' w hP
    have ok2 := hok _ _ _ c0 hP hT2
    cases hw
    refine z_if_ne (tgt := 1815) dL_law_1800 (by decide) (fun q => absurd ((show nI c = 0 by rw [c0]; rfl)) q) (fun _ => ?_)
    refine z_aload_n dL_law_1803 rfl ?_
    refine z_iconst (v := 0) dL_law_1804 (by decide) ?_
    refine z_lald dL_law_1805 ((fr _ (by omega)).trans hf4) zin01 ?_
    rw [show (0 : Int32).toNatClampNeg = 0 by decide, hf0]
    refine z_iload dL_law_1806 rfl ?_
    refine z_i2l dL_law_1808 ?_
    refine z_lcmp dL_law_1809 (zcmp_self _) ?_
    refine z_if_eq (tgt := 1815) dL_law_1810 (by decide) (fun _ => ?_) (fun q => absurd (rfl) q)
    refine z_goto (tgt := 2299) dL_law_1815 (by decide) ?_
    refine z_widen (ca' := 400 + 28 * (i + 1)) (sl' := 60000 + 2800 * (i + 1)) (by show 400 + 28 * i + 2 + 0 + 0 ≤ _; omega) (by show 60000 + 2800 * i + 12 + 0 + 0 ≤ _; omega) ?_
    exact kk _ _ _ _ _ _ (zLI_ok (hT2.frm fr) hmd3 hun2 ok2 hun ((fr _ (by omega)).trans hf4) (by omega))
  · obtain ⟨hT2, f4, hf4⟩ := q2 c0
    have hM2 := hb2 c0
    refine z_if_ne (tgt := 1815) dL_law_1800 (by decide) (fun _ => ?_) (fun q => absurd q ((fun w => c0 ((nI_eq (a := c) (b := 0) hcl (by decide)).mp w))))
    refine z_goto (tgt := 2299) dL_law_1815 (by decide) ?_
    refine z_widen (ca' := 400 + 28 * (i + 1)) (sl' := 60000 + 2800 * (i + 1)) (by show 400 + 28 * i + 2 + 0 + 0 ≤ _; omega) (by show 60000 + 2800 * i + 12 + 0 + 0 ≤ _; omega) ?_
    exact kk _ _ _ _ _ _ (zLI_ok (hT2.frm fr) hmd3 ⟨un, by omega, hM2⟩ ok hun ((fr _ (by omega)).trans hf4) (by omega))
set_option maxRecDepth 100000 in
set_option maxHeartbeats 1000000 in
theorem law_25 (hG : zKap G) (hL : L ≤ 2048) (hi : 4 * i + 4 ≤ L) (hI : zLI G σ nx b i) (kk : zKont G a b L xs i) : zWP G kL_law (zSc a L xs (zLF a)) 1818 (zLls a b i x5 x6 x7 x8) [] σ nx (400 + 28 * i) (60000 + 2800 * i) := by
  obtain ⟨⟨nt, lim, mem, wk, slow, r, L1, A, tk, sp, cs⟩, un, S, f, hT, hmd, hM, ok, hun, ho, hnx⟩ := hI
  refine z_aload_n dL_law_1818 rfl ?_
  refine z_aload_n dL_law_1819 rfl ?_
  refine z_iload dL_law_1820 rfl ?_
  refine z_iconst (v := 1) dL_law_1822 (by decide) ?_
  refine z_iadd dL_law_1823 ?_
  rw [zadd1]
  refine z_sldn (by omega) hL dL_law_1824 ?_
  refine z_aload_n dL_law_1825 rfl ?_
  refine z_callH dL_law_1826 ch_L_203 (w_run (b := b) (hi := b + 109) (o := b + 108) hG hnx ok hT ho (by omega) (by omega)) rfl rfl ⟨(Nat.le_of_ble_eq_true rfl), (Nat.le_of_ble_eq_true rfl)⟩ (by show 400 + 28 * i + 1 ≤ 601024; omega) (by show 60000 + 2800 * i + 6 ≤ 7293034; omega) (Nat.le_of_ble_eq_true rfl) (fun v s1 n1 hx1 hq1 => ?_)
  have hmd1 := hq1.md hmd
  obtain ⟨rfl, q1, q2, -⟩ := hq1
  have hm := m_run (G := G) (m := b + 74) (x := (xs (4 * i + 1))) (S := S) (un := un) (by omega) ok hM
  have hok := fun (σ9 : zH) (u9 : zUv) (w9 : Int32) => o_run (G := G) (σ := σ9) (b := b) (hi := b + 109) (u' := u9) (w := w9) (x := (xs (4 * i + 1))) ok
  have hcl : (zk_node nt.length (xs (4 * i + 1))) < 2 ^ 31 := by unfold zk_node; repeat (first | split | decide)
  generalize (zk_node nt.length (xs (4 * i + 1))) = c at q1 q2 hm hok hcl ⊢
  generalize hP : (zPq (nt, lim, mem, wk, slow, r, zren2 lim nt (zdraw lim nt (zcd L1) (xs (4 * i + 1)).toNatClampNeg).2.2 r (zren1 (zdraw lim nt (zcd L1) (xs (4 * i + 1)).toNatClampNeg).1 L1 14) 14, (zrn lim nt (zcd L1) mem slow wk (zdraw lim nt (zcd L1) (xs (4 * i + 1)).toNatClampNeg).2.1 14).2.1, (zrn lim nt (zcd L1) mem slow wk (zdraw lim nt (zcd L1) (xs (4 * i + 1)).toNatClampNeg).2.1 14).1, (zrn lim nt (zcd L1) mem slow wk (zdraw lim nt (zcd L1) (xs (4 * i + 1)).toNatClampNeg).2.1 14).2.2, wk) (nI (zrn lim nt (zcd L1) mem slow wk (zdraw lim nt (zcd L1) (xs (4 * i + 1)).toNatClampNeg).2.1 14).1)) = P at q1 hm hok
  clear hP
  refine z_istore dL_law_1829 (by decide) ?_
  refine z_aload_n dL_law_1831 rfl ?_
  refine z_aload_n dL_law_1832 rfl ?_
  refine z_iload dL_law_1833 rfl ?_
  refine z_iconst (v := 1) dL_law_1835 (by decide) ?_
  refine z_iadd dL_law_1836 ?_
  rw [zadd1]
  refine z_sldn (by omega) hL dL_law_1837 ?_
  refine z_callV dL_law_1838 cv_L_205 (hm s1 n1 hmd1) rfl hmd1.1 rfl rfl ⟨(Nat.le_of_ble_eq_true rfl), (Nat.le_of_ble_eq_true rfl)⟩ (by show 400 + 28 * i + 1 + 0 ≤ 601024; omega) (by show 60000 + 2800 * i + 6 + 0 ≤ 7293034; omega) (Nat.le_of_ble_eq_true rfl) (fun v s2 n2 hx2 hq2 => ?_)
  obtain ⟨rfl, f2, S2, hmd2, ⟨w2, rfl⟩, ht, hb1, hb2⟩ := hq2
  refine z_istore dL_law_1841 (by decide) ?_
  refine z_aload_n dL_law_1843 rfl ?_
  refine z_callV dL_law_1844 cv_L_123 (c_thrown s2 _ hmd2) rfl hmd2.1 rfl rfl ⟨(Nat.le_of_ble_eq_true rfl), (Nat.le_of_ble_eq_true rfl)⟩ (by show 400 + 28 * i + 1 + 0 + 0 ≤ 601024; omega) (by show 60000 + 2800 * i + 6 + 0 + 0 ≤ 7293034; omega) (Nat.le_of_ble_eq_true rfl) (fun v s3 n3 hx3 hq3 => ?_)
  obtain ⟨rfl, f3, S3, hmd3, rfl, rfl⟩ := hq3
  have fr : zFr s1 s3 (b + 74) 34 := fun x q => (f3 x q).trans (f2 x q)
  refine z_iload dL_law_1847 rfl ?_
  refine z_icmp_eq (tgt := 1854) dL_law_1849 (by decide) (fun _ => ?_) (fun q => absurd (ht) q)
  refine z_iload dL_law_1854 rfl ?_
  by_cases c0 : c = 0
  · obtain ⟨u', w, hP, hT2, f4, hf4, hf0⟩ := q1 c0
    obtain ⟨hw, hun2⟩ := hb1 c0 u' w hP
    have ok2 := hok _ _ _ c0 hP hT2
    cases hw
    refine z_if_ne (tgt := 1871) dL_law_1856 (by decide) (fun q => absurd ((show nI c = 0 by rw [c0]; rfl)) q) (fun _ => ?_)
    refine z_aload_n dL_law_1859 rfl ?_
    refine z_iconst (v := 0) dL_law_1860 (by decide) ?_
    refine z_lald dL_law_1861 ((fr _ (by omega)).trans hf4) zin01 ?_
    rw [show (0 : Int32).toNatClampNeg = 0 by decide, hf0]
    refine z_iload dL_law_1862 rfl ?_
    refine z_i2l dL_law_1864 ?_
    refine z_lcmp dL_law_1865 (zcmp_self _) ?_
    refine z_if_eq (tgt := 1871) dL_law_1866 (by decide) (fun _ => ?_) (fun q => absurd (rfl) q)
    refine z_goto (tgt := 2299) dL_law_1871 (by decide) ?_
    refine z_widen (ca' := 400 + 28 * (i + 1)) (sl' := 60000 + 2800 * (i + 1)) (by show 400 + 28 * i + 1 + 0 + 0 ≤ _; omega) (by show 60000 + 2800 * i + 6 + 0 + 0 ≤ _; omega) ?_
    exact kk _ _ _ _ _ _ (zLI_ok (hT2.frm fr) hmd3 hun2 ok2 hun ((fr _ (by omega)).trans hf4) (by omega))
  · obtain ⟨hT2, f4, hf4⟩ := q2 c0
    have hM2 := hb2 c0
    refine z_if_ne (tgt := 1871) dL_law_1856 (by decide) (fun _ => ?_) (fun q => absurd q ((fun w => c0 ((nI_eq (a := c) (b := 0) hcl (by decide)).mp w))))
    refine z_goto (tgt := 2299) dL_law_1871 (by decide) ?_
    refine z_widen (ca' := 400 + 28 * (i + 1)) (sl' := 60000 + 2800 * (i + 1)) (by show 400 + 28 * i + 1 + 0 + 0 ≤ _; omega) (by show 60000 + 2800 * i + 6 + 0 + 0 ≤ _; omega) ?_
    exact kk _ _ _ _ _ _ (zLI_ok (hT2.frm fr) hmd3 ⟨un, by omega, hM2⟩ ok hun ((fr _ (by omega)).trans hf4) (by omega))
set_option maxRecDepth 100000 in
set_option maxHeartbeats 1000000 in
theorem law_26 (hG : zKap G) (hL : L ≤ 2048) (hi : 4 * i + 4 ≤ L) (hI : zLI G σ nx b i) (kk : zKont G a b L xs i) : zWP G kL_law (zSc a L xs (zLF a)) 1874 (zLls a b i x5 x6 x7 x8) [] σ nx (400 + 28 * i) (60000 + 2800 * i) := by
  obtain ⟨⟨nt, lim, mem, wk, slow, r, L1, A, tk, sp, cs⟩, un, S, f, hT, hmd, hM, ok, hun, ho, hnx⟩ := hI
  refine z_aload_n dL_law_1874 rfl ?_
  refine z_callV dL_law_1875 cv_L_206 (c_ticks hT) rfl hT.1 rfl rfl ⟨(Nat.le_of_ble_eq_true rfl), (Nat.le_of_ble_eq_true rfl)⟩ (by show 400 + 28 * i + 0 ≤ 601024; omega) (by show 60000 + 2800 * i + 0 ≤ 7293034; omega) (Nat.le_of_ble_eq_true rfl) (fun v s1 n1 hx1 hq1 => ?_)
  obtain ⟨rfl, rfl, rfl⟩ := hq1
  refine z_aload_n dL_law_1878 rfl ?_
  refine z_callV dL_law_1879 cv_L_209 (c_q_ticks (m := b + 74) hM s1 n1 hmd) rfl hmd.1 rfl rfl ⟨(Nat.le_of_ble_eq_true rfl), (Nat.le_of_ble_eq_true rfl)⟩ (by show 400 + 28 * i + 0 + 0 ≤ 601024; omega) (by show 60000 + 2800 * i + 0 + 0 ≤ 7293034; omega) (Nat.le_of_ble_eq_true rfl) (fun v s2 n2 hx2 hq2 => ?_)
  obtain ⟨rfl, fr, S2, hmd2, -, -, hb1, -⟩ := hq2
  obtain ⟨rfl, hM2⟩ := hb1 rfl
  refine z_icmp_eq (tgt := 2299) dL_law_1882 (by decide) (fun _ => ?_) (fun q => absurd (rfl) q)
  refine z_widen (ca' := 400 + 28 * (i + 1)) (sl' := 60000 + 2800 * (i + 1)) (by show 400 + 28 * i + 0 + 0 ≤ _; omega) (by show 60000 + 2800 * i + 0 + 0 ≤ _; omega) ?_
  exact kk _ _ _ _ _ _ (zLI_ok (u := (nt, lim, mem, wk, slow, r, L1, A, tk, sp, cs)) (zTu.frm hT fr) hmd2 ⟨un, by omega, hM2⟩ ok hun ((fr _ (by omega)).trans ho) (by omega))
end
