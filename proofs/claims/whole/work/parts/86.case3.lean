/-! the law: its cases, 3 -/
section
variable {G : zG} {a b L i nx : Nat} {xs : Nat → Int32} {σ : zH} {x5 x6 x7 x8 : Option Value}
set_option maxRecDepth 100000 in
set_option maxHeartbeats 1000000 in
theorem law_8 (hG : zKap G) (hL : L ≤ 2048) (hi : 4 * i + 4 ≤ L) (hI : zLI G σ nx b i) (kk : zKont G a b L xs i) : zWP G kL_law (zSc a L xs (zLF a)) 733 (zLls a b i x5 x6 x7 x8) [] σ nx (400 + 28 * i) (60000 + 2800 * i) := by
  obtain ⟨⟨nt, lim, mem, wk, slow, r, L1, A, tk, sp, cs⟩, un, S, f, hT, hmd, hM, ok, hun, ho, hnx⟩ := hI
  refine z_aload_n dL_law_733 rfl ?_
  refine z_aload_n dL_law_734 rfl ?_
  refine z_iload dL_law_735 rfl ?_
  refine z_iconst (v := 1) dL_law_737 (by decide) ?_
  refine z_iadd dL_law_738 ?_
  rw [zadd1]
  refine z_sldn (by omega) hL dL_law_739 ?_
  refine z_aload_n dL_law_740 rfl ?_
  refine z_callH dL_law_741 ch_L_151 (w_partitions (b := b) (hi := b + 109) (o := b + 108) hG hnx ok hT ho (by omega) (by omega)) rfl rfl ⟨(Nat.le_of_ble_eq_true rfl), (Nat.le_of_ble_eq_true rfl)⟩ (by show 400 + 28 * i + 1 ≤ 601024; omega) (by show 60000 + 2800 * i + 6 ≤ 7293034; omega) (Nat.le_of_ble_eq_true rfl) (fun v s1 n1 hx1 hq1 => ?_)
  have hmd1 := hq1.md hmd
  obtain ⟨rfl, q1, q2, -⟩ := hq1
  have hm := m_partitions (G := G) (m := b + 74) (x := (xs (4 * i + 1))) (S := S) (un := un) (by omega) ok hM
  have hok := fun (σ9 : zH) (u9 : zUv) (w9 : Int32) => o_partitions (G := G) (σ := σ9) (b := b) (hi := b + 109) (u' := u9) (w := w9) (x := (xs (4 * i + 1))) ok
  have hcl : (zk_node nt.length (xs (4 * i + 1))) < 2 ^ 31 := by unfold zk_node; repeat (first | split | decide)
  generalize (zk_node nt.length (xs (4 * i + 1))) = c at q1 q2 hm hok hcl ⊢
  generalize hP : (zPq (nt, lim, mem, wk, slow, r, L1, A, tk, sp, cs) (nI (zct lim nt (xs (4 * i + 1)).toNatClampNeg).length)) = P at q1 hm hok
  clear hP
  refine z_istore dL_law_744 (by decide) ?_
  refine z_aload_n dL_law_746 rfl ?_
  refine z_aload_n dL_law_747 rfl ?_
  refine z_iload dL_law_748 rfl ?_
  refine z_iconst (v := 1) dL_law_750 (by decide) ?_
  refine z_iadd dL_law_751 ?_
  rw [zadd1]
  refine z_sldn (by omega) hL dL_law_752 ?_
  refine z_callV dL_law_753 cv_L_153 (hm s1 n1 hmd1) rfl hmd1.1 rfl rfl ⟨(Nat.le_of_ble_eq_true rfl), (Nat.le_of_ble_eq_true rfl)⟩ (by show 400 + 28 * i + 1 + 0 ≤ 601024; omega) (by show 60000 + 2800 * i + 6 + 0 ≤ 7293034; omega) (Nat.le_of_ble_eq_true rfl) (fun v s2 n2 hx2 hq2 => ?_)
  obtain ⟨rfl, f2, S2, hmd2, ⟨w2, rfl⟩, ht, hb1, hb2⟩ := hq2
  refine z_istore dL_law_756 (by decide) ?_
  refine z_aload_n dL_law_758 rfl ?_
  refine z_callV dL_law_759 cv_L_123 (c_thrown s2 _ hmd2) rfl hmd2.1 rfl rfl ⟨(Nat.le_of_ble_eq_true rfl), (Nat.le_of_ble_eq_true rfl)⟩ (by show 400 + 28 * i + 1 + 0 + 0 ≤ 601024; omega) (by show 60000 + 2800 * i + 6 + 0 + 0 ≤ 7293034; omega) (Nat.le_of_ble_eq_true rfl) (fun v s3 n3 hx3 hq3 => ?_)
  obtain ⟨rfl, f3, S3, hmd3, rfl, rfl⟩ := hq3
  have fr : zFr s1 s3 (b + 74) 34 := fun x q => (f3 x q).trans (f2 x q)
  refine z_iload dL_law_762 rfl ?_
  refine z_icmp_eq (tgt := 769) dL_law_764 (by decide) (fun _ => ?_) (fun q => absurd (ht) q)
  refine z_iload dL_law_769 rfl ?_
  by_cases c0 : c = 0
  · obtain ⟨u', w, hP, hT2, f4, hf4, hf0⟩ := q1 c0
    obtain ⟨hw, hun2⟩ := hb1 c0 u' w hP
    have ok2 := hok _ _ _ c0 hP hT2
    cases hw
    refine z_if_ne (tgt := 786) dL_law_771 (by decide) (fun q => absurd ((show nI c = 0 by rw [c0]; rfl)) q) (fun _ => ?_)
    refine z_aload_n dL_law_774 rfl ?_
    refine z_iconst (v := 0) dL_law_775 (by decide) ?_
    refine z_lald dL_law_776 ((fr _ (by omega)).trans hf4) zin01 ?_
    rw [show (0 : Int32).toNatClampNeg = 0 by decide, hf0]
    refine z_iload dL_law_777 rfl ?_
    refine z_i2l dL_law_779 ?_
    refine z_lcmp dL_law_780 (zcmp_self _) ?_
    refine z_if_eq (tgt := 786) dL_law_781 (by decide) (fun _ => ?_) (fun q => absurd (rfl) q)
    refine z_goto (tgt := 2299) dL_law_786 (by decide) ?_
    refine z_widen (ca' := 400 + 28 * (i + 1)) (sl' := 60000 + 2800 * (i + 1)) (by show 400 + 28 * i + 1 + 0 + 0 ≤ _; omega) (by show 60000 + 2800 * i + 6 + 0 + 0 ≤ _; omega) ?_
    exact kk _ _ _ _ _ _ (zLI_ok (hT2.frm fr) hmd3 hun2 ok2 hun ((fr _ (by omega)).trans hf4) (by omega))
  · obtain ⟨hT2, f4, hf4⟩ := q2 c0
    have hM2 := hb2 c0
    refine z_if_ne (tgt := 786) dL_law_771 (by decide) (fun _ => ?_) (fun q => absurd q ((fun w => c0 ((nI_eq (a := c) (b := 0) hcl (by decide)).mp w))))
    refine z_goto (tgt := 2299) dL_law_786 (by decide) ?_
    refine z_widen (ca' := 400 + 28 * (i + 1)) (sl' := 60000 + 2800 * (i + 1)) (by show 400 + 28 * i + 1 + 0 + 0 ≤ _; omega) (by show 60000 + 2800 * i + 6 + 0 + 0 ≤ _; omega) ?_
    exact kk _ _ _ _ _ _ (zLI_ok (hT2.frm fr) hmd3 ⟨un, by omega, hM2⟩ ok hun ((fr _ (by omega)).trans hf4) (by omega))
set_option maxRecDepth 100000 in
set_option maxHeartbeats 1000000 in
theorem law_9 (hG : zKap G) (hL : L ≤ 2048) (hi : 4 * i + 4 ≤ L) (hI : zLI G σ nx b i) (kk : zKont G a b L xs i) : zWP G kL_law (zSc a L xs (zLF a)) 789 (zLls a b i x5 x6 x7 x8) [] σ nx (400 + 28 * i) (60000 + 2800 * i) := by
  obtain ⟨⟨nt, lim, mem, wk, slow, r, L1, A, tk, sp, cs⟩, un, S, f, hT, hmd, hM, ok, hun, ho, hnx⟩ := hI
  refine z_aload_n dL_law_789 rfl ?_
  refine z_aload_n dL_law_790 rfl ?_
  refine z_iload dL_law_791 rfl ?_
  refine z_iconst (v := 1) dL_law_793 (by decide) ?_
  refine z_iadd dL_law_794 ?_
  rw [zadd1]
  refine z_sldn (by omega) hL dL_law_795 ?_
  refine z_aload_n dL_law_796 rfl ?_
  refine z_iload dL_law_797 rfl ?_
  refine z_iconst (v := 2) dL_law_799 (by decide) ?_
  refine z_iadd dL_law_800 ?_
  rw [zadd2]
  refine z_sldn (by omega) hL dL_law_801 ?_
  refine z_aload_n dL_law_802 rfl ?_
  refine z_callH dL_law_803 ch_L_154 (w_rowsIn (b := b) (hi := b + 109) (o := b + 108) hG hnx ok hT ho (by omega) (by omega)) rfl rfl ⟨(Nat.le_of_ble_eq_true rfl), (Nat.le_of_ble_eq_true rfl)⟩ (by show 400 + 28 * i + 2 ≤ 601024; omega) (by show 60000 + 2800 * i + 12 ≤ 7293034; omega) (Nat.le_of_ble_eq_true rfl) (fun v s1 n1 hx1 hq1 => ?_)
  have hmd1 := hq1.md hmd
  obtain ⟨rfl, q1, q2, -⟩ := hq1
  have hm := m_rowsIn (G := G) (m := b + 74) (x := (xs (4 * i + 1))) (y := (xs (4 * i + 2))) (S := S) (un := un) (by omega) ok hM
  have hok := fun (σ9 : zH) (u9 : zUv) (w9 : Int32) => o_rowsIn (G := G) (σ := σ9) (b := b) (hi := b + 109) (u' := u9) (w := w9) (x := (xs (4 * i + 1))) (y := (xs (4 * i + 2))) ok
  have hcl : (zk_part lim nt (xs (4 * i + 1)) (xs (4 * i + 2))) < 2 ^ 31 := by unfold zk_part; repeat (first | split | decide)
  generalize (zk_part lim nt (xs (4 * i + 1)) (xs (4 * i + 2))) = c at q1 q2 hm hok hcl ⊢
  generalize hP : (zPq (nt, lim, mem, wk, slow, r, L1, A, tk, sp, cs) (nI (zsz (zct lim nt (xs (4 * i + 1)).toNatClampNeg) (xs (4 * i + 2)).toNatClampNeg))) = P at q1 hm hok
  clear hP
  refine z_istore dL_law_806 (by decide) ?_
  refine z_aload_n dL_law_808 rfl ?_
  refine z_aload_n dL_law_809 rfl ?_
  refine z_iload dL_law_810 rfl ?_
  refine z_iconst (v := 1) dL_law_812 (by decide) ?_
  refine z_iadd dL_law_813 ?_
  rw [zadd1]
  refine z_sldn (by omega) hL dL_law_814 ?_
  refine z_aload_n dL_law_815 rfl ?_
  refine z_iload dL_law_816 rfl ?_
  refine z_iconst (v := 2) dL_law_818 (by decide) ?_
  refine z_iadd dL_law_819 ?_
  rw [zadd2]
  refine z_sldn (by omega) hL dL_law_820 ?_
  refine z_callV dL_law_821 cv_L_156 (hm s1 n1 hmd1) rfl hmd1.1 rfl rfl ⟨(Nat.le_of_ble_eq_true rfl), (Nat.le_of_ble_eq_true rfl)⟩ (by show 400 + 28 * i + 2 + 0 ≤ 601024; omega) (by show 60000 + 2800 * i + 12 + 0 ≤ 7293034; omega) (Nat.le_of_ble_eq_true rfl) (fun v s2 n2 hx2 hq2 => ?_)
  obtain ⟨rfl, f2, S2, hmd2, ⟨w2, rfl⟩, ht, hb1, hb2⟩ := hq2
  refine z_istore dL_law_824 (by decide) ?_
  refine z_aload_n dL_law_826 rfl ?_
  refine z_callV dL_law_827 cv_L_123 (c_thrown s2 _ hmd2) rfl hmd2.1 rfl rfl ⟨(Nat.le_of_ble_eq_true rfl), (Nat.le_of_ble_eq_true rfl)⟩ (by show 400 + 28 * i + 2 + 0 + 0 ≤ 601024; omega) (by show 60000 + 2800 * i + 12 + 0 + 0 ≤ 7293034; omega) (Nat.le_of_ble_eq_true rfl) (fun v s3 n3 hx3 hq3 => ?_)
  obtain ⟨rfl, f3, S3, hmd3, rfl, rfl⟩ := hq3
  have fr : zFr s1 s3 (b + 74) 34 := fun x q => (f3 x q).trans (f2 x q)
  refine z_iload dL_law_830 rfl ?_
  refine z_icmp_eq (tgt := 837) dL_law_832 (by decide) (fun _ => ?_) (fun q => absurd (ht) q)
  refine z_iload dL_law_837 rfl ?_
  by_cases c0 : c = 0
  · obtain ⟨u', w, hP, hT2, f4, hf4, hf0⟩ := q1 c0
    obtain ⟨hw, hun2⟩ := hb1 c0 u' w hP
    have ok2 := hok _ _ _ c0 hP hT2
    cases hw
    refine z_if_ne (tgt := 854) dL_law_839 (by decide) (fun q => absurd ((show nI c = 0 by rw [c0]; rfl)) q) (fun _ => ?_)
    refine z_aload_n dL_law_842 rfl ?_
    refine z_iconst (v := 0) dL_law_843 (by decide) ?_
    refine z_lald dL_law_844 ((fr _ (by omega)).trans hf4) zin01 ?_
    rw [show (0 : Int32).toNatClampNeg = 0 by decide, hf0]
    refine z_iload dL_law_845 rfl ?_
    refine z_i2l dL_law_847 ?_
    refine z_lcmp dL_law_848 (zcmp_self _) ?_
    refine z_if_eq (tgt := 854) dL_law_849 (by decide) (fun _ => ?_) (fun q => absurd (rfl) q)
    refine z_goto (tgt := 2299) dL_law_854 (by decide) ?_
    refine z_widen (ca' := 400 + 28 * (i + 1)) (sl' := 60000 + 2800 * (i + 1)) (by show 400 + 28 * i + 2 + 0 + 0 ≤ _; omega) (by show 60000 + 2800 * i + 12 + 0 + 0 ≤ _; omega) ?_
    exact kk _ _ _ _ _ _ (zLI_ok (hT2.frm fr) hmd3 hun2 ok2 hun ((fr _ (by omega)).trans hf4) (by omega))
  · obtain ⟨hT2, f4, hf4⟩ := q2 c0
    have hM2 := hb2 c0
    refine z_if_ne (tgt := 854) dL_law_839 (by decide) (fun _ => ?_) (fun q => absurd q ((fun w => c0 ((nI_eq (a := c) (b := 0) hcl (by decide)).mp w))))
    refine z_goto (tgt := 2299) dL_law_854 (by decide) ?_
    refine z_widen (ca' := 400 + 28 * (i + 1)) (sl' := 60000 + 2800 * (i + 1)) (by show 400 + 28 * i + 2 + 0 + 0 ≤ _; omega) (by show 60000 + 2800 * i + 12 + 0 + 0 ≤ _; omega) ?_
    exact kk _ _ _ _ _ _ (zLI_ok (hT2.frm fr) hmd3 ⟨un, by omega, hM2⟩ ok hun ((fr _ (by omega)).trans hf4) (by omega))
set_option maxRecDepth 100000 in
set_option maxHeartbeats 1000000 in
theorem law_10 (hG : zKap G) (hL : L ≤ 2048) (hi : 4 * i + 4 ≤ L) (hI : zLI G σ nx b i) (kk : zKont G a b L xs i) : zWP G kL_law (zSc a L xs (zLF a)) 857 (zLls a b i x5 x6 x7 x8) [] σ nx (400 + 28 * i) (60000 + 2800 * i) := by
  obtain ⟨⟨nt, lim, mem, wk, slow, r, L1, A, tk, sp, cs⟩, un, S, f, hT, hmd, hM, ok, hun, ho, hnx⟩ := hI
  refine z_aload_n dL_law_857 rfl ?_
  refine z_aload_n dL_law_858 rfl ?_
  refine z_iload dL_law_859 rfl ?_
  refine z_iconst (v := 1) dL_law_861 (by decide) ?_
  refine z_iadd dL_law_862 ?_
  rw [zadd1]
  refine z_sldn (by omega) hL dL_law_863 ?_
  refine z_aload_n dL_law_864 rfl ?_
  refine z_callH dL_law_865 ch_L_157 (w_rows (b := b) (hi := b + 109) (o := b + 108) hG hnx ok hT ho (by omega) (by omega)) rfl rfl ⟨(Nat.le_of_ble_eq_true rfl), (Nat.le_of_ble_eq_true rfl)⟩ (by show 400 + 28 * i + 1 ≤ 601024; omega) (by show 60000 + 2800 * i + 6 ≤ 7293034; omega) (Nat.le_of_ble_eq_true rfl) (fun v s1 n1 hx1 hq1 => ?_)
  have hmd1 := hq1.md hmd
  obtain ⟨rfl, q1, q2, -⟩ := hq1
  have hm := m_rows (G := G) (m := b + 74) (x := (xs (4 * i + 1))) (S := S) (un := un) (by omega) ok hM
  have hok := fun (σ9 : zH) (u9 : zUv) (w9 : Int32) => o_rows (G := G) (σ := σ9) (b := b) (hi := b + 109) (u' := u9) (w := w9) (x := (xs (4 * i + 1))) ok
  have hcl : (zk_node nt.length (xs (4 * i + 1))) < 2 ^ 31 := by unfold zk_node; repeat (first | split | decide)
  generalize (zk_node nt.length (xs (4 * i + 1))) = c at q1 q2 hm hok hcl ⊢
  generalize hP : (zPq (nt, lim, mem, wk, slow, r, L1, A, tk, sp, cs) (nI (zct lim nt (xs (4 * i + 1)).toNatClampNeg).flatten.length)) = P at q1 hm hok
  clear hP
  refine z_istore dL_law_868 (by decide) ?_
  refine z_aload_n dL_law_870 rfl ?_
  refine z_aload_n dL_law_871 rfl ?_
  refine z_iload dL_law_872 rfl ?_
  refine z_iconst (v := 1) dL_law_874 (by decide) ?_
  refine z_iadd dL_law_875 ?_
  rw [zadd1]
  refine z_sldn (by omega) hL dL_law_876 ?_
  refine z_callV dL_law_877 cv_L_159 (hm s1 n1 hmd1) rfl hmd1.1 rfl rfl ⟨(Nat.le_of_ble_eq_true rfl), (Nat.le_of_ble_eq_true rfl)⟩ (by show 400 + 28 * i + 1 + 0 ≤ 601024; omega) (by show 60000 + 2800 * i + 6 + 0 ≤ 7293034; omega) (Nat.le_of_ble_eq_true rfl) (fun v s2 n2 hx2 hq2 => ?_)
  obtain ⟨rfl, f2, S2, hmd2, ⟨w2, rfl⟩, ht, hb1, hb2⟩ := hq2
  refine z_istore dL_law_880 (by decide) ?_
  refine z_aload_n dL_law_882 rfl ?_
  refine z_callV dL_law_883 cv_L_123 (c_thrown s2 _ hmd2) rfl hmd2.1 rfl rfl ⟨(Nat.le_of_ble_eq_true rfl), (Nat.le_of_ble_eq_true rfl)⟩ (by show 400 + 28 * i + 1 + 0 + 0 ≤ 601024; omega) (by show 60000 + 2800 * i + 6 + 0 + 0 ≤ 7293034; omega) (Nat.le_of_ble_eq_true rfl) (fun v s3 n3 hx3 hq3 => ?_)
  obtain ⟨rfl, f3, S3, hmd3, rfl, rfl⟩ := hq3
  have fr : zFr s1 s3 (b + 74) 34 := fun x q => (f3 x q).trans (f2 x q)
  refine z_iload dL_law_886 rfl ?_
  refine z_icmp_eq (tgt := 893) dL_law_888 (by decide) (fun _ => ?_) (fun q => absurd (ht) q)
  refine z_iload dL_law_893 rfl ?_
  by_cases c0 : c = 0
  · obtain ⟨u', w, hP, hT2, f4, hf4, hf0⟩ := q1 c0
    obtain ⟨hw, hun2⟩ := hb1 c0 u' w hP
    have ok2 := hok _ _ _ c0 hP hT2
    cases hw
    refine z_if_ne (tgt := 910) dL_law_895 (by decide) (fun q => absurd ((show nI c = 0 by rw [c0]; rfl)) q) (fun _ => ?_)
    refine z_aload_n dL_law_898 rfl ?_
    refine z_iconst (v := 0) dL_law_899 (by decide) ?_
    refine z_lald dL_law_900 ((fr _ (by omega)).trans hf4) zin01 ?_
    rw [show (0 : Int32).toNatClampNeg = 0 by decide, hf0]
    refine z_iload dL_law_901 rfl ?_
    refine z_i2l dL_law_903 ?_
    refine z_lcmp dL_law_904 (zcmp_self _) ?_
    refine z_if_eq (tgt := 910) dL_law_905 (by decide) (fun _ => ?_) (fun q => absurd (rfl) q)
    refine z_goto (tgt := 2299) dL_law_910 (by decide) ?_
    refine z_widen (ca' := 400 + 28 * (i + 1)) (sl' := 60000 + 2800 * (i + 1)) (by show 400 + 28 * i + 1 + 0 + 0 ≤ _; omega) (by show 60000 + 2800 * i + 6 + 0 + 0 ≤ _; omega) ?_
    exact kk _ _ _ _ _ _ (zLI_ok (hT2.frm fr) hmd3 hun2 ok2 hun ((fr _ (by omega)).trans hf4) (by omega))
  · obtain ⟨hT2, f4, hf4⟩ := q2 c0
    have hM2 := hb2 c0
    refine z_if_ne (tgt := 910) dL_law_895 (by decide) (fun _ => ?_) (fun q => absurd q ((fun w => c0 ((nI_eq (a := c) (b := 0) hcl (by decide)).mp w))))
    refine z_goto (tgt := 2299) dL_law_910 (by decide) ?_
    refine z_widen (ca' := 400 + 28 * (i + 1)) (sl' := 60000 + 2800 * (i + 1)) (by show 400 + 28 * i + 1 + 0 + 0 ≤ _; omega) (by show 60000 + 2800 * i + 6 + 0 + 0 ≤ _; omega) ?_
    exact kk _ _ _ _ _ _ (zLI_ok (hT2.frm fr) hmd3 ⟨un, by omega, hM2⟩ ok hun ((fr _ (by omega)).trans hf4) (by omega))
set_option maxRecDepth 100000 in
set_option maxHeartbeats 1000000 in
theorem law_11 (hG : zKap G) (hL : L ≤ 2048) (hi : 4 * i + 4 ≤ L) (hI : zLI G σ nx b i) (kk : zKont G a b L xs i) : zWP G kL_law (zSc a L xs (zLF a)) 913 (zLls a b i x5 x6 x7 x8) [] σ nx (400 + 28 * i) (60000 + 2800 * i) := by
  obtain ⟨⟨nt, lim, mem, wk, slow, r, L1, A, tk, sp, cs⟩, un, S, f, hT, hmd, hM, ok, hun, ho, hnx⟩ := hI
  refine z_aload_n dL_law_913 rfl ?_
  refine z_aload_n dL_law_914 rfl ?_
  refine z_iload dL_law_915 rfl ?_
  refine z_iconst (v := 1) dL_law_917 (by decide) ?_
  refine z_iadd dL_law_918 ?_
  rw [zadd1]
  refine z_sldn (by omega) hL dL_law_919 ?_
  refine z_aload_n dL_law_920 rfl ?_
  refine z_iload dL_law_921 rfl ?_
  refine z_iconst (v := 2) dL_law_923 (by decide) ?_
  refine z_iadd dL_law_924 ?_
  rw [zadd2]
  refine z_sldn (by omega) hL dL_law_925 ?_
  refine z_aload_n dL_law_926 rfl ?_
  refine z_iload dL_law_927 rfl ?_
  refine z_iconst (v := 3) dL_law_929 (by decide) ?_
  refine z_iadd dL_law_930 ?_
  rw [zadd3]
  refine z_sldn (by omega) hL dL_law_931 ?_
  refine z_aload_n dL_law_932 rfl ?_
  refine z_callH dL_law_933 ch_L_160 (w_keyAt (b := b) (hi := b + 109) (o := b + 108) hG hnx ok hT ho (by omega) (by omega)) rfl rfl ⟨(Nat.le_of_ble_eq_true rfl), (Nat.le_of_ble_eq_true rfl)⟩ (by show 400 + 28 * i + 3 ≤ 601024; omega) (by show 60000 + 2800 * i + 18 ≤ 7293034; omega) (Nat.le_of_ble_eq_true rfl) (fun v s1 n1 hx1 hq1 => ?_)
  have hmd1 := hq1.md hmd
  obtain ⟨rfl, q1, q2, -⟩ := hq1
  have hm := m_keyAt (G := G) (m := b + 74) (x := (xs (4 * i + 1))) (y := (xs (4 * i + 2))) (z := (xs (4 * i + 3))) (S := S) (un := un) (by omega) ok hM
  have hok := fun (σ9 : zH) (u9 : zUv) (w9 : Int32) => o_keyAt (G := G) (σ := σ9) (b := b) (hi := b + 109) (u' := u9) (w := w9) (x := (xs (4 * i + 1))) (y := (xs (4 * i + 2))) (z := (xs (4 * i + 3))) ok
  have hcl : (zk_place lim nt (xs (4 * i + 1)) (xs (4 * i + 2)) (xs (4 * i + 3))) < 2 ^ 31 := by unfold zk_place; repeat (first | split | decide)
  generalize (zk_place lim nt (xs (4 * i + 1)) (xs (4 * i + 2)) (xs (4 * i + 3))) = c at q1 q2 hm hok hcl ⊢
  generalize hP : (zPq (nt, lim, mem, wk, slow, r, L1, A, tk, sp, cs) ((zrw (zct lim nt (xs (4 * i + 1)).toNatClampNeg) (xs (4 * i + 2)).toNatClampNeg (xs (4 * i + 3)).toNatClampNeg).1)) = P at q1 hm hok
  clear hP
  refine z_istore dL_law_936 (by decide) ?_
  refine z_aload_n dL_law_938 rfl ?_
  refine z_aload_n dL_law_939 rfl ?_
  refine z_iload dL_law_940 rfl ?_
  refine z_iconst (v := 1) dL_law_942 (by decide) ?_
  refine z_iadd dL_law_943 ?_
  rw [zadd1]
  refine z_sldn (by omega) hL dL_law_944 ?_
  refine z_aload_n dL_law_945 rfl ?_
  refine z_iload dL_law_946 rfl ?_
  refine z_iconst (v := 2) dL_law_948 (by decide) ?_
  refine z_iadd dL_law_949 ?_
  rw [zadd2]
  refine z_sldn (by omega) hL dL_law_950 ?_
  refine z_aload_n dL_law_951 rfl ?_
  refine z_iload dL_law_952 rfl ?_
  refine z_iconst (v := 3) dL_law_954 (by decide) ?_
  refine z_iadd dL_law_955 ?_
  rw [zadd3]
  refine z_sldn (by omega) hL dL_law_956 ?_
  refine z_callV dL_law_957 cv_L_162 (hm s1 n1 hmd1) rfl hmd1.1 rfl rfl ⟨(Nat.le_of_ble_eq_true rfl), (Nat.le_of_ble_eq_true rfl)⟩ (by show 400 + 28 * i + 3 + 0 ≤ 601024; omega) (by show 60000 + 2800 * i + 18 + 0 ≤ 7293034; omega) (Nat.le_of_ble_eq_true rfl) (fun v s2 n2 hx2 hq2 => ?_)
  obtain ⟨rfl, f2, S2, hmd2, ⟨w2, rfl⟩, ht, hb1, hb2⟩ := hq2
  refine z_istore dL_law_960 (by decide) ?_
  refine z_aload_n dL_law_962 rfl ?_
  refine z_callV dL_law_963 cv_L_123 (c_thrown s2 _ hmd2) rfl hmd2.1 rfl rfl ⟨(Nat.le_of_ble_eq_true rfl), (Nat.le_of_ble_eq_true rfl)⟩ (by show 400 + 28 * i + 3 + 0 + 0 ≤ 601024; omega) (by show 60000 + 2800 * i + 18 + 0 + 0 ≤ 7293034; omega) (Nat.le_of_ble_eq_true rfl) (fun v s3 n3 hx3 hq3 => ?_)
  obtain ⟨rfl, f3, S3, hmd3, rfl, rfl⟩ := hq3
  have fr : zFr s1 s3 (b + 74) 34 := fun x q => (f3 x q).trans (f2 x q)
  refine z_iload dL_law_966 rfl ?_
  refine z_icmp_eq (tgt := 973) dL_law_968 (by decide) (fun _ => ?_) (fun q => absurd (ht) q)
  refine z_iload dL_law_973 rfl ?_
  by_cases c0 : c = 0
  · obtain ⟨u', w, hP, hT2, f4, hf4, hf0⟩ := q1 c0
    obtain ⟨hw, hun2⟩ := hb1 c0 u' w hP
    have ok2 := hok _ _ _ c0 hP hT2
    cases hw
    refine z_if_ne (tgt := 990) dL_law_975 (by decide) (fun q => absurd ((show nI c = 0 by rw [c0]; rfl)) q) (fun _ => ?_)
    refine z_aload_n dL_law_978 rfl ?_
    refine z_iconst (v := 0) dL_law_979 (by decide) ?_
    refine z_lald dL_law_980 ((fr _ (by omega)).trans hf4) zin01 ?_
    rw [show (0 : Int32).toNatClampNeg = 0 by decide, hf0]
    refine z_iload dL_law_981 rfl ?_
    refine z_i2l dL_law_983 ?_
    refine z_lcmp dL_law_984 (zcmp_self _) ?_
    refine z_if_eq (tgt := 990) dL_law_985 (by decide) (fun _ => ?_) (fun q => absurd (rfl) q)
    refine z_goto (tgt := 2299) dL_law_990 (by decide) ?_
    refine z_widen (ca' := 400 + 28 * (i + 1)) (sl' := 60000 + 2800 * (i + 1)) (by show 400 + 28 * i + 3 + 0 + 0 ≤ _; omega) (by show 60000 + 2800 * i + 18 + 0 + 0 ≤ _; omega) ?_
    exact kk _ _ _ _ _ _ (zLI_ok (hT2.frm fr) hmd3 hun2 ok2 hun ((fr _ (by omega)).trans hf4) (by omega))
  · obtain ⟨hT2, f4, hf4⟩ := q2 c0
    have hM2 := hb2 c0
    refine z_if_ne (tgt := 990) dL_law_975 (by decide) (fun _ => ?_) (fun q => absurd q ((fun w => c0 ((nI_eq (a := c) (b := 0) hcl (by decide)).mp w))))
    refine z_goto (tgt := 2299) dL_law_990 (by decide) ?_
    refine z_widen (ca' := 400 + 28 * (i + 1)) (sl' := 60000 + 2800 * (i + 1)) (by show 400 + 28 * i + 3 + 0 + 0 ≤ _; omega) (by show 60000 + 2800 * i + 18 + 0 + 0 ≤ _; omega) ?_
    exact kk _ _ _ _ _ _ (zLI_ok (hT2.frm fr) hmd3 ⟨un, by omega, hM2⟩ ok hun ((fr _ (by omega)).trans hf4) (by omega))
set_option maxRecDepth 100000 in
set_option maxHeartbeats 1000000 in
theorem law_12 (hG : zKap G) (hL : L ≤ 2048) (hi : 4 * i + 4 ≤ L) (hI : zLI G σ nx b i) (kk : zKont G a b L xs i) : zWP G kL_law (zSc a L xs (zLF a)) 993 (zLls a b i x5 x6 x7 x8) [] σ nx (400 + 28 * i) (60000 + 2800 * i) := by
  obtain ⟨⟨nt, lim, mem, wk, slow, r, L1, A, tk, sp, cs⟩, un, S, f, hT, hmd, hM, ok, hun, ho, hnx⟩ := hI
  refine z_aload_n dL_law_993 rfl ?_
  refine z_aload_n dL_law_994 rfl ?_
  refine z_iload dL_law_995 rfl ?_
  refine z_iconst (v := 1) dL_law_997 (by decide) ?_
  refine z_iadd dL_law_998 ?_
  rw [zadd1]
  refine z_sldn (by omega) hL dL_law_999 ?_
  refine z_aload_n dL_law_1000 rfl ?_
  refine z_iload dL_law_1001 rfl ?_
  refine z_iconst (v := 2) dL_law_1003 (by decide) ?_
  refine z_iadd dL_law_1004 ?_
  rw [zadd2]
  refine z_sldn (by omega) hL dL_law_1005 ?_
  refine z_aload_n dL_law_1006 rfl ?_
  refine z_iload dL_law_1007 rfl ?_
  refine z_iconst (v := 3) dL_law_1009 (by decide) ?_
  refine z_iadd dL_law_1010 ?_
  rw [zadd3]
  refine z_sldn (by omega) hL dL_law_1011 ?_
  refine z_aload_n dL_law_1012 rfl ?_
  refine z_callH dL_law_1013 ch_L_163 (w_valueAt (b := b) (hi := b + 109) (o := b + 108) hG hnx ok hT ho (by omega) (by omega)) rfl rfl ⟨(Nat.le_of_ble_eq_true rfl), (Nat.le_of_ble_eq_true rfl)⟩ (by show 400 + 28 * i + 3 ≤ 601024; omega) (by show 60000 + 2800 * i + 18 ≤ 7293034; omega) (Nat.le_of_ble_eq_true rfl) (fun v s1 n1 hx1 hq1 => ?_)
  have hmd1 := hq1.md hmd
  obtain ⟨rfl, q1, q2, -⟩ := hq1
  have hm := m_valueAt (G := G) (m := b + 74) (x := (xs (4 * i + 1))) (y := (xs (4 * i + 2))) (z := (xs (4 * i + 3))) (S := S) (un := un) (by omega) ok hM
  have hok := fun (σ9 : zH) (u9 : zUv) (w9 : Int32) => o_valueAt (G := G) (σ := σ9) (b := b) (hi := b + 109) (u' := u9) (w := w9) (x := (xs (4 * i + 1))) (y := (xs (4 * i + 2))) (z := (xs (4 * i + 3))) ok
  have hcl : (zk_place lim nt (xs (4 * i + 1)) (xs (4 * i + 2)) (xs (4 * i + 3))) < 2 ^ 31 := by unfold zk_place; repeat (first | split | decide)
  generalize (zk_place lim nt (xs (4 * i + 1)) (xs (4 * i + 2)) (xs (4 * i + 3))) = c at q1 q2 hm hok hcl ⊢
  generalize hP : (zPq (nt, lim, mem, wk, slow, r, L1, A, tk, sp, cs) ((zrw (zct lim nt (xs (4 * i + 1)).toNatClampNeg) (xs (4 * i + 2)).toNatClampNeg (xs (4 * i + 3)).toNatClampNeg).2)) = P at q1 hm hok
  clear hP
  refine z_istore dL_law_1016 (by decide) ?_
  refine z_aload_n dL_law_1018 rfl ?_
  refine z_aload_n dL_law_1019 rfl ?_
  refine z_iload dL_law_1020 rfl ?_
  refine z_iconst (v := 1) dL_law_1022 (by decide) ?_
  refine z_iadd dL_law_1023 ?_
  rw [zadd1]
  refine z_sldn (by omega) hL dL_law_1024 ?_
  refine z_aload_n dL_law_1025 rfl ?_
  refine z_iload dL_law_1026 rfl ?_
  refine z_iconst (v := 2) dL_law_1028 (by decide) ?_
  refine z_iadd dL_law_1029 ?_
  rw [zadd2]
  refine z_sldn (by omega) hL dL_law_1030 ?_
  refine z_aload_n dL_law_1031 rfl ?_
  refine z_iload dL_law_1032 rfl ?_
  refine z_iconst (v := 3) dL_law_1034 (by decide) ?_
  refine z_iadd dL_law_1035 ?_
  rw [zadd3]
  refine z_sldn (by omega) hL dL_law_1036 ?_
  refine z_callV dL_law_1037 cv_L_165 (hm s1 n1 hmd1) rfl hmd1.1 rfl rfl ⟨(Nat.le_of_ble_eq_true rfl), (Nat.le_of_ble_eq_true rfl)⟩ (by show 400 + 28 * i + 3 + 0 ≤ 601024; omega) (by show 60000 + 2800 * i + 18 + 0 ≤ 7293034; omega) (Nat.le_of_ble_eq_true rfl) (fun v s2 n2 hx2 hq2 => ?_)
  obtain ⟨rfl, f2, S2, hmd2, ⟨w2, rfl⟩, ht, hb1, hb2⟩ := hq2
  refine z_istore dL_law_1040 (by decide) ?_
  refine z_aload_n dL_law_1042 rfl ?_
  refine z_callV dL_law_1043 cv_L_123 (c_thrown s2 _ hmd2) rfl hmd2.1 rfl rfl ⟨(Nat.le_of_ble_eq_true rfl), (Nat.le_of_ble_eq_true rfl)⟩ (by show 400 + 28 * i + 3 + 0 + 0 ≤ 601024; omega) (by show 60000 + 2800 * i + 18 + 0 + 0 ≤ 7293034; omega) (Nat.le_of_ble_eq_true rfl) (fun v s3 n3 hx3 hq3 => ?_)
  obtain ⟨rfl, f3, S3, hmd3, rfl, rfl⟩ := hq3
  have fr : zFr s1 s3 (b + 74) 34 := fun x q => (f3 x q).trans (f2 x q)
  refine z_iload dL_law_1046 rfl ?_
  refine z_icmp_eq (tgt := 1053) dL_law_1048 (by decide) (fun _ => ?_) (fun q => absurd (ht) q)
  refine z_iload dL_law_1053 rfl ?_
  by_cases c0 : c = 0
  · obtain ⟨u', w, hP, hT2, f4, hf4, hf0⟩ := q1 c0
    obtain ⟨hw, hun2⟩ := hb1 c0 u' w hP
    have ok2 := hok _ _ _ c0 hP hT2
    cases hw
    refine z_if_ne (tgt := 1070) dL_law_1055 (by decide) (fun q => absurd ((show nI c = 0 by rw [c0]; rfl)) q) (fun _ => ?_)
    refine z_aload_n dL_law_1058 rfl ?_
    refine z_iconst (v := 0) dL_law_1059 (by decide) ?_
    refine z_lald dL_law_1060 ((fr _ (by omega)).trans hf4) zin01 ?_
    rw [show (0 : Int32).toNatClampNeg = 0 by decide, hf0]
    refine z_iload dL_law_1061 rfl ?_
    refine z_i2l dL_law_1063 ?_
    refine z_lcmp dL_law_1064 (zcmp_self _) ?_
    refine z_if_eq (tgt := 1070) dL_law_1065 (by decide) (fun _ => ?_) (fun q => absurd (rfl) q)
    refine z_goto (tgt := 2299) dL_law_1070 (by decide) ?_
    refine z_widen (ca' := 400 + 28 * (i + 1)) (sl' := 60000 + 2800 * (i + 1)) (by show 400 + 28 * i + 3 + 0 + 0 ≤ _; omega) (by show 60000 + 2800 * i + 18 + 0 + 0 ≤ _; omega) ?_
    exact kk _ _ _ _ _ _ (zLI_ok (hT2.frm fr) hmd3 hun2 ok2 hun ((fr _ (by omega)).trans hf4) (by omega))
  · obtain ⟨hT2, f4, hf4⟩ := q2 c0
    have hM2 := hb2 c0
    refine z_if_ne (tgt := 1070) dL_law_1055 (by decide) (fun _ => ?_) (fun q => absurd q ((fun w => c0 ((nI_eq (a := c) (b := 0) hcl (by decide)).mp w))))
    refine z_goto (tgt := 2299) dL_law_1070 (by decide) ?_
    refine z_widen (ca' := 400 + 28 * (i + 1)) (sl' := 60000 + 2800 * (i + 1)) (by show 400 + 28 * i + 3 + 0 + 0 ≤ _; omega) (by show 60000 + 2800 * i + 18 + 0 + 0 ≤ _; omega) ?_
    exact kk _ _ _ _ _ _ (zLI_ok (hT2.frm fr) hmd3 ⟨un, by omega, hM2⟩ ok hun ((fr _ (by omega)).trans hf4) (by omega))
end
