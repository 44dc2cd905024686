/-! the law: its cases, 7 -/
section
variable {G : zG} {a b L i nx : Nat} {xs : Nat → Int32} {σ : zH} {x5 x6 x7 x8 : Option Value}
set_option maxRecDepth 100000 in
set_option maxHeartbeats 1000000 in
theorem law_27 (hG : zKap G) (hL : L ≤ 2048) (hi : 4 * i + 4 ≤ L) (hI : zLI G σ nx b i) (kk : zKont G a b L xs i) : zWP G kL_law (zSc a L xs (zLF a)) 1887 (zLls a b i x5 x6 x7 x8) [] σ nx (400 + 28 * i) (60000 + 2800 * i) := by
  obtain ⟨⟨nt, lim, mem, wk, slow, r, L1, A, tk, sp, cs⟩, un, S, f, hT, hmd, hM, ok, hun, ho, hnx⟩ := hI
  refine z_aload_n dL_law_1887 rfl ?_
  refine z_callV dL_law_1888 cv_L_210 (c_spilled hT) rfl hT.1 rfl rfl ⟨(Nat.le_of_ble_eq_true rfl), (Nat.le_of_ble_eq_true rfl)⟩ (by show 400 + 28 * i + 0 ≤ 601024; omega) (by show 60000 + 2800 * i + 0 ≤ 7293034; omega) (Nat.le_of_ble_eq_true rfl) (fun v s1 n1 hx1 hq1 => ?_)
  obtain ⟨rfl, rfl, rfl⟩ := hq1
  refine z_aload_n dL_law_1891 rfl ?_
  refine z_callV dL_law_1892 cv_L_213 (c_q_spilled (m := b + 74) hM s1 n1 hmd) rfl hmd.1 rfl rfl ⟨(Nat.le_of_ble_eq_true rfl), (Nat.le_of_ble_eq_true rfl)⟩ (by show 400 + 28 * i + 0 + 0 ≤ 601024; omega) (by show 60000 + 2800 * i + 0 + 0 ≤ 7293034; omega) (Nat.le_of_ble_eq_true rfl) (fun v s2 n2 hx2 hq2 => ?_)
  obtain ⟨rfl, fr, S2, hmd2, -, -, hb1, -⟩ := hq2
  obtain ⟨rfl, hM2⟩ := hb1 rfl
  refine z_icmp_eq (tgt := 2299) dL_law_1895 (by decide) (fun _ => ?_) (fun q => absurd (rfl) q)
  refine z_widen (ca' := 400 + 28 * (i + 1)) (sl' := 60000 + 2800 * (i + 1)) (by show 400 + 28 * i + 0 + 0 ≤ _; omega) (by show 60000 + 2800 * i + 0 + 0 ≤ _; omega) ?_
  exact kk _ _ _ _ _ _ (zLI_ok (u := (nt, lim, mem, wk, slow, r, L1, A, tk, sp, cs)) (zTu.frm hT fr) hmd2 ⟨un, by omega, hM2⟩ ok hun ((fr _ (by omega)).trans ho) (by omega))
set_option maxRecDepth 100000 in
set_option maxHeartbeats 1000000 in
theorem law_28 (hG : zKap G) (hL : L ≤ 2048) (hi : 4 * i + 4 ≤ L) (hI : zLI G σ nx b i) (kk : zKont G a b L xs i) : zWP G kL_law (zSc a L xs (zLF a)) 1900 (zLls a b i x5 x6 x7 x8) [] σ nx (400 + 28 * i) (60000 + 2800 * i) := by
  obtain ⟨⟨nt, lim, mem, wk, slow, r, L1, A, tk, sp, cs⟩, un, S, f, hT, hmd, hM, ok, hun, ho, hnx⟩ := hI
  refine z_aload_n dL_law_1900 rfl ?_
  refine z_callV dL_law_1901 cv_L_214 (c_attempts hT) rfl hT.1 rfl rfl ⟨(Nat.le_of_ble_eq_true rfl), (Nat.le_of_ble_eq_true rfl)⟩ (by show 400 + 28 * i + 0 ≤ 601024; omega) (by show 60000 + 2800 * i + 0 ≤ 7293034; omega) (Nat.le_of_ble_eq_true rfl) (fun v s1 n1 hx1 hq1 => ?_)
  obtain ⟨rfl, rfl, rfl⟩ := hq1
  refine z_aload_n dL_law_1904 rfl ?_
  refine z_callV dL_law_1905 cv_L_217 (c_q_attempts (m := b + 74) hM s1 n1 hmd) rfl hmd.1 rfl rfl ⟨(Nat.le_of_ble_eq_true rfl), (Nat.le_of_ble_eq_true rfl)⟩ (by show 400 + 28 * i + 0 + 0 ≤ 601024; omega) (by show 60000 + 2800 * i + 0 + 0 ≤ 7293034; omega) (Nat.le_of_ble_eq_true rfl) (fun v s2 n2 hx2 hq2 => ?_)
  obtain ⟨rfl, fr, S2, hmd2, -, -, hb1, -⟩ := hq2
  obtain ⟨rfl, hM2⟩ := hb1 rfl
  refine z_icmp_eq (tgt := 2299) dL_law_1908 (by decide) (fun _ => ?_) (fun q => absurd (rfl) q)
  refine z_widen (ca' := 400 + 28 * (i + 1)) (sl' := 60000 + 2800 * (i + 1)) (by show 400 + 28 * i + 0 + 0 ≤ _; omega) (by show 60000 + 2800 * i + 0 + 0 ≤ _; omega) ?_
  exact kk _ _ _ _ _ _ (zLI_ok (u := (nt, lim, mem, wk, slow, r, L1, A, tk, sp, cs)) (zTu.frm hT fr) hmd2 ⟨un, by omega, hM2⟩ ok hun ((fr _ (by omega)).trans ho) (by omega))
set_option maxRecDepth 100000 in
set_option maxHeartbeats 1000000 in
theorem law_29 (hG : zKap G) (hL : L ≤ 2048) (hi : 4 * i + 4 ≤ L) (hI : zLI G σ nx b i) (kk : zKont G a b L xs i) : zWP G kL_law (zSc a L xs (zLF a)) 1913 (zLls a b i x5 x6 x7 x8) [] σ nx (400 + 28 * i) (60000 + 2800 * i) := by
  obtain ⟨⟨nt, lim, mem, wk, slow, r, L1, A, tk, sp, cs⟩, un, S, f, hT, hmd, hM, ok, hun, ho, hnx⟩ := hI
  refine z_aload_n dL_law_1913 rfl ?_
  refine z_aload_n dL_law_1914 rfl ?_
  refine z_iload dL_law_1915 rfl ?_
  refine z_iconst (v := 1) dL_law_1917 (by decide) ?_
  refine z_iadd dL_law_1918 ?_
  rw [zadd1]
  refine z_sldn (by omega) hL dL_law_1919 ?_
  refine z_aload_n dL_law_1920 rfl ?_
  refine z_callH dL_law_1921 ch_L_218 (w_nodeOf (b := b) (hi := b + 109) (o := b + 108) hG hnx ok hT ho (by omega) (by omega)) rfl rfl ⟨(Nat.le_of_ble_eq_true rfl), (Nat.le_of_ble_eq_true rfl)⟩ (by show 400 + 28 * i + 1 ≤ 601024; omega) (by show 60000 + 2800 * i + 6 ≤ 7293034; omega) (Nat.le_of_ble_eq_true rfl) (fun v s1 n1 hx1 hq1 => ?_)
  have hmd1 := hq1.md hmd
  obtain ⟨rfl, q1, q2, -⟩ := hq1
  have hm := m_nodeOf (G := G) (m := b + 74) (x := (xs (4 * i + 1))) (S := S) (un := un) (by omega) ok hM
  have hok := fun (σ9 : zH) (u9 : zUv) (w9 : Int32) => o_nodeOf (G := G) (σ := σ9) (b := b) (hi := b + 109) (u' := u9) (w := w9) (x := (xs (4 * i + 1))) ok
  have hcl : (zk_node A.length (xs (4 * i + 1))) < 2 ^ 31 := by unfold zk_node; repeat (first | split | decide)
  generalize (zk_node A.length (xs (4 * i + 1))) = c at q1 q2 hm hok hcl ⊢
  generalize hP : (zPq (nt, lim, mem, wk, slow, r, L1, A, tk, sp, cs) (zAc (A.getD (xs (4 * i + 1)).toNatClampNeg (0, 0, 0, 0, 0, false)) 0)) = P at q1 hm hok
  clear hP
  refine z_istore dL_law_1924 (by decide) ?_
  refine z_aload_n dL_law_1926 rfl ?_
  refine z_aload_n dL_law_1927 rfl ?_
  refine z_iload dL_law_1928 rfl ?_
  refine z_iconst (v := 1) dL_law_1930 (by decide) ?_
  refine z_iadd dL_law_1931 ?_
  rw [zadd1]
  refine z_sldn (by omega) hL dL_law_1932 ?_
  refine z_callV dL_law_1933 cv_L_220 (hm s1 n1 hmd1) rfl hmd1.1 rfl rfl ⟨(Nat.le_of_ble_eq_true rfl), (Nat.le_of_ble_eq_true rfl)⟩ (by show 400 + 28 * i + 1 + 0 ≤ 601024; omega) (by show 60000 + 2800 * i + 6 + 0 ≤ 7293034; omega) (Nat.le_of_ble_eq_true rfl) (fun v s2 n2 hx2 hq2 => ?_)
  obtain ⟨rfl, f2, S2, hmd2, ⟨w2, rfl⟩, ht, hb1, hb2⟩ := hq2
  refine z_istore dL_law_1936 (by decide) ?_
  refine z_aload_n dL_law_1938 rfl ?_
  refine z_callV dL_law_1939 cv_L_123 (c_thrown s2 _ hmd2) rfl hmd2.1 rfl rfl ⟨(Nat.le_of_ble_eq_true rfl), (Nat.le_of_ble_eq_true rfl)⟩ (by show 400 + 28 * i + 1 + 0 + 0 ≤ 601024; omega) (by show 60000 + 2800 * i + 6 + 0 + 0 ≤ 7293034; omega) (Nat.le_of_ble_eq_true rfl) (fun v s3 n3 hx3 hq3 => ?_)
  obtain ⟨rfl, f3, S3, hmd3, rfl, rfl⟩ := hq3
  have fr : zFr s1 s3 (b + 74) 34 := fun x q => (f3 x q).trans (f2 x q)
  refine z_iload dL_law_1942 rfl ?_
  refine z_icmp_eq (tgt := 1949) dL_law_1944 (by decide) (fun _ => ?_) (fun q => absurd (ht) q)
  refine z_iload dL_law_1949 rfl ?_
  by_cases c0 : c = 0
  · obtain ⟨u', w, hP, hT2, f4, hf4, hf0⟩ := q1 c0
    obtain ⟨hw, hun2⟩ := hb1 c0 u' w hP
    have ok2 := hok _ _ _ c0 hP hT2
    cases hw
    refine z_if_ne (tgt := 1966) dL_law_1951 (by decide) (fun q => absurd ((show nI c = 0 by rw [c0]; rfl)) q) (fun _ => ?_)
    refine z_aload_n dL_law_1954 rfl ?_
    refine z_iconst (v := 0) dL_law_1955 (by decide) ?_
    refine z_lald dL_law_1956 ((fr _ (by omega)).trans hf4) zin01 ?_
    rw [show (0 : Int32).toNatClampNeg = 0 by decide, hf0]
    refine z_iload dL_law_1957 rfl ?_
    refine z_i2l dL_law_1959 ?_
    refine z_lcmp dL_law_1960 (zcmp_self _) ?_
    refine z_if_eq (tgt := 1966) dL_law_1961 (by decide) (fun _ => ?_) (fun q => absurd (rfl) q)
    refine z_goto (tgt := 2299) dL_law_1966 (by decide) ?_
    refine z_widen (ca' := 400 + 28 * (i + 1)) (sl' := 60000 + 2800 * (i + 1)) (by show 400 + 28 * i + 1 + 0 + 0 ≤ _; omega) (by show 60000 + 2800 * i + 6 + 0 + 0 ≤ _; omega) ?_
    exact kk _ _ _ _ _ _ (zLI_ok (hT2.frm fr) hmd3 hun2 ok2 hun ((fr _ (by omega)).trans hf4) (by omega))
  · obtain ⟨hT2, f4, hf4⟩ := q2 c0
    have hM2 := hb2 c0
    refine z_if_ne (tgt := 1966) dL_law_1951 (by decide) (fun _ => ?_) (fun q => absurd q ((fun w => c0 ((nI_eq (a := c) (b := 0) hcl (by decide)).mp w))))
    refine z_goto (tgt := 2299) dL_law_1966 (by decide) ?_
    refine z_widen (ca' := 400 + 28 * (i + 1)) (sl' := 60000 + 2800 * (i + 1)) (by show 400 + 28 * i + 1 + 0 + 0 ≤ _; omega) (by show 60000 + 2800 * i + 6 + 0 + 0 ≤ _; omega) ?_
    exact kk _ _ _ _ _ _ (zLI_ok (hT2.frm fr) hmd3 ⟨un, by omega, hM2⟩ ok hun ((fr _ (by omega)).trans hf4) (by omega))
set_option maxRecDepth 100000 in
set_option maxHeartbeats 1000000 in
theorem law_30 (hG : zKap G) (hL : L ≤ 2048) (hi : 4 * i + 4 ≤ L) (hI : zLI G σ nx b i) (kk : zKont G a b L xs i) : zWP G kL_law (zSc a L xs (zLF a)) 1969 (zLls a b i x5 x6 x7 x8) [] σ nx (400 + 28 * i) (60000 + 2800 * i) := by
  obtain ⟨⟨nt, lim, mem, wk, slow, r, L1, A, tk, sp, cs⟩, un, S, f, hT, hmd, hM, ok, hun, ho, hnx⟩ := hI
  refine z_aload_n dL_law_1969 rfl ?_
  refine z_aload_n dL_law_1970 rfl ?_
  refine z_iload dL_law_1971 rfl ?_
  refine z_iconst (v := 1) dL_law_1973 (by decide) ?_
  refine z_iadd dL_law_1974 ?_
  rw [zadd1]
  refine z_sldn (by omega) hL dL_law_1975 ?_
  refine z_aload_n dL_law_1976 rfl ?_
  refine z_callH dL_law_1977 ch_L_221 (w_partitionOf (b := b) (hi := b + 109) (o := b + 108) hG hnx ok hT ho (by omega) (by omega)) rfl rfl ⟨(Nat.le_of_ble_eq_true rfl), (Nat.le_of_ble_eq_true rfl)⟩ (by show 400 + 28 * i + 1 ≤ 601024; omega) (by show 60000 + 2800 * i + 6 ≤ 7293034; omega) (Nat.le_of_ble_eq_true rfl) (fun v s1 n1 hx1 hq1 => ?_)
  have hmd1 := hq1.md hmd
  obtain ⟨rfl, q1, q2, -⟩ := hq1
  have hm := m_partitionOf (G := G) (m := b + 74) (x := (xs (4 * i + 1))) (S := S) (un := un) (by omega) ok hM
  have hok := fun (σ9 : zH) (u9 : zUv) (w9 : Int32) => o_partitionOf (G := G) (σ := σ9) (b := b) (hi := b + 109) (u' := u9) (w := w9) (x := (xs (4 * i + 1))) ok
  have hcl : (zk_node A.length (xs (4 * i + 1))) < 2 ^ 31 := by unfold zk_node; repeat (first | split | decide)
  generalize (zk_node A.length (xs (4 * i + 1))) = c at q1 q2 hm hok hcl ⊢
  generalize hP : (zPq (nt, lim, mem, wk, slow, r, L1, A, tk, sp, cs) (zAc (A.getD (xs (4 * i + 1)).toNatClampNeg (0, 0, 0, 0, 0, false)) 1)) = P at q1 hm hok
  clear hP
  refine z_istore dL_law_1980 (by decide) ?_
  refine z_aload_n dL_law_1982 rfl ?_
  refine z_aload_n dL_law_1983 rfl ?_
  refine z_iload dL_law_1984 rfl ?_
  refine z_iconst (v := 1) dL_law_1986 (by decide) ?_
  refine z_iadd dL_law_1987 ?_
  rw [zadd1]
  refine z_sldn (by omega) hL dL_law_1988 ?_
  refine z_callV dL_law_1989 cv_L_223 (hm s1 n1 hmd1) rfl hmd1.1 rfl rfl ⟨(Nat.le_of_ble_eq_true rfl), (Nat.le_of_ble_eq_true rfl)⟩ (by show 400 + 28 * i + 1 + 0 ≤ 601024; omega) (by show 60000 + 2800 * i + 6 + 0 ≤ 7293034; omega) (Nat.le_of_ble_eq_true rfl) (fun v s2 n2 hx2 hq2 => ?_)
  obtain ⟨rfl, f2, S2, hmd2, ⟨w2, rfl⟩, ht, hb1, hb2⟩ := hq2
  refine z_istore dL_law_1992 (by decide) ?_
  refine z_aload_n dL_law_1994 rfl ?_
  refine z_callV dL_law_1995 cv_L_123 (c_thrown s2 _ hmd2) rfl hmd2.1 rfl rfl ⟨(Nat.le_of_ble_eq_true rfl), (Nat.le_of_ble_eq_true rfl)⟩ (by show 400 + 28 * i + 1 + 0 + 0 ≤ 601024; omega) (by show 60000 + 2800 * i + 6 + 0 + 0 ≤ 7293034; omega) (Nat.le_of_ble_eq_true rfl) (fun v s3 n3 hx3 hq3 => ?_)
  obtain ⟨rfl, f3, S3, hmd3, rfl, rfl⟩ := hq3
  have fr : zFr s1 s3 (b + 74) 34 := fun x q => (f3 x q).trans (f2 x q)
  refine z_iload dL_law_1998 rfl ?_
  refine z_icmp_eq (tgt := 2005) dL_law_2000 (by decide) (fun _ => ?_) (fun q => absurd (ht) q)
  refine z_iload dL_law_2005 rfl ?_
  by_cases c0 : c = 0
  · obtain ⟨u', w, hP, hT2, f4, hf4, hf0⟩ := q1 c0
    obtain ⟨hw, hun2⟩ := hb1 c0 u' w hP
    have ok2 := hok _ _ _ c0 hP hT2
    cases hw
    refine z_if_ne (tgt := 2022) dL_law_2007 (by decide) (fun q => absurd ((show nI c = 0 by rw [c0]; rfl)) q) (fun _ => ?_)
    refine z_aload_n dL_law_2010 rfl ?_
    refine z_iconst (v := 0) dL_law_2011 (by decide) ?_
    refine z_lald dL_law_2012 ((fr _ (by omega)).trans hf4) zin01 ?_
    rw [show (0 : Int32).toNatClampNeg = 0 by decide, hf0]
    refine z_iload dL_law_2013 rfl ?_
    refine z_i2l dL_law_2015 ?_
    refine z_lcmp dL_law_2016 (zcmp_self _) ?_
    refine z_if_eq (tgt := 2022) dL_law_2017 (by decide) (fun _ => ?_) (fun q => absurd (rfl) q)
    refine z_goto (tgt := 2299) dL_law_2022 (by decide) ?_
    refine z_widen (ca' := 400 + 28 * (i + 1)) (sl' := 60000 + 2800 * (i + 1)) (by show 400 + 28 * i + 1 + 0 + 0 ≤ _; omega) (by show 60000 + 2800 * i + 6 + 0 + 0 ≤ _; omega) ?_
    exact kk _ _ _ _ _ _ (zLI_ok (hT2.frm fr) hmd3 hun2 ok2 hun ((fr _ (by omega)).trans hf4) (by omega))
  · obtain ⟨hT2, f4, hf4⟩ := q2 c0
    have hM2 := hb2 c0
    refine z_if_ne (tgt := 2022) dL_law_2007 (by decide) (fun _ => ?_) (fun q => absurd q ((fun w => c0 ((nI_eq (a := c) (b := 0) hcl (by decide)).mp w))))
    refine z_goto (tgt := 2299) dL_law_2022 (by decide) ?_
    refine z_widen (ca' := 400 + 28 * (i + 1)) (sl' := 60000 + 2800 * (i + 1)) (by show 400 + 28 * i + 1 + 0 + 0 ≤ _; omega) (by show 60000 + 2800 * i + 6 + 0 + 0 ≤ _; omega) ?_
    exact kk _ _ _ _ _ _ (zLI_ok (hT2.frm fr) hmd3 ⟨un, by omega, hM2⟩ ok hun ((fr _ (by omega)).trans hf4) (by omega))
set_option maxRecDepth 100000 in
set_option maxHeartbeats 1000000 in
theorem law_31 (hG : zKap G) (hL : L ≤ 2048) (hi : 4 * i + 4 ≤ L) (hI : zLI G σ nx b i) (kk : zKont G a b L xs i) : zWP G kL_law (zSc a L xs (zLF a)) 2025 (zLls a b i x5 x6 x7 x8) [] σ nx (400 + 28 * i) (60000 + 2800 * i) := by
  obtain ⟨⟨nt, lim, mem, wk, slow, r, L1, A, tk, sp, cs⟩, un, S, f, hT, hmd, hM, ok, hun, ho, hnx⟩ := hI
  refine z_aload_n dL_law_2025 rfl ?_
  refine z_aload_n dL_law_2026 rfl ?_
  refine z_iload dL_law_2027 rfl ?_
  refine z_iconst (v := 1) dL_law_2029 (by decide) ?_
  refine z_iadd dL_law_2030 ?_
  rw [zadd1]
  refine z_sldn (by omega) hL dL_law_2031 ?_
  refine z_aload_n dL_law_2032 rfl ?_
  refine z_callH dL_law_2033 ch_L_224 (w_workerOf (b := b) (hi := b + 109) (o := b + 108) hG hnx ok hT ho (by omega) (by omega)) rfl rfl ⟨(Nat.le_of_ble_eq_true rfl), (Nat.le_of_ble_eq_true rfl)⟩ (by show 400 + 28 * i + 1 ≤ 601024; omega) (by show 60000 + 2800 * i + 6 ≤ 7293034; omega) (Nat.le_of_ble_eq_true rfl) (fun v s1 n1 hx1 hq1 => ?_)
  have hmd1 := hq1.md hmd
  obtain ⟨rfl, q1, q2, -⟩ := hq1
  have hm := m_workerOf (G := G) (m := b + 74) (x := (xs (4 * i + 1))) (S := S) (un := un) (by omega) ok hM
  have hok := fun (σ9 : zH) (u9 : zUv) (w9 : Int32) => o_workerOf (G := G) (σ := σ9) (b := b) (hi := b + 109) (u' := u9) (w := w9) (x := (xs (4 * i + 1))) ok
  have hcl : (zk_node A.length (xs (4 * i + 1))) < 2 ^ 31 := by unfold zk_node; repeat (first | split | decide)
  generalize (zk_node A.length (xs (4 * i + 1))) = c at q1 q2 hm hok hcl ⊢
  generalize hP : (zPq (nt, lim, mem, wk, slow, r, L1, A, tk, sp, cs) (zAc (A.getD (xs (4 * i + 1)).toNatClampNeg (0, 0, 0, 0, 0, false)) 2)) = P at q1 hm hok
  clear hP
  refine z_istore dL_law_2036 (by decide) ?_
  refine z_aload_n dL_law_2038 rfl ?_
  refine z_aload_n dL_law_2039 rfl ?_
  refine z_iload dL_law_2040 rfl ?_
  refine z_iconst (v := 1) dL_law_2042 (by decide) ?_
  refine z_iadd dL_law_2043 ?_
  rw [zadd1]
  refine z_sldn (by omega) hL dL_law_2044 ?_
  refine z_callV dL_law_2045 cv_L_226 (hm s1 n1 hmd1) rfl hmd1.1 rfl rfl ⟨(Nat.le_of_ble_eq_true rfl), (Nat.le_of_ble_eq_true rfl)⟩ (by show 400 + 28 * i + 1 + 0 ≤ 601024; omega) (by show 60000 + 2800 * i + 6 + 0 ≤ 7293034; omega) (Nat.le_of_ble_eq_true rfl) (fun v s2 n2 hx2 hq2 => ?_)
  obtain ⟨rfl, f2, S2, hmd2, ⟨w2, rfl⟩, ht, hb1, hb2⟩ := hq2
  refine z_istore dL_law_2048 (by decide) ?_
  refine z_aload_n dL_law_2050 rfl ?_
  refine z_callV dL_law_2051 cv_L_123 (c_thrown s2 _ hmd2) rfl hmd2.1 rfl rfl ⟨(Nat.le_of_ble_eq_true rfl), (Nat.le_of_ble_eq_true rfl)⟩ (by show 400 + 28 * i + 1 + 0 + 0 ≤ 601024; omega) (by show 60000 + 2800 * i + 6 + 0 + 0 ≤ 7293034; omega) (Nat.le_of_ble_eq_true rfl) (fun v s3 n3 hx3 hq3 => ?_)
  obtain ⟨rfl, f3, S3, hmd3, rfl, rfl⟩ := hq3
  have fr : zFr s1 s3 (b + 74) 34 := fun x q => (f3 x q).trans (f2 x q)
  refine z_iload dL_law_2054 rfl ?_
  refine z_icmp_eq (tgt := 2061) dL_law_2056 (by decide) (fun _ => ?_) (fun q => absurd (ht) q)
  refine z_iload dL_law_2061 rfl ?_
  by_cases c0 : c = 0
  · obtain ⟨u', w, hP, hT2, f4, hf4, hf0⟩ := q1 c0
    obtain ⟨hw, hun2⟩ := hb1 c0 u' w hP
    have ok2 := hok _ _ _ c0 hP hT2
    cases hw
    refine z_if_ne (tgt := 2078) dL_law_2063 (by decide) (fun q => absurd ((show nI c = 0 by rw [c0]; rfl)) q) (fun _ => ?_)
    refine z_aload_n dL_law_2066 rfl ?_
    refine z_iconst (v := 0) dL_law_2067 (by decide) ?_
    refine z_lald dL_law_2068 ((fr _ (by omega)).trans hf4) zin01 ?_
    rw [show (0 : Int32).toNatClampNeg = 0 by decide, hf0]
    refine z_iload dL_law_2069 rfl ?_
    refine z_i2l dL_law_2071 ?_
    refine z_lcmp dL_law_2072 (zcmp_self _) ?_
    refine z_if_eq (tgt := 2078) dL_law_2073 (by decide) (fun _ => ?_) (fun q => absurd (rfl) q)
    refine z_goto (tgt := 2299) dL_law_2078 (by decide) ?_
    refine z_widen (ca' := 400 + 28 * (i + 1)) (sl' := 60000 + 2800 * (i + 1)) (by show 400 + 28 * i + 1 + 0 + 0 ≤ _; omega) (by show 60000 + 2800 * i + 6 + 0 + 0 ≤ _; omega) ?_
    exact kk _ _ _ _ _ _ (zLI_ok (hT2.frm fr) hmd3 hun2 ok2 hun ((fr _ (by omega)).trans hf4) (by omega))
  · obtain ⟨hT2, f4, hf4⟩ := q2 c0
    have hM2 := hb2 c0
    refine z_if_ne (tgt := 2078) dL_law_2063 (by decide) (fun _ => ?_) (fun q => absurd q ((fun w => c0 ((nI_eq (a := c) (b := 0) hcl (by decide)).mp w))))
    refine z_goto (tgt := 2299) dL_law_2078 (by decide) ?_
    refine z_widen (ca' := 400 + 28 * (i + 1)) (sl' := 60000 + 2800 * (i + 1)) (by show 400 + 28 * i + 1 + 0 + 0 ≤ _; omega) (by show 60000 + 2800 * i + 6 + 0 + 0 ≤ _; omega) ?_
    exact kk _ _ _ _ _ _ (zLI_ok (hT2.frm fr) hmd3 ⟨un, by omega, hM2⟩ ok hun ((fr _ (by omega)).trans hf4) (by omega))
end
