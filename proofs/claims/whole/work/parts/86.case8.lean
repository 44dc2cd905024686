/-! the law: its cases, 8 -/
section
variable {G : zG} {a b L i nx : Nat} {xs : Nat → Int32} {σ : zH} {x5 x6 x7 x8 : Option Value}
set_option maxRecDepth 100000 in
set_option maxHeartbeats 1000000 in
theorem law_32 (hG : zKap G) (hL : L ≤ 2048) (hi : 4 * i + 4 ≤ L) (hI : zLI G σ nx b i) (kk : zKont G a b L xs i) : zWP G kL_law (zSc a L xs (zLF a)) 2081 (zLls a b i x5 x6 x7 x8) [] σ nx (400 + 28 * i) (60000 + 2800 * i) := by
  obtain ⟨⟨nt, lim, mem, wk, slow, r, L1, A, tk, sp, cs⟩, un, S, f, hT, hmd, hM, ok, hun, ho, hnx⟩ := hI
  refine z_aload_n dL_law_2081 rfl ?_
  refine z_aload_n dL_law_2082 rfl ?_
  refine z_iload dL_law_2083 rfl ?_
  refine z_iconst (v := 1) dL_law_2085 (by decide) ?_
  refine z_iadd dL_law_2086 ?_
  rw [zadd1]
  refine z_sldn (by omega) hL dL_law_2087 ?_
  refine z_aload_n dL_law_2088 rfl ?_
  refine z_callH dL_law_2089 ch_L_227 (w_startOf (b := b) (hi := b + 109) (o := b + 108) hG hnx ok hT ho (by omega) (by omega)) rfl rfl ⟨(Nat.le_of_ble_eq_true rfl), (Nat.le_of_ble_eq_true rfl)⟩ (by show 400 + 28 * i + 1 ≤ 601024; omega) (by show 60000 + 2800 * i + 6 ≤ 7293034; omega) (Nat.le_of_ble_eq_true rfl) (fun v s1 n1 hx1 hq1 => ?_)
  have hmd1 := hq1.md hmd
  obtain ⟨rfl, q1, q2, -⟩ := hq1
  have hm := m_startOf (G := G) (m := b + 74) (x := (xs (4 * i + 1))) (S := S) (un := un) (by omega) ok hM
  have hok := fun (σ9 : zH) (u9 : zUv) (w9 : Int32) => o_startOf (G := G) (σ := σ9) (b := b) (hi := b + 109) (u' := u9) (w := w9) (x := (xs (4 * i + 1))) ok
  have hcl : (zk_node A.length (xs (4 * i + 1))) < 2 ^ 31 := by unfold zk_node; repeat (first | split | decide)
  generalize (zk_node A.length (xs (4 * i + 1))) = c at q1 q2 hm hok hcl ⊢
  generalize hP : (zPq (nt, lim, mem, wk, slow, r, L1, A, tk, sp, cs) (zAc (A.getD (xs (4 * i + 1)).toNatClampNeg (0, 0, 0, 0, 0, false)) 3)) = P at q1 hm hok
  clear hP
  refine z_istore dL_law_2092 (by decide) ?_
  refine z_aload_n dL_law_2094 rfl ?_
  refine z_aload_n dL_law_2095 rfl ?_
  refine z_iload dL_law_2096 rfl ?_
  refine z_iconst (v := 1) dL_law_2098 (by decide) ?_
  refine z_iadd dL_law_2099 ?_
  rw [zadd1]
  refine z_sldn (by omega) hL dL_law_2100 ?_
  refine z_callV dL_law_2101 cv_L_229 (hm s1 n1 hmd1) rfl hmd1.1 rfl rfl ⟨(Nat.le_of_ble_eq_true rfl), (Nat.le_of_ble_eq_true rfl)⟩ (by show 400 + 28 * i + 1 + 0 ≤ 601024; omega) (by show 60000 + 2800 * i + 6 + 0 ≤ 7293034; omega) (Nat.le_of_ble_eq_true rfl) (fun v s2 n2 hx2 hq2 => ?_)
  obtain ⟨rfl, f2, S2, hmd2, ⟨w2, rfl⟩, ht, hb1, hb2⟩ := hq2
  refine z_istore dL_law_2104 (by decide) ?_
  refine z_aload_n dL_law_2106 rfl ?_
  refine z_callV dL_law_2107 cv_L_123 (c_thrown s2 _ hmd2) rfl hmd2.1 rfl rfl ⟨(Nat.le_of_ble_eq_true rfl), (Nat.le_of_ble_eq_true rfl)⟩ (by show 400 + 28 * i + 1 + 0 + 0 ≤ 601024; omega) (by show 60000 + 2800 * i + 6 + 0 + 0 ≤ 7293034; omega) (Nat.le_of_ble_eq_true rfl) (fun v s3 n3 hx3 hq3 => ?_)
  obtain ⟨rfl, f3, S3, hmd3, rfl, rfl⟩ := hq3
  have fr : zFr s1 s3 (b + 74) 34 := fun x q => (f3 x q).trans (f2 x q)
  refine z_iload dL_law_2110 rfl ?_
  refine z_icmp_eq (tgt := 2117) dL_law_2112 (by decide) (fun _ => ?_) (fun q => absurd (ht) q)
  refine z_iload dL_law_2117 rfl ?_
  by_cases c0 : c = 0
  · obtain ⟨u', w, hP, hT2, f4, hf4, hf0⟩ := q1 c0
    obtain ⟨hw, hun2⟩ := hb1 c0 u' w hP
    have ok2 := hok _ _ _ c0 hP hT2
    cases hw
    refine z_if_ne (tgt := 2134) dL_law_2119 (by decide) (fun q => absurd ((show nI c = 0 by rw [c0]; rfl)) q) (fun _ => ?_)
    refine z_aload_n dL_law_2122 rfl ?_
    refine z_iconst (v := 0) dL_law_2123 (by decide) ?_
    refine z_lald dL_law_2124 ((fr _ (by omega)).trans hf4) zin01 ?_
    rw [show (0 : Int32).toNatClampNeg = 0 by decide, hf0]
    refine z_iload dL_law_2125 rfl ?_
    refine z_i2l dL_law_2127 ?_
    refine z_lcmp dL_law_2128 (zcmp_self _) ?_
    refine z_if_eq (tgt := 2134) dL_law_2129 (by decide) (fun _ => ?_) (fun q => absurd (rfl) q)
    refine z_goto (tgt := 2299) dL_law_2134 (by decide) ?_
    refine z_widen (ca' := 400 + 28 * (i + 1)) (sl' := 60000 + 2800 * (i + 1)) (by show 400 + 28 * i + 1 + 0 + 0 ≤ _; omega) (by show 60000 + 2800 * i + 6 + 0 + 0 ≤ _; omega) ?_
    exact kk _ _ _ _ _ _ (zLI_ok (hT2.frm fr) hmd3 hun2 ok2 hun ((fr _ (by omega)).trans hf4) (by omega))
  · obtain ⟨hT2, f4, hf4⟩ := q2 c0
    have hM2 := hb2 c0
    refine z_if_ne (tgt := 2134) dL_law_2119 (by decide) (fun _ => ?_) (fun q => absurd q ((fun w => c0 ((nI_eq (a := c) (b := 0) hcl (by decide)).mp w))))
    refine z_goto (tgt := 2299) dL_law_2134 (by decide) ?_
    refine z_widen (ca' := 400 + 28 * (i + 1)) (sl' := 60000 + 2800 * (i + 1)) (by show 400 + 28 * i + 1 + 0 + 0 ≤ _; omega) (by show 60000 + 2800 * i + 6 + 0 + 0 ≤ _; omega) ?_
    exact kk _ _ _ _ _ _ (zLI_ok (hT2.frm fr) hmd3 ⟨un, by omega, hM2⟩ ok hun ((fr _ (by omega)).trans hf4) (by omega))
set_option maxRecDepth 100000 in
set_option maxHeartbeats 1000000 in
theorem law_33 (hG : zKap G) (hL : L ≤ 2048) (hi : 4 * i + 4 ≤ L) (hI : zLI G σ nx b i) (kk : zKont G a b L xs i) : zWP G kL_law (zSc a L xs (zLF a)) 2137 (zLls a b i x5 x6 x7 x8) [] σ nx (400 + 28 * i) (60000 + 2800 * i) := by
  obtain ⟨⟨nt, lim, mem, wk, slow, r, L1, A, tk, sp, cs⟩, un, S, f, hT, hmd, hM, ok, hun, ho, hnx⟩ := hI
  refine z_aload_n dL_law_2137 rfl ?_
  refine z_aload_n dL_law_2138 rfl ?_
  refine z_iload dL_law_2139 rfl ?_
  refine z_iconst (v := 1) dL_law_2141 (by decide) ?_
  refine z_iadd dL_law_2142 ?_
  rw [zadd1]
  refine z_sldn (by omega) hL dL_law_2143 ?_
  refine z_aload_n dL_law_2144 rfl ?_
  refine z_callH dL_law_2145 ch_L_230 (w_endOf (b := b) (hi := b + 109) (o := b + 108) hG hnx ok hT ho (by omega) (by omega)) rfl rfl ⟨(Nat.le_of_ble_eq_true rfl), (Nat.le_of_ble_eq_true rfl)⟩ (by show 400 + 28 * i + 1 ≤ 601024; omega) (by show 60000 + 2800 * i + 6 ≤ 7293034; omega) (Nat.le_of_ble_eq_true rfl) (fun v s1 n1 hx1 hq1 => ?_)
  have hmd1 := hq1.md hmd
  obtain ⟨rfl, q1, q2, -⟩ := hq1
  have hm := m_endOf (G := G) (m := b + 74) (x := (xs (4 * i + 1))) (S := S) (un := un) (by omega) ok hM
  have hok := fun (σ9 : zH) (u9 : zUv) (w9 : Int32) => o_endOf (G := G) (σ := σ9) (b := b) (hi := b + 109) (u' := u9) (w := w9) (x := (xs (4 * i + 1))) ok
  have hcl : (zk_node A.length (xs (4 * i + 1))) < 2 ^ 31 := by unfold zk_node; repeat (first | split | decide)
  generalize (zk_node A.length (xs (4 * i + 1))) = c at q1 q2 hm hok hcl ⊢
  generalize hP : (zPq (nt, lim, mem, wk, slow, r, L1, A, tk, sp, cs) (zAc (A.getD (xs (4 * i + 1)).toNatClampNeg (0, 0, 0, 0, 0, false)) 4)) = P at q1 hm hok
  clear hP
  refine z_istore dL_law_2148 (by decide) ?_
  refine z_aload_n dL_law_2150 rfl ?_
  refine z_aload_n dL_law_2151 rfl ?_
  refine z_iload dL_law_2152 rfl ?_
  refine z_iconst (v := 1) dL_law_2154 (by decide) ?_
  refine z_iadd dL_law_2155 ?_
  rw [zadd1]
  refine z_sldn (by omega) hL dL_law_2156 ?_
  refine z_callV dL_law_2157 cv_L_232 (hm s1 n1 hmd1) rfl hmd1.1 rfl rfl ⟨(Nat.le_of_ble_eq_true rfl), (Nat.le_of_ble_eq_true rfl)⟩ (by show 400 + 28 * i + 1 + 0 ≤ 601024; omega) (by show 60000 + 2800 * i + 6 + 0 ≤ 7293034; omega) (Nat.le_of_ble_eq_true rfl) (fun v s2 n2 hx2 hq2 => ?_)
  obtain ⟨rfl, f2, S2, hmd2, ⟨w2, rfl⟩, ht, hb1, hb2⟩ := hq2
  refine z_istore dL_law_2160 (by decide) ?_
  refine z_aload_n dL_law_2162 rfl ?_
  refine z_callV dL_law_2163 cv_L_123 (c_thrown s2 _ hmd2) rfl hmd2.1 rfl rfl ⟨(Nat.le_of_ble_eq_true rfl), (Nat.le_of_ble_eq_true rfl)⟩ (by show 400 + 28 * i + 1 + 0 + 0 ≤ 601024; omega) (by show 60000 + 2800 * i + 6 + 0 + 0 ≤ 7293034; omega) (Nat.le_of_ble_eq_true rfl) (fun v s3 n3 hx3 hq3 => ?_)
  obtain ⟨rfl, f3, S3, hmd3, rfl, rfl⟩ := hq3
  have fr : zFr s1 s3 (b + 74) 34 := fun x q => (f3 x q).trans (f2 x q)
  refine z_iload dL_law_2166 rfl ?_
  refine z_icmp_eq (tgt := 2173) dL_law_2168 (by decide) (fun _ => ?_) (fun q => absurd (ht) q)
  refine z_iload dL_law_2173 rfl ?_
  by_cases c0 : c = 0
  · obtain ⟨u', w, hP, hT2, f4, hf4, hf0⟩ := q1 c0
    obtain ⟨hw, hun2⟩ := hb1 c0 u' w hP
    have ok2 := hok _ _ _ c0 hP hT2
    cases hw
    refine z_if_ne (tgt := 2190) dL_law_2175 (by decide) (fun q => absurd ((show nI c = 0 by rw [c0]; rfl)) q) (fun _ => ?_)
    refine z_aload_n dL_law_2178 rfl ?_
    refine z_iconst (v := 0) dL_law_2179 (by decide) ?_
    refine z_lald dL_law_2180 ((fr _ (by omega)).trans hf4) zin01 ?_
    rw [show (0 : Int32).toNatClampNeg = 0 by decide, hf0]
    refine z_iload dL_law_2181 rfl ?_
    refine z_i2l dL_law_2183 ?_
    refine z_lcmp dL_law_2184 (zcmp_self _) ?_
    refine z_if_eq (tgt := 2190) dL_law_2185 (by decide) (fun _ => ?_) (fun q => absurd (rfl) q)
    refine z_goto (tgt := 2299) dL_law_2190 (by decide) ?_
    refine z_widen (ca' := 400 + 28 * (i + 1)) (sl' := 60000 + 2800 * (i + 1)) (by show 400 + 28 * i + 1 + 0 + 0 ≤ _; omega) (by show 60000 + 2800 * i + 6 + 0 + 0 ≤ _; omega) ?_
    exact kk _ _ _ _ _ _ (zLI_ok (hT2.frm fr) hmd3 hun2 ok2 hun ((fr _ (by omega)).trans hf4) (by omega))
  · obtain ⟨hT2, f4, hf4⟩ := q2 c0
    have hM2 := hb2 c0
    refine z_if_ne (tgt := 2190) dL_law_2175 (by decide) (fun _ => ?_) (fun q => absurd q ((fun w => c0 ((nI_eq (a := c) (b := 0) hcl (by decide)).mp w))))
    refine z_goto (tgt := 2299) dL_law_2190 (by decide) ?_
    refine z_widen (ca' := 400 + 28 * (i + 1)) (sl' := 60000 + 2800 * (i + 1)) (by show 400 + 28 * i + 1 + 0 + 0 ≤ _; omega) (by show 60000 + 2800 * i + 6 + 0 + 0 ≤ _; omega) ?_
    exact kk _ _ _ _ _ _ (zLI_ok (hT2.frm fr) hmd3 ⟨un, by omega, hM2⟩ ok hun ((fr _ (by omega)).trans hf4) (by omega))
set_option maxRecDepth 100000 in
set_option maxHeartbeats 1000000 in
theorem law_34 (hG : zKap G) (hL : L ≤ 2048) (hi : 4 * i + 4 ≤ L) (hI : zLI G σ nx b i) (kk : zKont G a b L xs i) : zWP G kL_law (zSc a L xs (zLF a)) 2193 (zLls a b i x5 x6 x7 x8) [] σ nx (400 + 28 * i) (60000 + 2800 * i) := by
  obtain ⟨⟨nt, lim, mem, wk, slow, r, L1, A, tk, sp, cs⟩, un, S, f, hT, hmd, hM, ok, hun, ho, hnx⟩ := hI
  refine z_aload_n dL_law_2193 rfl ?_
  refine z_aload_n dL_law_2194 rfl ?_
  refine z_iload dL_law_2195 rfl ?_
  refine z_iconst (v := 1) dL_law_2197 (by decide) ?_
  refine z_iadd dL_law_2198 ?_
  rw [zadd1]
  refine z_sldn (by omega) hL dL_law_2199 ?_
  refine z_aload_n dL_law_2200 rfl ?_
  refine z_callH dL_law_2201 ch_L_233 (w_isCopy (b := b) (hi := b + 109) (o := b + 108) hG hnx ok hT ho (by omega) (by omega)) rfl rfl ⟨(Nat.le_of_ble_eq_true rfl), (Nat.le_of_ble_eq_true rfl)⟩ (by show 400 + 28 * i + 1 ≤ 601024; omega) (by show 60000 + 2800 * i + 6 ≤ 7293034; omega) (Nat.le_of_ble_eq_true rfl) (fun v s1 n1 hx1 hq1 => ?_)
  have hmd1 := hq1.md hmd
  obtain ⟨rfl, q1, q2, -⟩ := hq1
  have hm := m_isCopy (G := G) (m := b + 74) (x := (xs (4 * i + 1))) (S := S) (un := un) (by omega) ok hM
  have hok := fun (σ9 : zH) (u9 : zUv) (w9 : Int32) => o_isCopy (G := G) (σ := σ9) (b := b) (hi := b + 109) (u' := u9) (w := w9) (x := (xs (4 * i + 1))) ok
  have hcl : (zk_node A.length (xs (4 * i + 1))) < 2 ^ 31 := by unfold zk_node; repeat (first | split | decide)
  generalize (zk_node A.length (xs (4 * i + 1))) = c at q1 q2 hm hok hcl ⊢
  generalize hP : (zPq (nt, lim, mem, wk, slow, r, L1, A, tk, sp, cs) (zAc (A.getD (xs (4 * i + 1)).toNatClampNeg (0, 0, 0, 0, 0, false)) 5)) = P at q1 hm hok
  clear hP
  refine z_istore dL_law_2204 (by decide) ?_
  refine z_aload_n dL_law_2206 rfl ?_
  refine z_aload_n dL_law_2207 rfl ?_
  refine z_iload dL_law_2208 rfl ?_
  refine z_iconst (v := 1) dL_law_2210 (by decide) ?_
  refine z_iadd dL_law_2211 ?_
  rw [zadd1]
  refine z_sldn (by omega) hL dL_law_2212 ?_
  refine z_callV dL_law_2213 cv_L_235 (hm s1 n1 hmd1) rfl hmd1.1 rfl rfl ⟨(Nat.le_of_ble_eq_true rfl), (Nat.le_of_ble_eq_true rfl)⟩ (by show 400 + 28 * i + 1 + 0 ≤ 601024; omega) (by show 60000 + 2800 * i + 6 + 0 ≤ 7293034; omega) (Nat.le_of_ble_eq_true rfl) (fun v s2 n2 hx2 hq2 => ?_)
  obtain ⟨rfl, f2, S2, hmd2, ⟨w2, rfl⟩, ht, hb1, hb2⟩ := hq2
  refine z_istore dL_law_2216 (by decide) ?_
  refine z_aload_n dL_law_2218 rfl ?_
  refine z_callV dL_law_2219 cv_L_123 (c_thrown s2 _ hmd2) rfl hmd2.1 rfl rfl ⟨(Nat.le_of_ble_eq_true rfl), (Nat.le_of_ble_eq_true rfl)⟩ (by show 400 + 28 * i + 1 + 0 + 0 ≤ 601024; omega) (by show 60000 + 2800 * i + 6 + 0 + 0 ≤ 7293034; omega) (Nat.le_of_ble_eq_true rfl) (fun v s3 n3 hx3 hq3 => ?_)
  obtain ⟨rfl, f3, S3, hmd3, rfl, rfl⟩ := hq3
  have fr : zFr s1 s3 (b + 74) 34 := fun x q => (f3 x q).trans (f2 x q)
  refine z_iload dL_law_2222 rfl ?_
  refine z_icmp_eq (tgt := 2229) dL_law_2224 (by decide) (fun _ => ?_) (fun q => absurd (ht) q)
  refine z_iload dL_law_2229 rfl ?_
  by_cases c0 : c = 0
  · obtain ⟨u', w, hP, hT2, f4, hf4, hf0⟩ := q1 c0
    obtain ⟨hw, hun2⟩ := hb1 c0 u' w hP
    have ok2 := hok _ _ _ c0 hP hT2
    cases hw
    refine z_if_ne (tgt := 2253) dL_law_2231 (by decide) (fun q => absurd ((show nI c = 0 by rw [c0]; rfl)) q) (fun _ => ?_)
    refine z_aload_n dL_law_2234 rfl ?_
    refine z_iconst (v := 0) dL_law_2235 (by decide) ?_
    refine z_lald dL_law_2236 ((fr _ (by omega)).trans hf4) zin01 ?_
    rw [show (0 : Int32).toNatClampNeg = 0 by decide, hf0]
    refine z_iload dL_law_2237 rfl ?_
    by_cases ew : w2 = 0
    · refine z_if_eq (tgt := 2246) dL_law_2239 (by decide) (fun _ => ?_) (fun q => absurd (ew) q)
      refine z_lconst (v := 0) dL_law_2246 (by decide) ?_
      rw [show zbl w2 = 0 from if_pos ew]
      refine z_lcmp dL_law_2247 (zcmp_self _) ?_
      refine z_if_eq (tgt := 2253) dL_law_2248 (by decide) (fun _ => ?_) (fun q => absurd (rfl) q)
      refine z_goto (tgt := 2299) dL_law_2253 (by decide) ?_
      refine z_widen (ca' := 400 + 28 * (i + 1)) (sl' := 60000 + 2800 * (i + 1)) (by show 400 + 28 * i + 1 + 0 + 0 ≤ _; omega) (by show 60000 + 2800 * i + 6 + 0 + 0 ≤ _; omega) ?_
      exact kk _ _ _ _ _ _ (zLI_ok (hT2.frm fr) hmd3 hun2 ok2 hun ((fr _ (by omega)).trans hf4) (by omega))
    · refine z_if_eq (tgt := 2246) dL_law_2239 (by decide) (fun q => absurd q (ew)) (fun _ => ?_)
      refine z_lconst (v := 1) dL_law_2242 (by decide) ?_
      refine z_goto (tgt := 2247) dL_law_2243 (by decide) ?_
      rw [show zbl w2 = 1 from if_neg ew]
      refine z_lcmp dL_law_2247 (zcmp_self _) ?_
      refine z_if_eq (tgt := 2253) dL_law_2248 (by decide) (fun _ => ?_) (fun q => absurd (rfl) q)
      refine z_goto (tgt := 2299) dL_law_2253 (by decide) ?_
      refine z_widen (ca' := 400 + 28 * (i + 1)) (sl' := 60000 + 2800 * (i + 1)) (by show 400 + 28 * i + 1 + 0 + 0 ≤ _; omega) (by show 60000 + 2800 * i + 6 + 0 + 0 ≤ _; omega) ?_
      exact kk _ _ _ _ _ _ (zLI_ok (hT2.frm fr) hmd3 hun2 ok2 hun ((fr _ (by omega)).trans hf4) (by omega))
  · obtain ⟨hT2, f4, hf4⟩ := q2 c0
    have hM2 := hb2 c0
    refine z_if_ne (tgt := 2253) dL_law_2231 (by decide) (fun _ => ?_) (fun q => absurd q ((fun w => c0 ((nI_eq (a := c) (b := 0) hcl (by decide)).mp w))))
    refine z_goto (tgt := 2299) dL_law_2253 (by decide) ?_
    refine z_widen (ca' := 400 + 28 * (i + 1)) (sl' := 60000 + 2800 * (i + 1)) (by show 400 + 28 * i + 1 + 0 + 0 ≤ _; omega) (by show 60000 + 2800 * i + 6 + 0 + 0 ≤ _; omega) ?_
    exact kk _ _ _ _ _ _ (zLI_ok (hT2.frm fr) hmd3 ⟨un, by omega, hM2⟩ ok hun ((fr _ (by omega)).trans hf4) (by omega))
set_option maxRecDepth 100000 in
set_option maxHeartbeats 1000000 in
theorem law_35 (hG : zKap G) (hL : L ≤ 2048) (hi : 4 * i + 4 ≤ L) (hI : zLI G σ nx b i) (kk : zKont G a b L xs i) : zWP G kL_law (zSc a L xs (zLF a)) 2256 (zLls a b i x5 x6 x7 x8) [] σ nx (400 + 28 * i) (60000 + 2800 * i) := by
  obtain ⟨⟨nt, lim, mem, wk, slow, r, L1, A, tk, sp, cs⟩, un, S, f, hT, hmd, hM, ok, hun, ho, hnx⟩ := hI
  obtain ⟨-, -, -, -, -, -, -, -, -, -, htk, hcs, -⟩ := id ok
  have hok := zshF_ok (A := A) hcs htk
  refine z_aload_n dL_law_2256 rfl ?_
  refine z_callV dL_law_2257 cv_L_236 (c_share_f hcs htk hT) rfl hT.1 rfl rfl ⟨(Nat.le_of_ble_eq_true rfl), (Nat.le_of_ble_eq_true rfl)⟩ (by show 400 + 28 * i + 0 ≤ 601024; omega) (by show 60000 + 2800 * i + 0 ≤ 7293034; omega) (Nat.le_of_ble_eq_true rfl) (fun v s1 n1 hx1 hq1 => ?_)
  obtain ⟨rfl, rfl, rfl⟩ := hq1
  refine z_f2d dL_law_2260 (zf2d_ok hok) ?_
  refine z_dstore dL_law_2261 (by decide) ?_
  refine z_aload_n dL_law_2263 rfl ?_
  refine z_callV dL_law_2264 cv_L_240 (c_m_share (m := b + 74) hcs htk hM s1 n1 hmd) rfl hmd.1 rfl rfl ⟨(Nat.le_of_ble_eq_true rfl), (Nat.le_of_ble_eq_true rfl)⟩ (by show 400 + 28 * i + 0 + 0 ≤ 601024; omega) (by show 60000 + 2800 * i + 0 + 0 ≤ 7293034; omega) (Nat.le_of_ble_eq_true rfl) (fun v s2 n2 hx2 hq2 => ?_)
  obtain ⟨rfl, fr, S2, hmd2, rfl, -, hM2⟩ := hq2
  refine z_f2d dL_law_2267 (zf2d_ok hok) ?_
  refine z_dstore dL_law_2268 (by decide) ?_
  refine z_dload dL_law_2270 rfl ?_
  refine z_dload dL_law_2272 rfl ?_
  refine z_dcmp dL_law_2274 ?_
  refine z_if_eq (tgt := 2296) dL_law_2275 (by decide) (fun _ => ?_) (fun q => absurd ((zdcmp_self hok)) q)
  refine z_goto (tgt := 2299) dL_law_2296 (by decide) ?_
  refine z_widen (ca' := 400 + 28 * (i + 1)) (sl' := 60000 + 2800 * (i + 1)) (by show 400 + 28 * i + 0 + 0 ≤ _; omega) (by show 60000 + 2800 * i + 0 + 0 ≤ _; omega) ?_
  exact kk _ _ _ _ _ _ (zLI_ok (u := (nt, lim, mem, wk, slow, r, L1, A, tk, sp, cs)) (zTu.frm hT fr) hmd2 ⟨un, by omega, hM2⟩ ok hun ((fr _ (by omega)).trans ho) (by omega))
end
