/-! the law: its cases, 4 -/
section
variable {G : zG} {a b L i nx : Nat} {xs : Nat → Int32} {σ : zH} {x5 x6 x7 x8 : Option Value}
set_option maxRecDepth 100000 in
set_option maxHeartbeats 1000000 in
theorem law_13 (hG : zKap G) (hL : L ≤ 2048) (hi : 4 * i + 4 ≤ L) (hI : zLI G σ nx b i) (kk : zKont G a b L xs i) : zWP G kL_law (zSc a L xs (zLF a)) 1073 (zLls a b i x5 x6 x7 x8) [] σ nx (400 + 28 * i) (60000 + 2800 * i) := by
  obtain ⟨⟨nt, lim, mem, wk, slow, r, L1, A, tk, sp, cs⟩, un, S, f, hT, hmd, hM, ok, hun, ho, hnx⟩ := hI
  refine z_aload_n dL_law_1073 rfl ?_
  refine z_aload_n dL_law_1074 rfl ?_
  refine z_iload dL_law_1075 rfl ?_
  refine z_iconst (v := 1) dL_law_1077 (by decide) ?_
  refine z_iadd dL_law_1078 ?_
  rw [zadd1]
  refine z_sldn (by omega) hL dL_law_1079 ?_
  refine z_aload_n dL_law_1080 rfl ?_
  refine z_callH dL_law_1081 ch_L_166 (w_isBroad (b := b) (hi := b + 109) (o := b + 108) hG hnx ok hT ho (by omega) (by omega)) rfl rfl ⟨(Nat.le_of_ble_eq_true rfl), (Nat.le_of_ble_eq_true rfl)⟩ (by show 400 + 28 * i + 2 ≤ 601024; omega) (by show 60000 + 2800 * i + 12 ≤ 7293034; omega) (Nat.le_of_ble_eq_true rfl) (fun v s1 n1 hx1 hq1 => ?_)
  have hmd1 := hq1.md hmd
  obtain ⟨rfl, q1, q2, -⟩ := hq1
  have hm := m_isBroad (G := G) (m := b + 74) (x := (xs (4 * i + 1))) (S := S) (un := un) (by omega) ok hM
  have hok := fun (σ9 : zH) (u9 : zUv) (w9 : Int32) => o_isBroad (G := G) (σ := σ9) (b := b) (hi := b + 109) (u' := u9) (w := w9) (x := (xs (4 * i + 1))) ok
  have hcl : (zk_join5 nt (xs (4 * i + 1))) < 2 ^ 31 := by unfold zk_join5; repeat (first | split | decide)
  generalize (zk_join5 nt (xs (4 * i + 1))) = c at q1 q2 hm hok hcl ⊢
  generalize hP : (zPq (nt, lim, mem, wk, slow, r, L1, A, tk, sp, cs) (if zbr lim nt (xs (4 * i + 1)).toNatClampNeg = true then 1 else 0)) = P at q1 hm hok
  clear hP
  refine z_istore dL_law_1084 (by decide) ?_
  refine z_aload_n dL_law_1086 rfl ?_
  refine z_aload_n dL_law_1087 rfl ?_
  refine z_iload dL_law_1088 rfl ?_
  refine z_iconst (v := 1) dL_law_1090 (by decide) ?_
  refine z_iadd dL_law_1091 ?_
  rw [zadd1]
  refine z_sldn (by omega) hL dL_law_1092 ?_
  refine z_callV dL_law_1093 cv_L_168 (hm s1 n1 hmd1) rfl hmd1.1 rfl rfl ⟨(Nat.le_of_ble_eq_true rfl), (Nat.le_of_ble_eq_true rfl)⟩ (by show 400 + 28 * i + 2 + 0 ≤ 601024; omega) (by show 60000 + 2800 * i + 12 + 0 ≤ 7293034; omega) (Nat.le_of_ble_eq_true rfl) (fun v s2 n2 hx2 hq2 => ?_)
  obtain ⟨rfl, f2, S2, hmd2, ⟨w2, rfl⟩, ht, hb1, hb2⟩ := hq2
  refine z_istore dL_law_1096 (by decide) ?_
  refine z_aload_n dL_law_1098 rfl ?_
  refine z_callV dL_law_1099 cv_L_123 (c_thrown s2 _ hmd2) rfl hmd2.1 rfl rfl ⟨(Nat.le_of_ble_eq_true rfl), (Nat.le_of_ble_eq_true rfl)⟩ (by show 400 + 28 * i + 2 + 0 + 0 ≤ 601024; omega) (by show 60000 + 2800 * i + 12 + 0 + 0 ≤ 7293034; omega) (Nat.le_of_ble_eq_true rfl) (fun v s3 n3 hx3 hq3 => ?_)
  obtain ⟨rfl, f3, S3, hmd3, rfl, rfl⟩ := hq3
  have fr : zFr s1 s3 (b + 74) 34 := fun x q => (f3 x q).trans (f2 x q)
  refine z_iload dL_law_1102 rfl ?_
  refine z_icmp_eq (tgt := 1109) dL_law_1104 (by decide) (fun _ => ?_) (fun q => absurd (ht) q)
  refine z_iload dL_law_1109 rfl ?_
  by_cases c0 : c = 0
  · obtain ⟨u', w, hP, hT2, f4, hf4, hf0⟩ := q1 c0
    obtain ⟨hw, hun2⟩ := hb1 c0 u' w hP
    have ok2 := hok _ _ _ c0 hP hT2
    cases hw
    refine z_if_ne (tgt := 1133) dL_law_1111 (by decide) (fun q => absurd ((show nI c = 0 by rw [c0]; rfl)) q) (fun _ => ?_)
    refine z_aload_n dL_law_1114 rfl ?_
    refine z_iconst (v := 0) dL_law_1115 (by decide) ?_
    refine z_lald dL_law_1116 ((fr _ (by omega)).trans hf4) zin01 ?_
    rw [show (0 : Int32).toNatClampNeg = 0 by decide, hf0]
    refine z_iload dL_law_1117 rfl ?_
    by_cases ew : w2 = 0
    · refine z_if_eq (tgt := 1126) dL_law_1119 (by decide) (fun _ => ?_) (fun q => absurd (ew) q)
      refine z_lconst (v := 0) dL_law_1126 (by decide) ?_
      rw [show zbl w2 = 0 from if_pos ew]
      refine z_lcmp dL_law_1127 (zcmp_self _) ?_
      refine z_if_eq (tgt := 1133) dL_law_1128 (by decide) (fun _ => ?_) (fun q => absurd (rfl) q)
      refine z_goto (tgt := 2299) dL_law_1133 (by decide) ?_
      refine z_widen (ca' := 400 + 28 * (i + 1)) (sl' := 60000 + 2800 * (i + 1)) (by show 400 + 28 * i + 2 + 0 + 0 ≤ _; omega) (by show 60000 + 2800 * i + 12 + 0 + 0 ≤ _; omega) ?_
      exact kk _ _ _ _ _ _ (zLI_ok (hT2.frm fr) hmd3 hun2 ok2 hun ((fr _ (by omega)).trans hf4) (by omega))
    · refine z_if_eq (tgt := 1126) dL_law_1119 (by decide) (fun q => absurd q (ew)) (fun _ => ?_)
      refine z_lconst (v := 1) dL_law_1122 (by decide) ?_
      refine z_goto (tgt := 1127) dL_law_1123 (by decide) ?_
      rw [show zbl w2 = 1 from if_neg ew]
      refine z_lcmp dL_law_1127 (zcmp_self _) ?_
      refine z_if_eq (tgt := 1133) dL_law_1128 (by decide) (fun _ => ?_) (fun q => absurd (rfl) q)
      refine z_goto (tgt := 2299) dL_law_1133 (by decide) ?_
      refine z_widen (ca' := 400 + 28 * (i + 1)) (sl' := 60000 + 2800 * (i + 1)) (by show 400 + 28 * i + 2 + 0 + 0 ≤ _; omega) (by show 60000 + 2800 * i + 12 + 0 + 0 ≤ _; omega) ?_
      exact kk _ _ _ _ _ _ (zLI_ok (hT2.frm fr) hmd3 hun2 ok2 hun ((fr _ (by omega)).trans hf4) (by omega))
  · obtain ⟨hT2, f4, hf4⟩ := q2 c0
    have hM2 := hb2 c0
    refine z_if_ne (tgt := 1133) dL_law_1111 (by decide) (fun _ => ?_) (fun q => absurd q ((fun w => c0 ((nI_eq (a := c) (b := 0) hcl (by decide)).mp w))))
    refine z_goto (tgt := 2299) dL_law_1133 (by decide) ?_
    refine z_widen (ca' := 400 + 28 * (i + 1)) (sl' := 60000 + 2800 * (i + 1)) (by show 400 + 28 * i + 2 + 0 + 0 ≤ _; omega) (by show 60000 + 2800 * i + 12 + 0 + 0 ≤ _; omega) ?_
    exact kk _ _ _ _ _ _ (zLI_ok (hT2.frm fr) hmd3 ⟨un, by omega, hM2⟩ ok hun ((fr _ (by omega)).trans hf4) (by omega))
set_option maxRecDepth 100000 in
set_option maxHeartbeats 1000000 in
theorem law_14 (hG : zKap G) (hL : L ≤ 2048) (hi : 4 * i + 4 ≤ L) (hI : zLI G σ nx b i) (kk : zKont G a b L xs i) : zWP G kL_law (zSc a L xs (zLF a)) 1136 (zLls a b i x5 x6 x7 x8) [] σ nx (400 + 28 * i) (60000 + 2800 * i) := by
  obtain ⟨⟨nt, lim, mem, wk, slow, r, L1, A, tk, sp, cs⟩, un, S, f, hT, hmd, hM, ok, hun, ho, hnx⟩ := hI
  refine z_aload_n dL_law_1136 rfl ?_
  refine z_aload_n dL_law_1137 rfl ?_
  refine z_iload dL_law_1138 rfl ?_
  refine z_iconst (v := 1) dL_law_1140 (by decide) ?_
  refine z_iadd dL_law_1141 ?_
  rw [zadd1]
  refine z_sldn (by omega) hL dL_law_1142 ?_
  refine z_aload_n dL_law_1143 rfl ?_
  refine z_callH dL_law_1144 ch_L_169 (w_digest (b := b) (hi := b + 109) (o := b + 108) hG hnx ok hT ho (by omega) (by omega)) rfl rfl ⟨(Nat.le_of_ble_eq_true rfl), (Nat.le_of_ble_eq_true rfl)⟩ (by show 400 + 28 * i + 1 ≤ 601024; omega) (by show 60000 + 2800 * i + 6 ≤ 7293034; omega) (Nat.le_of_ble_eq_true rfl) (fun v s1 n1 hx1 hq1 => ?_)
  have hmd1 := hq1.md hmd
  obtain ⟨rfl, q1, q2, -⟩ := hq1
  have hm := m_digest (G := G) (m := b + 74) (x := (xs (4 * i + 1))) (S := S) (un := un) (by omega) ok hM
  have hok := fun (σ9 : zH) (u9 : zUv) (w9 : Int32) => o_digest (G := G) (σ := σ9) (b := b) (hi := b + 109) (u' := u9) (w := w9) (x := (xs (4 * i + 1))) ok
  have hcl : (zk_node nt.length (xs (4 * i + 1))) < 2 ^ 31 := by unfold zk_node; repeat (first | split | decide)
  generalize (zk_node nt.length (xs (4 * i + 1))) = c at q1 q2 hm hok hcl ⊢
  generalize hP : (zPq (nt, lim, mem, wk, slow, r, L1, A, tk, sp, cs) (zsq (zct lim nt (xs (4 * i + 1)).toNatClampNeg).flatten)) = P at q1 hm hok
  clear hP
  refine z_istore dL_law_1147 (by decide) ?_
  refine z_aload_n dL_law_1149 rfl ?_
  refine z_aload_n dL_law_1150 rfl ?_
  refine z_iload dL_law_1151 rfl ?_
  refine z_iconst (v := 1) dL_law_1153 (by decide) ?_
  refine z_iadd dL_law_1154 ?_
  rw [zadd1]
  refine z_sldn (by omega) hL dL_law_1155 ?_
  refine z_callV dL_law_1156 cv_L_171 (hm s1 n1 hmd1) rfl hmd1.1 rfl rfl ⟨(Nat.le_of_ble_eq_true rfl), (Nat.le_of_ble_eq_true rfl)⟩ (by show 400 + 28 * i + 1 + 0 ≤ 601024; omega) (by show 60000 + 2800 * i + 6 + 0 ≤ 7293034; omega) (Nat.le_of_ble_eq_true rfl) (fun v s2 n2 hx2 hq2 => ?_)
  obtain ⟨rfl, f2, S2, hmd2, ⟨w2, rfl⟩, ht, hb1, hb2⟩ := hq2
  refine z_istore dL_law_1159 (by decide) ?_
  refine z_aload_n dL_law_1161 rfl ?_
  refine z_callV dL_law_1162 cv_L_123 (c_thrown s2 _ hmd2) rfl hmd2.1 rfl rfl ⟨(Nat.le_of_ble_eq_true rfl), (Nat.le_of_ble_eq_true rfl)⟩ (by show 400 + 28 * i + 1 + 0 + 0 ≤ 601024; omega) (by show 60000 + 2800 * i + 6 + 0 + 0 ≤ 7293034; omega) (Nat.le_of_ble_eq_true rfl) (fun v s3 n3 hx3 hq3 => ?_)
  obtain ⟨rfl, f3, S3, hmd3, rfl, rfl⟩ := hq3
  have fr : zFr s1 s3 (b + 74) 34 := fun x q => (f3 x q).trans (f2 x q)
  refine z_iload dL_law_1165 rfl ?_
  refine z_icmp_eq (tgt := 1172) dL_law_1167 (by decide) (fun _ => ?_) (fun q => absurd (ht) q)
  refine z_iload dL_law_1172 rfl ?_
  by_cases c0 : c = 0
  · obtain ⟨u', w, hP, hT2, f4, hf4, hf0⟩ := q1 c0
    obtain ⟨hw, hun2⟩ := hb1 c0 u' w hP
    have ok2 := hok _ _ _ c0 hP hT2
    cases hw
    refine z_if_ne (tgt := 1189) dL_law_1174 (by decide) (fun q => absurd ((show nI c = 0 by rw [c0]; rfl)) q) (fun _ => ?_)
    refine z_aload_n dL_law_1177 rfl ?_
    refine z_iconst (v := 0) dL_law_1178 (by decide) ?_
    refine z_lald dL_law_1179 ((fr _ (by omega)).trans hf4) zin01 ?_
    rw [show (0 : Int32).toNatClampNeg = 0 by decide, hf0]
    refine z_iload dL_law_1180 rfl ?_
    refine z_i2l dL_law_1182 ?_
    refine z_lcmp dL_law_1183 (zcmp_self _) ?_
    refine z_if_eq (tgt := 1189) dL_law_1184 (by decide) (fun _ => ?_) (fun q => absurd (rfl) q)
    refine z_goto (tgt := 2299) dL_law_1189 (by decide) ?_
    refine z_widen (ca' := 400 + 28 * (i + 1)) (sl' := 60000 + 2800 * (i + 1)) (by show 400 + 28 * i + 1 + 0 + 0 ≤ _; omega) (by show 60000 + 2800 * i + 6 + 0 + 0 ≤ _; omega) ?_
    exact kk _ _ _ _ _ _ (zLI_ok (hT2.frm fr) hmd3 hun2 ok2 hun ((fr _ (by omega)).trans hf4) (by omega))
  · obtain ⟨hT2, f4, hf4⟩ := q2 c0
    have hM2 := hb2 c0
    refine z_if_ne (tgt := 1189) dL_law_1174 (by decide) (fun _ => ?_) (fun q => absurd q ((fun w => c0 ((nI_eq (a := c) (b := 0) hcl (by decide)).mp w))))
    refine z_goto (tgt := 2299) dL_law_1189 (by decide) ?_
    refine z_widen (ca' := 400 + 28 * (i + 1)) (sl' := 60000 + 2800 * (i + 1)) (by show 400 + 28 * i + 1 + 0 + 0 ≤ _; omega) (by show 60000 + 2800 * i + 6 + 0 + 0 ≤ _; omega) ?_
    exact kk _ _ _ _ _ _ (zLI_ok (hT2.frm fr) hmd3 ⟨un, by omega, hM2⟩ ok hun ((fr _ (by omega)).trans hf4) (by omega))
set_option maxRecDepth 100000 in
set_option maxHeartbeats 1000000 in
theorem law_15 (hG : zKap G) (hL : L ≤ 2048) (hi : 4 * i + 4 ≤ L) (hI : zLI G σ nx b i) (kk : zKont G a b L xs i) : zWP G kL_law (zSc a L xs (zLF a)) 1192 (zLls a b i x5 x6 x7 x8) [] σ nx (400 + 28 * i) (60000 + 2800 * i) := by
  obtain ⟨⟨nt, lim, mem, wk, slow, r, L1, A, tk, sp, cs⟩, un, S, f, hT, hmd, hM, ok, hun, ho, hnx⟩ := hI
  refine z_aload_n dL_law_1192 rfl ?_
  refine z_aload_n dL_law_1193 rfl ?_
  refine z_iload dL_law_1194 rfl ?_
  refine z_iconst (v := 1) dL_law_1196 (by decide) ?_
  refine z_iadd dL_law_1197 ?_
  rw [zadd1]
  refine z_sldn (by omega) hL dL_law_1198 ?_
  refine z_aload_n dL_law_1199 rfl ?_
  refine z_callH dL_law_1200 ch_L_172 (w_digestInPlace (b := b) (hi := b + 109) (o := b + 108) hG hnx ok hT ho (by omega) (by omega)) rfl rfl ⟨(Nat.le_of_ble_eq_true rfl), (Nat.le_of_ble_eq_true rfl)⟩ (by show 400 + 28 * i + 1 ≤ 601024; omega) (by show 60000 + 2800 * i + 6 ≤ 7293034; omega) (Nat.le_of_ble_eq_true rfl) (fun v s1 n1 hx1 hq1 => ?_)
  have hmd1 := hq1.md hmd
  obtain ⟨rfl, q1, q2, -⟩ := hq1
  have hm := m_digestInPlace (G := G) (m := b + 74) (x := (xs (4 * i + 1))) (S := S) (un := un) (by omega) ok hM
  have hok := fun (σ9 : zH) (u9 : zUv) (w9 : Int32) => o_digestInPlace (G := G) (σ := σ9) (b := b) (hi := b + 109) (u' := u9) (w := w9) (x := (xs (4 * i + 1))) ok
  have hcl : (zk_node nt.length (xs (4 * i + 1))) < 2 ^ 31 := by unfold zk_node; repeat (first | split | decide)
  generalize (zk_node nt.length (xs (4 * i + 1))) = c at q1 q2 hm hok hcl ⊢
  generalize hP : (zPq (nt, lim, mem, wk, slow, r, L1, A, tk, sp, cs) (zsq (zct lim nt (xs (4 * i + 1)).toNatClampNeg).flatten)) = P at q1 hm hok
  clear hP
  refine z_istore dL_law_1203 (by decide) ?_
  refine z_aload_n dL_law_1205 rfl ?_
  refine z_aload_n dL_law_1206 rfl ?_
  refine z_iload dL_law_1207 rfl ?_
  refine z_iconst (v := 1) dL_law_1209 (by decide) ?_
  refine z_iadd dL_law_1210 ?_
  rw [zadd1]
  refine z_sldn (by omega) hL dL_law_1211 ?_
  refine z_callV dL_law_1212 cv_L_174 (hm s1 n1 hmd1) rfl hmd1.1 rfl rfl ⟨(Nat.le_of_ble_eq_true rfl), (Nat.le_of_ble_eq_true rfl)⟩ (by show 400 + 28 * i + 1 + 0 ≤ 601024; omega) (by show 60000 + 2800 * i + 6 + 0 ≤ 7293034; omega) (Nat.le_of_ble_eq_true rfl) (fun v s2 n2 hx2 hq2 => ?_)
  obtain ⟨rfl, f2, S2, hmd2, ⟨w2, rfl⟩, ht, hb1, hb2⟩ := hq2
  refine z_istore dL_law_1215 (by decide) ?_
  refine z_aload_n dL_law_1217 rfl ?_
  refine z_callV dL_law_1218 cv_L_123 (c_thrown s2 _ hmd2) rfl hmd2.1 rfl rfl ⟨(Nat.le_of_ble_eq_true rfl), (Nat.le_of_ble_eq_true rfl)⟩ (by show 400 + 28 * i + 1 + 0 + 0 ≤ 601024; omega) (by show 60000 + 2800 * i + 6 + 0 + 0 ≤ 7293034; omega) (Nat.le_of_ble_eq_true rfl) (fun v s3 n3 hx3 hq3 => ?_)
  obtain ⟨rfl, f3, S3, hmd3, rfl, rfl⟩ := hq3
  have fr : zFr s1 s3 (b + 74) 34 := fun x q => (f3 x q).trans (f2 x q)
  refine z_iload dL_law_1221 rfl ?_
  refine z_icmp_eq (tgt := 1228) dL_law_1223 (by decide) (fun _ => ?_) (fun q => absurd (ht) q)
  refine z_iload dL_law_1228 rfl ?_
  by_cases c0 : c = 0
  · obtain ⟨u', w, hP, hT2, f4, hf4, hf0⟩ := q1 c0
    obtain ⟨hw, hun2⟩ := hb1 c0 u' w hP
    have ok2 := hok _ _ _ c0 hP hT2
    cases hw
    refine z_if_ne (tgt := 1245) dL_law_1230 (by decide) (fun q => absurd ((show nI c = 0 by rw [c0]; rfl)) q) (fun _ => ?_)
    refine z_aload_n dL_law_1233 rfl ?_
    refine z_iconst (v := 0) dL_law_1234 (by decide) ?_
    refine z_lald dL_law_1235 ((fr _ (by omega)).trans hf4) zin01 ?_
    rw [show (0 : Int32).toNatClampNeg = 0 by decide, hf0]
    refine z_iload dL_law_1236 rfl ?_
    refine z_i2l dL_law_1238 ?_
    refine z_lcmp dL_law_1239 (zcmp_self _) ?_
    refine z_if_eq (tgt := 1245) dL_law_1240 (by decide) (fun _ => ?_) (fun q => absurd (rfl) q)
    refine z_goto (tgt := 2299) dL_law_1245 (by decide) ?_
    refine z_widen (ca' := 400 + 28 * (i + 1)) (sl' := 60000 + 2800 * (i + 1)) (by show 400 + 28 * i + 1 + 0 + 0 ≤ _; omega) (by show 60000 + 2800 * i + 6 + 0 + 0 ≤ _; omega) ?_
    exact kk _ _ _ _ _ _ (zLI_ok (hT2.frm fr) hmd3 hun2 ok2 hun ((fr _ (by omega)).trans hf4) (by omega))
  · obtain ⟨hT2, f4, hf4⟩ := q2 c0
    have hM2 := hb2 c0
    refine z_if_ne (tgt := 1245) dL_law_1230 (by decide) (fun _ => ?_) (fun q => absurd q ((fun w => c0 ((nI_eq (a := c) (b := 0) hcl (by decide)).mp w))))
    refine z_goto (tgt := 2299) dL_law_1245 (by decide) ?_
    refine z_widen (ca' := 400 + 28 * (i + 1)) (sl' := 60000 + 2800 * (i + 1)) (by show 400 + 28 * i + 1 + 0 + 0 ≤ _; omega) (by show 60000 + 2800 * i + 6 + 0 + 0 ≤ _; omega) ?_
    exact kk _ _ _ _ _ _ (zLI_ok (hT2.frm fr) hmd3 ⟨un, by omega, hM2⟩ ok hun ((fr _ (by omega)).trans hf4) (by omega))
set_option maxRecDepth 100000 in
set_option maxHeartbeats 1000000 in
theorem law_16 (hG : zKap G) (hL : L ≤ 2048) (hi : 4 * i + 4 ≤ L) (hI : zLI G σ nx b i) (kk : zKont G a b L xs i) : zWP G kL_law (zSc a L xs (zLF a)) 1248 (zLls a b i x5 x6 x7 x8) [] σ nx (400 + 28 * i) (60000 + 2800 * i) := by
  obtain ⟨⟨nt, lim, mem, wk, slow, r, L1, A, tk, sp, cs⟩, un, S, f, hT, hmd, hM, ok, hun, ho, hnx⟩ := hI
  refine z_aload_n dL_law_1248 rfl ?_
  refine z_aload_n dL_law_1249 rfl ?_
  refine z_iload dL_law_1250 rfl ?_
  refine z_iconst (v := 1) dL_law_1252 (by decide) ?_
  refine z_iadd dL_law_1253 ?_
  rw [zadd1]
  refine z_sldn (by omega) hL dL_law_1254 ?_
  refine z_aload_n dL_law_1255 rfl ?_
  refine z_callH dL_law_1256 ch_L_175 (w_setWorkers (b := b) (hi := b + 109) (o := b + 108) hG hnx ok hT ho (by omega) (by omega)) rfl rfl ⟨(Nat.le_of_ble_eq_true rfl), (Nat.le_of_ble_eq_true rfl)⟩ (by show 400 + 28 * i + 1 ≤ 601024; omega) (by show 60000 + 2800 * i + 6 ≤ 7293034; omega) (Nat.le_of_ble_eq_true rfl) (fun v s1 n1 hx1 hq1 => ?_)
  have hmd1 := hq1.md hmd
  obtain ⟨rfl, q1, q2, -⟩ := hq1
  have hm := m_setWorkers (G := G) (m := b + 74) (x := (xs (4 * i + 1))) (S := S) (un := un) (by omega) ok hM
  have hok := fun (σ9 : zH) (u9 : zUv) (w9 : Int32) => o_setWorkers (G := G) (σ := σ9) (b := b) (hi := b + 109) (u' := u9) (w := w9) (x := (xs (4 * i + 1))) ok
  have hcl : (zk_work (xs (4 * i + 1))) < 2 ^ 31 := by unfold zk_work; repeat (first | split | decide)
  generalize (zk_work (xs (4 * i + 1))) = c at q1 q2 hm hok hcl ⊢
  generalize hP : (zPq (nt, lim, mem, (xs (4 * i + 1)).toNatClampNeg, slow, r, L1, A, tk, sp, cs) (nI wk)) = P at q1 hm hok
  clear hP
  refine z_istore dL_law_1259 (by decide) ?_
  refine z_aload_n dL_law_1261 rfl ?_
  refine z_aload_n dL_law_1262 rfl ?_
  refine z_iload dL_law_1263 rfl ?_
  refine z_iconst (v := 1) dL_law_1265 (by decide) ?_
  refine z_iadd dL_law_1266 ?_
  rw [zadd1]
  refine z_sldn (by omega) hL dL_law_1267 ?_
  refine z_callV dL_law_1268 cv_L_177 (hm s1 n1 hmd1) rfl hmd1.1 rfl rfl ⟨(Nat.le_of_ble_eq_true rfl), (Nat.le_of_ble_eq_true rfl)⟩ (by show 400 + 28 * i + 1 + 0 ≤ 601024; omega) (by show 60000 + 2800 * i + 6 + 0 ≤ 7293034; omega) (Nat.le_of_ble_eq_true rfl) (fun v s2 n2 hx2 hq2 => ?_)
  obtain ⟨rfl, f2, S2, hmd2, ⟨w2, rfl⟩, ht, hb1, hb2⟩ := hq2
  refine z_istore dL_law_1271 (by decide) ?_
  refine z_aload_n dL_law_1273 rfl ?_
  refine z_callV dL_law_1274 cv_L_123 (c_thrown s2 _ hmd2) rfl hmd2.1 rfl rfl ⟨(Nat.le_of_ble_eq_true rfl), (Nat.le_of_ble_eq_true rfl)⟩ (by show 400 + 28 * i + 1 + 0 + 0 ≤ 601024; omega) (by show 60000 + 2800 * i + 6 + 0 + 0 ≤ 7293034; omega) (Nat.le_of_ble_eq_true rfl) (fun v s3 n3 hx3 hq3 => ?_)
  obtain ⟨rfl, f3, S3, hmd3, rfl, rfl⟩ := hq3
  have fr : zFr s1 s3 (b + 74) 34 := fun x q => (f3 x q).trans (f2 x q)
  refine z_iload dL_law_1277 rfl ?_
  refine z_icmp_eq (tgt := 1284) dL_law_1279 (by decide) (fun _ => ?_) (fun q => absurd (ht) q)
  refine z_iload dL_law_1284 rfl ?_
  by_cases c0 : c = 0
  · obtain ⟨u', w, hP, hT2, f4, hf4, hf0⟩ := q1 c0
    obtain ⟨hw, hun2⟩ := hb1 c0 u' w hP
    have ok2 := hok _ _ _ c0 hP hT2
    cases hw
    refine z_if_ne (tgt := 1301) dL_law_1286 (by decide) (fun q => absurd ((show nI c = 0 by rw [c0]; rfl)) q) (fun _ => ?_)
    refine z_aload_n dL_law_1289 rfl ?_
    refine z_iconst (v := 0) dL_law_1290 (by decide) ?_
    refine z_lald dL_law_1291 ((fr _ (by omega)).trans hf4) zin01 ?_
    rw [show (0 : Int32).toNatClampNeg = 0 by decide, hf0]
    refine z_iload dL_law_1292 rfl ?_
    refine z_i2l dL_law_1294 ?_
    refine z_lcmp dL_law_1295 (zcmp_self _) ?_
    refine z_if_eq (tgt := 1301) dL_law_1296 (by decide) (fun _ => ?_) (fun q => absurd (rfl) q)
    refine z_goto (tgt := 2299) dL_law_1301 (by decide) ?_
    refine z_widen (ca' := 400 + 28 * (i + 1)) (sl' := 60000 + 2800 * (i + 1)) (by show 400 + 28 * i + 1 + 0 + 0 ≤ _; omega) (by show 60000 + 2800 * i + 6 + 0 + 0 ≤ _; omega) ?_
    exact kk _ _ _ _ _ _ (zLI_ok (hT2.frm fr) hmd3 hun2 ok2 hun ((fr _ (by omega)).trans hf4) (by omega))
  · obtain ⟨hT2, f4, hf4⟩ := q2 c0
    have hM2 := hb2 c0
    refine z_if_ne (tgt := 1301) dL_law_1286 (by decide) (fun _ => ?_) (fun q => absurd q ((fun w => c0 ((nI_eq (a := c) (b := 0) hcl (by decide)).mp w))))
    refine z_goto (tgt := 2299) dL_law_1301 (by decide) ?_
    refine z_widen (ca' := 400 + 28 * (i + 1)) (sl' := 60000 + 2800 * (i + 1)) (by show 400 + 28 * i + 1 + 0 + 0 ≤ _; omega) (by show 60000 + 2800 * i + 6 + 0 + 0 ≤ _; omega) ?_
    exact kk _ _ _ _ _ _ (zLI_ok (hT2.frm fr) hmd3 ⟨un, by omega, hM2⟩ ok hun ((fr _ (by omega)).trans hf4) (by omega))
set_option maxRecDepth 100000 in
set_option maxHeartbeats 1000000 in
theorem law_17 (hG : zKap G) (hL : L ≤ 2048) (hi : 4 * i + 4 ≤ L) (hI : zLI G σ nx b i) (kk : zKont G a b L xs i) : zWP G kL_law (zSc a L xs (zLF a)) 1304 (zLls a b i x5 x6 x7 x8) [] σ nx (400 + 28 * i) (60000 + 2800 * i) := by
  obtain ⟨⟨nt, lim, mem, wk, slow, r, L1, A, tk, sp, cs⟩, un, S, f, hT, hmd, hM, ok, hun, ho, hnx⟩ := hI
  refine z_aload_n dL_law_1304 rfl ?_
  refine z_aload_n dL_law_1305 rfl ?_
  refine z_iload dL_law_1306 rfl ?_
  refine z_iconst (v := 1) dL_law_1308 (by decide) ?_
  refine z_iadd dL_law_1309 ?_
  rw [zadd1]
  refine z_sldn (by omega) hL dL_law_1310 ?_
  refine z_aload_n dL_law_1311 rfl ?_
  refine z_iload dL_law_1312 rfl ?_
  refine z_iconst (v := 2) dL_law_1314 (by decide) ?_
  refine z_iadd dL_law_1315 ?_
  rw [zadd2]
  refine z_sldn (by omega) hL dL_law_1316 ?_
  refine z_aload_n dL_law_1317 rfl ?_
  refine z_callH dL_law_1318 ch_L_178 (w_setSlowness (b := b) (hi := b + 109) (o := b + 108) hG hnx ok hT ho (by omega) (by omega)) rfl rfl ⟨(Nat.le_of_ble_eq_true rfl), (Nat.le_of_ble_eq_true rfl)⟩ (by show 400 + 28 * i + 2 ≤ 601024; omega) (by show 60000 + 2800 * i + 12 ≤ 7293034; omega) (Nat.le_of_ble_eq_true rfl) (fun v s1 n1 hx1 hq1 => ?_)
  have hmd1 := hq1.md hmd
  obtain ⟨rfl, q1, q2, -⟩ := hq1
  have hm := m_setSlowness (G := G) (m := b + 74) (x := (xs (4 * i + 1))) (y := (xs (4 * i + 2))) (S := S) (un := un) (by omega) ok hM
  have hok := fun (σ9 : zH) (u9 : zUv) (w9 : Int32) => o_setSlowness (G := G) (σ := σ9) (b := b) (hi := b + 109) (u' := u9) (w := w9) (x := (xs (4 * i + 1))) (y := (xs (4 * i + 2))) ok
  have hcl : (zk_slow (xs (4 * i + 1)) (xs (4 * i + 2))) < 2 ^ 31 := by unfold zk_slow; repeat (first | split | decide)
  generalize (zk_slow (xs (4 * i + 1)) (xs (4 * i + 2))) = c at q1 q2 hm hok hcl ⊢
  generalize hP : (zPq (nt, lim, mem, wk, zun slow (xs (4 * i + 1)).toNatClampNeg (xs (4 * i + 2)).toNatClampNeg, r, L1, A, tk, sp, cs) (nI (slow (xs (4 * i + 1)).toNatClampNeg))) = P at q1 hm hok
  clear hP
  refine z_istore dL_law_1321 (by decide) ?_
  refine z_aload_n dL_law_1323 rfl ?_
  refine z_aload_n dL_law_1324 rfl ?_
  refine z_iload dL_law_1325 rfl ?_
  refine z_iconst (v := 1) dL_law_1327 (by decide) ?_
  refine z_iadd dL_law_1328 ?_
  rw [zadd1]
  refine z_sldn (by omega) hL dL_law_1329 ?_
  refine z_aload_n dL_law_1330 rfl ?_
  refine z_iload dL_law_1331 rfl ?_
  refine z_iconst (v := 2) dL_law_1333 (by decide) ?_
  refine z_iadd dL_law_1334 ?_
  rw [zadd2]
  refine z_sldn (by omega) hL dL_law_1335 ?_
  refine z_callV dL_law_1336 cv_L_180 (hm s1 n1 hmd1) rfl hmd1.1 rfl rfl ⟨(Nat.le_of_ble_eq_true rfl), (Nat.le_of_ble_eq_true rfl)⟩ (by show 400 + 28 * i + 2 + 0 ≤ 601024; omega) (by show 60000 + 2800 * i + 12 + 0 ≤ 7293034; omega) (Nat.le_of_ble_eq_true rfl) (fun v s2 n2 hx2 hq2 => ?_)
  obtain ⟨rfl, f2, S2, hmd2, ⟨w2, rfl⟩, ht, hb1, hb2⟩ := hq2
  refine z_istore dL_law_1339 (by decide) ?_
  refine z_aload_n dL_law_1341 rfl ?_
  refine z_callV dL_law_1342 cv_L_123 (c_thrown s2 _ hmd2) rfl hmd2.1 rfl rfl ⟨(Nat.le_of_ble_eq_true rfl), (Nat.le_of_ble_eq_true rfl)⟩ (by show 400 + 28 * i + 2 + 0 + 0 ≤ 601024; omega) (by show 60000 + 2800 * i + 12 + 0 + 0 ≤ 7293034; omega) (Nat.le_of_ble_eq_true rfl) (fun v s3 n3 hx3 hq3 => ?_)
  obtain ⟨rfl, f3, S3, hmd3, rfl, rfl⟩ := hq3
  have fr : zFr s1 s3 (b + 74) 34 := fun x q => (f3 x q).trans (f2 x q)
  refine z_iload dL_law_1345 rfl ?_
  refine z_icmp_eq (tgt := 1352) dL_law_1347 (by decide) (fun _ => ?_) (fun q => absurd (ht) q)
  refine z_iload dL_law_1352 rfl ?_
  by_cases c0 : c = 0
  · obtain ⟨u', w, hP, hT2, f4, hf4, hf0⟩ := q1 c0
    obtain ⟨hw, hun2⟩ := hb1 c0 u' w hP
    have ok2 := hok _ _ _ c0 hP hT2
    cases hw
    refine z_if_ne (tgt := 1369) dL_law_1354 (by decide) (fun q => absurd ((show nI c = 0 by rw [c0]; rfl)) q) (fun _ => ?_)
    refine z_aload_n dL_law_1357 rfl ?_
    refine z_iconst (v := 0) dL_law_1358 (by decide) ?_
    refine z_lald dL_law_1359 ((fr _ (by omega)).trans hf4) zin01 ?_
    rw [show (0 : Int32).toNatClampNeg = 0 by decide, hf0]
    refine z_iload dL_law_1360 rfl ?_
    refine z_i2l dL_law_1362 ?_
    refine z_lcmp dL_law_1363 (zcmp_self _) ?_
    refine z_if_eq (tgt := 1369) dL_law_1364 (by decide) (fun _ => ?_) (fun q => absurd (rfl) q)
    refine z_goto (tgt := 2299) dL_law_1369 (by decide) ?_
    refine z_widen (ca' := 400 + 28 * (i + 1)) (sl' := 60000 + 2800 * (i + 1)) (by show 400 + 28 * i + 2 + 0 + 0 ≤ _; omega) (by show 60000 + 2800 * i + 12 + 0 + 0 ≤ _; omega) ?_
    exact kk _ _ _ _ _ _ (zLI_ok (hT2.frm fr) hmd3 hun2 ok2 hun ((fr _ (by omega)).trans hf4) (by omega))
  · obtain ⟨hT2, f4, hf4⟩ := q2 c0
    have hM2 := hb2 c0
    refine z_if_ne (tgt := 1369) dL_law_1354 (by decide) (fun _ => ?_) (fun q => absurd q ((fun w => c0 ((nI_eq (a := c) (b := 0) hcl (by decide)).mp w))))
    refine z_goto (tgt := 2299) dL_law_1369 (by decide) ?_
    refine z_widen (ca' := 400 + 28 * (i + 1)) (sl' := 60000 + 2800 * (i + 1)) (by show 400 + 28 * i + 2 + 0 + 0 ≤ _; omega) (by show 60000 + 2800 * i + 12 + 0 + 0 ≤ _; omega) ?_
    exact kk _ _ _ _ _ _ (zLI_ok (hT2.frm fr) hmd3 ⟨un, by omega, hM2⟩ ok hun ((fr _ (by omega)).trans hf4) (by omega))
end
