/-! the reads, where they can not throw: nothing is made -/
theorem zM.mono {G : zG} {y : MethodName} {k : zK} {as : List Value} {σ : zH} {nx : Nat} {Q Q2 : Option Value → zH → Nat → Prop} (h : zM G y k as σ nx Q) (hQ : ∀ v σ' nx', Q v σ' nx' → Q2 v σ' nx') : zM G y k as σ nx Q2 := by
  intro l hl
  refine MetFree.mono (h l hl) (fun _ _ q => q) (fun _ _ _ _ _ q => q) (fun a s o t _ q => ?_)
  obtain ⟨⟨⟨v, σ', nx', e, q1, q2⟩, q3⟩, q4⟩ := q
  exact ⟨⟨⟨v, σ', nx', e, hQ _ _ _ q1, q2⟩, q3⟩, q4⟩
abbrev k0X11_checkNode : zK := (RX11, cX11_checkNode, 2, ⟨6, 0, 0, 90⟩, none, "checkNode", [])
abbrev k0X11_checkAttempt : zK := (RX11, cX11_checkAttempt, 2, ⟨6, 0, 0, 90⟩, none, "checkAttempt", [])
abbrev k0X11_checkPartition : zK := (RX11, cX11_checkPartition, 2, ⟨6, 0, 0, 90⟩, none, "checkPartition", [])
abbrev k0X11_checkPlace : zK := (RX11, cX11_checkPlace, 3, ⟨7, 0, 0, 111⟩, none, "checkPlace", [])
abbrev k0X11_partitions : zK := (RX11, cX11_partitions, 2, ⟨7, 0, 0, 155⟩, (some .int), "partitions", [])
abbrev k0X11_rowsIn : zK := (RX11, cX11_rowsIn, 4, ⟨7, 0, 0, 155⟩, (some .int), "rowsIn", [])
abbrev k0X11_rows : zK := (RX11, cX11_rows, 2, ⟨7, 0, 0, 155⟩, (some .int), "rows", [])
abbrev k0X11_keyAt : zK := (RX11, cX11_keyAt, 5, ⟨8, 0, 0, 155⟩, (some .int), "keyAt", [])
abbrev k0X11_valueAt : zK := (RX11, cX11_valueAt, 5, ⟨8, 0, 0, 155⟩, (some .int), "valueAt", [])
abbrev k0X11_digest : zK := (RX11, cX11_digest, 2, ⟨7, 0, 0, 155⟩, (some .int), "digest", [])
abbrev k0X11_digestInPlace : zK := (RX11, cX11_digestInPlace, 2, ⟨7, 0, 0, 155⟩, (some .int), "digestInPlace", [])
abbrev k0X11_isBroad : zK := (RX11, cX11_isBroad, 2, ⟨7, 0, 0, 155⟩, (some .boolean), "isBroad", [])
abbrev k0X11_isCached : zK := (RX11, cX11_isCached, 2, ⟨7, 0, 0, 111⟩, (some .boolean), "isCached", [])
abbrev k0X11_stages : zK := (RX11, cX11_stages, 2, ⟨8, 0, 0, 184⟩, (some .int), "stages", [])
abbrev k0X11_outputOf : zK := (RX11, cX11_outputOf, 3, ⟨8, 0, 0, 184⟩, (some .int), "outputOf", [])
abbrev k0X11_nodeOf : zK := (RX11, cX11_nodeOf, 2, ⟨7, 0, 0, 111⟩, (some .int), "nodeOf", [])
abbrev k0X11_partitionOf : zK := (RX11, cX11_partitionOf, 2, ⟨7, 0, 0, 111⟩, (some .int), "partitionOf", [])
abbrev k0X11_workerOf : zK := (RX11, cX11_workerOf, 2, ⟨7, 0, 0, 111⟩, (some .int), "workerOf", [])
abbrev k0X11_startOf : zK := (RX11, cX11_startOf, 2, ⟨7, 0, 0, 111⟩, (some .int), "startOf", [])
abbrev k0X11_endOf : zK := (RX11, cX11_endOf, 2, ⟨7, 0, 0, 111⟩, (some .int), "endOf", [])
abbrev k0X11_isCopy : zK := (RX11, cX11_isCopy, 2, ⟨7, 0, 0, 111⟩, (some .boolean), "isCopy", [])
theorem cv0_X11_194 : zLs RX11 194 yX11_checkPartition k0X11_checkPartition 2 := cv_X11_194
theorem cv0_X11_96 : zLv RX11 96 yX11_checkNode k0X11_checkNode 1 := cv_X11_96
theorem cv0_X11_307 : zLv RX11 307 yX11_checkAttempt k0X11_checkAttempt 1 := cv_X11_307
theorem cv0_X11_202 : zLs RX11 202 yX11_checkPlace k0X11_checkPlace 3 := cv_X11_202
set_option maxRecDepth 100000 in
theorem c0_X11_checkNode {G : zG} {σ : zH} {nx b mem hi i : Nat} {lim : Int32} {nt : zNT} (h : σ b = some (zTC b mem)) (hg : zGr G σ (b + 1) hi nt lim) (c2 : i < nt.length) : zM G yX11_checkNode k0X11_checkNode [.ref b, .int (nI i)] σ nx (fun v σ' nx' => v = none ∧ σ' = σ ∧ nx' = nx) := by
  refine zM.of (ls := [some (.ref b), some (.int (nI i))]) (by decide +kernel) ⟨rfl, rfl, rfl⟩ (Nat.le_of_ble_eq_true rfl) (fun _ h => h) ?_
  have hl := hg.2.2.2.2.2.1
  refine z_iload_n dX11_checkNode_0 rfl ?_
  refine z_if_lt (tgt := 15) dX11_checkNode_1 (by decide) (fun q => absurd q ((nI_pos (by omega)))) (fun _ => ?_)
  refine z_iload_n dX11_checkNode_4 rfl ?_
  refine z_aload_n dX11_checkNode_5 rfl ?_
  refine z_getf dX11_checkNode_6 fl_X11_16 h rfl ?_
  refine z_callV dX11_checkNode_9 cv_X11_186 (c_X2_size hg) rfl hg.1 rfl rfl ⟨(Nat.le_of_ble_eq_true rfl), (Nat.le_of_ble_eq_true rfl)⟩ (Nat.le_of_ble_eq_true rfl) (Nat.le_of_ble_eq_true rfl) (Nat.le_of_ble_eq_true rfl) (fun v σ1 nx1 hx1 hq1 => ?_)
  obtain ⟨rfl, rfl, rfl⟩ := hq1
  refine z_icmp_lt (tgt := 26) dX11_checkNode_12 (by decide) (fun _ => ?_) (fun q => absurd ((nI_lt c2 (by omega))) q)
  exact z_vret dX11_checkNode_26 rfl (Nat.le_of_ble_eq_true rfl) (Nat.le_of_ble_eq_true rfl) ⟨rfl, rfl, rfl⟩
set_option maxRecDepth 100000 in
theorem c0_X11_checkAttempt {G : zG} {σ : zH} {nx b mem tk sp cs i : Nat} {A : List zAE} (h : σ b = some (zTC b mem)) (hg : zLg G σ (b + 49 + 7) A tk sp cs) (c2 : i < A.length) : zM G yX11_checkAttempt k0X11_checkAttempt [.ref b, .int (nI i)] σ nx (fun v σ' nx' => v = none ∧ σ' = σ ∧ nx' = nx) := by
  refine zM.of (ls := [some (.ref b), some (.int (nI i))]) (by decide +kernel) ⟨rfl, rfl, rfl⟩ (Nat.le_of_ble_eq_true rfl) (fun _ h => h) ?_
  have hl : A.length ≤ 224 := by obtain ⟨f, _, _, _, hl⟩ := hg; exact hl
  refine z_iload_n dX11_checkAttempt_0 rfl ?_
  refine z_if_lt (tgt := 15) dX11_checkAttempt_1 (by decide) (fun q => absurd q ((nI_pos (by omega)))) (fun _ => ?_)
  refine z_iload_n dX11_checkAttempt_4 rfl ?_
  refine z_aload_n dX11_checkAttempt_5 rfl ?_
  refine z_getf dX11_checkAttempt_6 fl_X11_58 h rfl ?_
  refine z_getf dX11_checkAttempt_9 fl_X11_304 hg.c rfl ?_
  refine z_icmp_lt (tgt := 26) dX11_checkAttempt_12 (by decide) (fun _ => ?_) (fun q => absurd ((nI_lt c2 (by omega))) q)
  exact z_vret dX11_checkAttempt_26 rfl (Nat.le_of_ble_eq_true rfl) (Nat.le_of_ble_eq_true rfl) ⟨rfl, rfl, rfl⟩
set_option maxRecDepth 100000 in
theorem c0_X11_checkPartition {G : zG} {σ : zH} {nx r m j : Nat} {P : List zP2} (h : zHas G σ r m P) (c2 : j < P.length) : zM G yX11_checkPartition k0X11_checkPartition [.ref r, .int (nI j)] σ nx (fun v σ' nx' => v = none ∧ σ' = σ ∧ nx' = nx) := by
  refine zM.of (ls := [some (.ref r), some (.int (nI j))]) (by decide +kernel) ⟨rfl, rfl, rfl⟩ (Nat.le_of_ble_eq_true rfl) (fun _ h => h) ?_
  have hl := h.len
  refine z_iload_n dX11_checkPartition_0 rfl ?_
  refine z_if_lt (tgt := 12) dX11_checkPartition_1 (by decide) (fun q => absurd q ((nI_pos (by omega)))) (fun _ => ?_)
  refine z_iload_n dX11_checkPartition_4 rfl ?_
  refine z_aload_n dX11_checkPartition_5 rfl ?_
  refine z_callV dX11_checkPartition_6 cv_X11_191 (c_X9_parts h) rfl h.c rfl rfl ⟨(Nat.le_of_ble_eq_true rfl), (Nat.le_of_ble_eq_true rfl)⟩ (Nat.le_of_ble_eq_true rfl) (Nat.le_of_ble_eq_true rfl) (Nat.le_of_ble_eq_true rfl) (fun v σ1 nx1 hx1 hq1 => ?_)
  obtain ⟨rfl, rfl, rfl⟩ := hq1
  rw [zcum_len]
  refine z_icmp_lt (tgt := 23) dX11_checkPartition_9 (by decide) (fun _ => ?_) (fun q => absurd ((nI_lt c2 (by omega))) q)
  exact z_vret dX11_checkPartition_23 rfl (Nat.le_of_ble_eq_true rfl) (Nat.le_of_ble_eq_true rfl) ⟨rfl, rfl, rfl⟩
set_option maxRecDepth 100000 in
theorem c0_X11_checkPlace {G : zG} {σ : zH} {nx r m j i : Nat} {P : List zP2} (h : zHas G σ r m P) (hj : j < P.length) (c2 : i < zsz P j) : zM G yX11_checkPlace k0X11_checkPlace [.ref r, .int (nI j), .int (nI i)] σ nx (fun v σ' nx' => v = none ∧ σ' = σ ∧ nx' = nx) := by
  refine zM.of (ls := [some (.ref r), some (.int (nI j)), some (.int (nI i))]) (by decide +kernel) ⟨rfl, rfl, rfl⟩ (Nat.le_of_ble_eq_true rfl) (fun _ h => h) ?_
  have hl := h.len
  refine z_aload_n dX11_checkPlace_0 rfl ?_
  refine z_iload_n dX11_checkPlace_1 rfl ?_
  refine z_callS dX11_checkPlace_2 cv0_X11_194 (c0_X11_checkPartition h hj) rfl rfl ⟨(Nat.le_of_ble_eq_true rfl), (Nat.le_of_ble_eq_true rfl)⟩ (Nat.le_of_ble_eq_true rfl) (Nat.le_of_ble_eq_true rfl) (Nat.le_of_ble_eq_true rfl) (fun v σ1 nx1 hx1 hq1 => ?_)
  obtain ⟨rfl, rfl, rfl⟩ := hq1
  have hs := zsz_le (P := P) (j := j)
  refine z_iload_n dX11_checkPlace_5 rfl ?_
  refine z_if_lt (tgt := 18) dX11_checkPlace_6 (by decide) (fun q => absurd q ((nI_pos (by omega)))) (fun _ => ?_)
  refine z_iload_n dX11_checkPlace_9 rfl ?_
  refine z_aload_n dX11_checkPlace_10 rfl ?_
  refine z_iload_n dX11_checkPlace_11 rfl ?_
  refine z_callV dX11_checkPlace_12 cv_X11_198 (c_has_sizeOf h hj) rfl h.c rfl rfl ⟨(Nat.le_of_ble_eq_true rfl), (Nat.le_of_ble_eq_true rfl)⟩ (Nat.le_of_ble_eq_true rfl) (Nat.le_of_ble_eq_true rfl) (Nat.le_of_ble_eq_true rfl) (fun v σ2 nx2 hx2 hq2 => ?_)
  obtain ⟨rfl, rfl, rfl⟩ := hq2
  refine z_icmp_lt (tgt := 29) dX11_checkPlace_15 (by decide) (fun _ => ?_) (fun q => absurd ((nI_lt c2 (by omega))) q)
  exact z_vret dX11_checkPlace_29 rfl (Nat.le_of_ble_eq_true rfl) (Nat.le_of_ble_eq_true rfl) ⟨rfl, rfl, rfl⟩
/-- the law's arrays, behind its object: kinds, inputs .. bounds, widths, marks, and its five numbers -/
def zVr (G : zG) (σ : zH) (b : Nat) (R : Nat → Nat → Int32) : Prop := (∀ i, i < 7 → σ (b + 74 + i) = some (zI G 14 (R i))) ∧ σ (b + 81) = some (zI G 5 (R 7))
theorem zVr.fr {G : zG} {σ σ' : zH} {b : Nat} {R : Nat → Nat → Int32} (h : zVr G σ b R) (hf : zFh σ σ' b (b + 82)) : zVr G σ' b R := ⟨fun i hi => (hf _ (by omega)).trans (h.1 i hi), (hf _ (by omega)).trans h.2⟩
/-- the law's world -/
def zVs (G : zG) (σ : zH) (b : Nat) (u : zUv) (R : Nat → Nat → Int32) : Prop := zTu G σ b (b + 82) u ∧ zOk u ∧ zVr G σ b R
section
variable {G : zG} {σ : zH} {b nx : Nat} {R : Nat → Nat → Int32} {nt : zNT} {lim mem wk r tk sp cs : Nat} {slow : Nat → Nat} {L : zNS} {A : List zAE}
theorem zVs.tg (S : zVs G σ b (nt, lim, mem, wk, slow, r, L, A, tk, sp, cs) R) : zTG G σ b (b + 82) nt lim mem wk slow r L A tk sp cs := S.1
theorem zVs.c (S : zVs G σ b (nt, lim, mem, wk, slow, r, L, A, tk, sp, cs) R) : σ b = some (zTC b mem) := S.tg.1
set_option maxRecDepth 100000 in
theorem q_partitions {i : Nat} (hG : zKap G) (S : zVs G σ b (nt, lim, mem, wk, slow, r, L, A, tk, sp, cs) R) (hi : i < nt.length) : zM G yX11_partitions k0X11_partitions [.ref b, .int (nI i)] σ nx (fun v σ' nx' => v = some (.int (nI (zct lim nt i).length)) ∧ zVs G σ' b (nt, lim, mem, wk, slow, r, L, A, tk, sp, cs) R ∧ nx' = nx) := by
  refine zM.of (ls := [some (.ref b), some (.int (nI i))]) (by decide +kernel) ⟨rfl, rfl, rfl⟩ (Nat.le_of_ble_eq_true rfl) (fun _ h => h) ?_
  obtain ⟨h, ok, hr⟩ := S
  have h : zTG G σ b (b + 82) nt lim mem wk slow r L A tk sp cs := h
  obtain ⟨hw, hh, h14, hlim, -⟩ := id ok
  obtain ⟨fr, hgh⟩ := h.2.1
  refine z_aload_n dX11_partitions_0 rfl ?_
  refine z_iload_n dX11_partitions_1 rfl ?_
  refine z_callV dX11_partitions_2 cv0_X11_96 (c0_X11_checkNode h.1 h.gr hi) rfl h.1 rfl rfl ⟨(Nat.le_of_ble_eq_true rfl), (Nat.le_of_ble_eq_true rfl)⟩ (Nat.le_of_ble_eq_true rfl) (Nat.le_of_ble_eq_true rfl) (Nat.le_of_ble_eq_true rfl) (fun v σ1 nx1 hx1 hq1 => ?_)
  obtain ⟨rfl, rfl, rfl⟩ := hq1
  refine z_aload_n dX11_partitions_5 rfl ?_
  refine z_getf dX11_partitions_6 fl_X11_25 h.1 rfl ?_
  refine z_iload_n dX11_partitions_9 rfl ?_
  refine z_callV dX11_partitions_10 cv_X11_187 (c_X3_freshRows hG hgh hw hlim hi) rfl hgh.2.1.1.1 rfl rfl ⟨(Nat.le_of_ble_eq_true rfl), (Nat.le_of_ble_eq_true rfl)⟩ (Nat.le_of_ble_eq_true rfl) (Nat.le_of_ble_eq_true rfl) (Nat.le_of_ble_eq_true rfl) (fun v σ2 nx2 hx2 hq2 => ?_)
  obtain ⟨rfl, ⟨fr2, g1, -, g2⟩, g3, rfl⟩ := hq2
  obtain ⟨t2, f2, has⟩ := h.fresh (nx := nx2) hw hi g1 g2 g3
  refine z_callV dX11_partitions_13 cv_X11_191 (c_X9_parts has) rfl has.c rfl rfl ⟨(Nat.le_of_ble_eq_true rfl), (Nat.le_of_ble_eq_true rfl)⟩ (Nat.le_of_ble_eq_true rfl) (Nat.le_of_ble_eq_true rfl) (Nat.le_of_ble_eq_true rfl) (fun v σ3 nx3 hx3 hq3 => ?_)
  obtain ⟨rfl, rfl, rfl⟩ := hq3
  rw [zcum_len]
  exact z_iret dX11_partitions_16 rfl (Nat.le_of_ble_eq_true rfl) (Nat.le_of_ble_eq_true rfl) ⟨rfl, ⟨t2, ok, hr.fr f2⟩, rfl⟩
set_option maxRecDepth 100000 in
theorem q_rows {i : Nat} (hG : zKap G) (S : zVs G σ b (nt, lim, mem, wk, slow, r, L, A, tk, sp, cs) R) (hi : i < nt.length) : zM G yX11_rows k0X11_rows [.ref b, .int (nI i)] σ nx (fun v σ' nx' => v = some (.int (nI (zct lim nt i).flatten.length)) ∧ zVs G σ' b (nt, lim, mem, wk, slow, r, L, A, tk, sp, cs) R ∧ nx' = nx) := by
  refine zM.of (ls := [some (.ref b), some (.int (nI i))]) (by decide +kernel) ⟨rfl, rfl, rfl⟩ (Nat.le_of_ble_eq_true rfl) (fun _ h => h) ?_
  obtain ⟨h, ok, hr⟩ := S
  have h : zTG G σ b (b + 82) nt lim mem wk slow r L A tk sp cs := h
  obtain ⟨hw, hh, h14, hlim, -⟩ := id ok
  obtain ⟨fr, hgh⟩ := h.2.1
  refine z_aload_n dX11_rows_0 rfl ?_
  refine z_iload_n dX11_rows_1 rfl ?_
  refine z_callV dX11_rows_2 cv0_X11_96 (c0_X11_checkNode h.1 h.gr hi) rfl h.1 rfl rfl ⟨(Nat.le_of_ble_eq_true rfl), (Nat.le_of_ble_eq_true rfl)⟩ (Nat.le_of_ble_eq_true rfl) (Nat.le_of_ble_eq_true rfl) (Nat.le_of_ble_eq_true rfl) (fun v σ1 nx1 hx1 hq1 => ?_)
  obtain ⟨rfl, rfl, rfl⟩ := hq1
  refine z_aload_n dX11_rows_5 rfl ?_
  refine z_getf dX11_rows_6 fl_X11_25 h.1 rfl ?_
  refine z_iload_n dX11_rows_9 rfl ?_
  refine z_callV dX11_rows_10 cv_X11_187 (c_X3_freshRows hG hgh hw hlim hi) rfl hgh.2.1.1.1 rfl rfl ⟨(Nat.le_of_ble_eq_true rfl), (Nat.le_of_ble_eq_true rfl)⟩ (Nat.le_of_ble_eq_true rfl) (Nat.le_of_ble_eq_true rfl) (Nat.le_of_ble_eq_true rfl) (fun v σ2 nx2 hx2 hq2 => ?_)
  obtain ⟨rfl, ⟨fr2, g1, -, g2⟩, g3, rfl⟩ := hq2
  obtain ⟨t2, f2, has⟩ := h.fresh (nx := nx2) hw hi g1 g2 g3
  refine z_callV dX11_rows_13 cv_X11_110 (c_X9_size has) rfl has.c rfl rfl ⟨(Nat.le_of_ble_eq_true rfl), (Nat.le_of_ble_eq_true rfl)⟩ (Nat.le_of_ble_eq_true rfl) (Nat.le_of_ble_eq_true rfl) (Nat.le_of_ble_eq_true rfl) (fun v σ3 nx3 hx3 hq3 => ?_)
  obtain ⟨rfl, rfl, rfl⟩ := hq3
  exact z_iret dX11_rows_16 rfl (Nat.le_of_ble_eq_true rfl) (Nat.le_of_ble_eq_true rfl) ⟨rfl, ⟨t2, ok, hr.fr f2⟩, rfl⟩
set_option maxRecDepth 100000 in
theorem q_digest {i : Nat} (hG : zKap G) (S : zVs G σ b (nt, lim, mem, wk, slow, r, L, A, tk, sp, cs) R) (hi : i < nt.length) : zM G yX11_digest k0X11_digest [.ref b, .int (nI i)] σ nx (fun v σ' nx' => v = some (.int (zsq (zct lim nt i).flatten)) ∧ zVs G σ' b (nt, lim, mem, wk, slow, r, L, A, tk, sp, cs) R ∧ nx' = nx) := by
  refine zM.of (ls := [some (.ref b), some (.int (nI i))]) (by decide +kernel) ⟨rfl, rfl, rfl⟩ (Nat.le_of_ble_eq_true rfl) (fun _ h => h) ?_
  obtain ⟨h, ok, hr⟩ := S
  have h : zTG G σ b (b + 82) nt lim mem wk slow r L A tk sp cs := h
  obtain ⟨hw, hh, h14, hlim, -⟩ := id ok
  obtain ⟨fr, hgh⟩ := h.2.1
  refine z_aload_n dX11_digest_0 rfl ?_
  refine z_iload_n dX11_digest_1 rfl ?_
  refine z_callV dX11_digest_2 cv0_X11_96 (c0_X11_checkNode h.1 h.gr hi) rfl h.1 rfl rfl ⟨(Nat.le_of_ble_eq_true rfl), (Nat.le_of_ble_eq_true rfl)⟩ (Nat.le_of_ble_eq_true rfl) (Nat.le_of_ble_eq_true rfl) (Nat.le_of_ble_eq_true rfl) (fun v σ1 nx1 hx1 hq1 => ?_)
  obtain ⟨rfl, rfl, rfl⟩ := hq1
  refine z_aload_n dX11_digest_5 rfl ?_
  refine z_getf dX11_digest_6 fl_X11_25 h.1 rfl ?_
  refine z_iload_n dX11_digest_9 rfl ?_
  refine z_callV dX11_digest_10 cv_X11_187 (c_X3_freshRows hG hgh hw hlim hi) rfl hgh.2.1.1.1 rfl rfl ⟨(Nat.le_of_ble_eq_true rfl), (Nat.le_of_ble_eq_true rfl)⟩ (Nat.le_of_ble_eq_true rfl) (Nat.le_of_ble_eq_true rfl) (Nat.le_of_ble_eq_true rfl) (fun v σ2 nx2 hx2 hq2 => ?_)
  obtain ⟨rfl, ⟨fr2, g1, -, g2⟩, g3, rfl⟩ := hq2
  obtain ⟨t2, f2, has⟩ := h.fresh (nx := nx2) hw hi g1 g2 g3
  refine z_callV dX11_digest_13 cv_X11_221 (c_X9_squares has) rfl has.c rfl rfl ⟨(Nat.le_of_ble_eq_true rfl), (Nat.le_of_ble_eq_true rfl)⟩ (Nat.le_of_ble_eq_true rfl) (Nat.le_of_ble_eq_true rfl) (Nat.le_of_ble_eq_true rfl) (fun v σ3 nx3 hx3 hq3 => ?_)
  obtain ⟨rfl, rfl, rfl⟩ := hq3
  exact z_iret dX11_digest_16 rfl (Nat.le_of_ble_eq_true rfl) (Nat.le_of_ble_eq_true rfl) ⟨rfl, ⟨t2, ok, hr.fr f2⟩, rfl⟩
set_option maxRecDepth 100000 in
theorem q_digestInPlace {i : Nat} (hG : zKap G) (S : zVs G σ b (nt, lim, mem, wk, slow, r, L, A, tk, sp, cs) R) (hi : i < nt.length) : zM G yX11_digestInPlace k0X11_digestInPlace [.ref b, .int (nI i)] σ nx (fun v σ' nx' => v = some (.int (zsq (zct lim nt i).flatten)) ∧ zVs G σ' b (nt, lim, mem, wk, slow, r, L, A, tk, sp, cs) R ∧ nx' = nx) := by
  refine zM.of (ls := [some (.ref b), some (.int (nI i))]) (by decide +kernel) ⟨rfl, rfl, rfl⟩ (Nat.le_of_ble_eq_true rfl) (fun _ h => h) ?_
  obtain ⟨h, ok, hr⟩ := S
  have h : zTG G σ b (b + 82) nt lim mem wk slow r L A tk sp cs := h
  obtain ⟨hw, hh, h14, hlim, -⟩ := id ok
  obtain ⟨fr, hgh⟩ := h.2.2.1
  have h14 := h.gr.2.2.2.2.2.1
  have hhi := h.2.2.2.2.2.2.2.2
  refine z_aload_n dX11_digestInPlace_0 rfl ?_
  refine z_iload_n dX11_digestInPlace_1 rfl ?_
  refine z_callV dX11_digestInPlace_2 cv0_X11_96 (c0_X11_checkNode h.1 h.gr hi) rfl h.1 rfl rfl ⟨(Nat.le_of_ble_eq_true rfl), (Nat.le_of_ble_eq_true rfl)⟩ (Nat.le_of_ble_eq_true rfl) (Nat.le_of_ble_eq_true rfl) (Nat.le_of_ble_eq_true rfl) (fun v σ1 nx1 hx1 hq1 => ?_)
  obtain ⟨rfl, rfl, rfl⟩ := hq1
  refine z_aload_n dX11_digestInPlace_5 rfl ?_
  refine z_getf dX11_digestInPlace_6 fl_X11_29 h.1 rfl ?_
  refine z_iload_n dX11_digestInPlace_9 rfl ?_
  refine z_callV dX11_digestInPlace_10 cv_X11_187 (c_X3_freshRows hG hgh hw hlim hi) rfl hgh.2.1.1.1 rfl rfl ⟨(Nat.le_of_ble_eq_true rfl), (Nat.le_of_ble_eq_true rfl)⟩ (Nat.le_of_ble_eq_true rfl) (Nat.le_of_ble_eq_true rfl) (Nat.le_of_ble_eq_true rfl) (fun v σ2 nx2 hx2 hq2 => ?_)
  obtain ⟨rfl, ⟨fr2, g1, -, g2⟩, g3, rfl⟩ := hq2
  have has := (g1.2.1.2 i (by omega) (g2 i (by omega) (zLin_lt hw h14 i hi).2)).2
  refine z_callV dX11_digestInPlace_13 cv_X11_221 (c_X9_squares has) rfl has.c rfl rfl ⟨(Nat.le_of_ble_eq_true rfl), (Nat.le_of_ble_eq_true rfl)⟩ (Nat.le_of_ble_eq_true rfl) (Nat.le_of_ble_eq_true rfl) (Nat.le_of_ble_eq_true rfl) (fun v σ3 nx3 hx3 hq3 => ?_)
  obtain ⟨rfl, rfl, rfl⟩ := hq3
  exact z_iret dX11_digestInPlace_16 rfl (Nat.le_of_ble_eq_true rfl) (Nat.le_of_ble_eq_true rfl) ⟨by rw [zcon_sq hw h14 hi], ⟨h.onInPl g3 ⟨fr2, g1⟩, ok, hr.fr (g3.fh h.gr.ly (by omega) (by omega) hhi)⟩, rfl⟩
set_option maxRecDepth 100000 in
theorem q_rowsIn {i j : Nat} (hG : zKap G) (S : zVs G σ b (nt, lim, mem, wk, slow, r, L, A, tk, sp, cs) R) (hi : i < nt.length) (hj : j < (zct lim nt i).length) : zM G yX11_rowsIn k0X11_rowsIn [.ref b, .int (nI i), .int (nI j)] σ nx (fun v σ' nx' => v = some (.int (nI (zsz (zct lim nt i) j))) ∧ zVs G σ' b (nt, lim, mem, wk, slow, r, L, A, tk, sp, cs) R ∧ nx' = nx) := by
  refine zM.of (ls := [some (.ref b), some (.int (nI i)), some (.int (nI j)), none]) (by decide +kernel) ⟨rfl, rfl, rfl⟩ (Nat.le_of_ble_eq_true rfl) (fun _ h => h) ?_
  obtain ⟨h, ok, hr⟩ := S
  have h : zTG G σ b (b + 82) nt lim mem wk slow r L A tk sp cs := h
  obtain ⟨hw, hh, h14, hlim, -⟩ := id ok
  obtain ⟨fr, hgh⟩ := h.2.1
  refine z_aload_n dX11_rowsIn_0 rfl ?_
  refine z_iload_n dX11_rowsIn_1 rfl ?_
  refine z_callV dX11_rowsIn_2 cv0_X11_96 (c0_X11_checkNode h.1 h.gr hi) rfl h.1 rfl rfl ⟨(Nat.le_of_ble_eq_true rfl), (Nat.le_of_ble_eq_true rfl)⟩ (Nat.le_of_ble_eq_true rfl) (Nat.le_of_ble_eq_true rfl) (Nat.le_of_ble_eq_true rfl) (fun v σ1 nx1 hx1 hq1 => ?_)
  obtain ⟨rfl, rfl, rfl⟩ := hq1
  refine z_aload_n dX11_rowsIn_5 rfl ?_
  refine z_getf dX11_rowsIn_6 fl_X11_25 h.1 rfl ?_
  refine z_iload_n dX11_rowsIn_9 rfl ?_
  refine z_callV dX11_rowsIn_10 cv_X11_187 (c_X3_freshRows hG hgh hw hlim hi) rfl hgh.2.1.1.1 rfl rfl ⟨(Nat.le_of_ble_eq_true rfl), (Nat.le_of_ble_eq_true rfl)⟩ (Nat.le_of_ble_eq_true rfl) (Nat.le_of_ble_eq_true rfl) (Nat.le_of_ble_eq_true rfl) (fun v σ2 nx2 hx2 hq2 => ?_)
  obtain ⟨rfl, ⟨fr2, g1, -, g2⟩, g3, rfl⟩ := hq2
  obtain ⟨t2, f2, has⟩ := h.fresh (nx := nx2) hw hi g1 g2 g3
  refine z_astore_n dX11_rowsIn_13 (by decide) ?_
  refine z_aload_n dX11_rowsIn_14 rfl ?_
  refine z_iload_n dX11_rowsIn_15 rfl ?_
  refine z_callS dX11_rowsIn_16 cv0_X11_194 (c0_X11_checkPartition has hj) rfl rfl ⟨(Nat.le_of_ble_eq_true rfl), (Nat.le_of_ble_eq_true rfl)⟩ (Nat.le_of_ble_eq_true rfl) (Nat.le_of_ble_eq_true rfl) (Nat.le_of_ble_eq_true rfl) (fun v σ3 nx3 hx3 hq3 => ?_)
  obtain ⟨rfl, rfl, rfl⟩ := hq3
  refine z_aload_n dX11_rowsIn_19 rfl ?_
  refine z_iload_n dX11_rowsIn_20 rfl ?_
  refine z_callV dX11_rowsIn_21 cv_X11_198 (c_has_sizeOf has hj) rfl has.c rfl rfl ⟨(Nat.le_of_ble_eq_true rfl), (Nat.le_of_ble_eq_true rfl)⟩ (Nat.le_of_ble_eq_true rfl) (Nat.le_of_ble_eq_true rfl) (Nat.le_of_ble_eq_true rfl) (fun v σ4 nx4 hx4 hq4 => ?_)
  obtain ⟨rfl, rfl, rfl⟩ := hq4
  exact z_iret dX11_rowsIn_24 rfl (Nat.le_of_ble_eq_true rfl) (Nat.le_of_ble_eq_true rfl) ⟨rfl, ⟨t2, ok, hr.fr f2⟩, rfl⟩
set_option maxRecDepth 100000 in
theorem q_keyAt {i j q : Nat} (hG : zKap G) (S : zVs G σ b (nt, lim, mem, wk, slow, r, L, A, tk, sp, cs) R) (hi : i < nt.length) (hj : j < (zct lim nt i).length) (hq : q < zsz (zct lim nt i) j) : zM G yX11_keyAt k0X11_keyAt [.ref b, .int (nI i), .int (nI j), .int (nI q)] σ nx (fun v σ' nx' => v = some (.int (zrw (zct lim nt i) j q).1) ∧ zVs G σ' b (nt, lim, mem, wk, slow, r, L, A, tk, sp, cs) R ∧ nx' = nx) := by
  refine zM.of (ls := [some (.ref b), some (.int (nI i)), some (.int (nI j)), some (.int (nI q)), none]) (by decide +kernel) ⟨rfl, rfl, rfl⟩ (Nat.le_of_ble_eq_true rfl) (fun _ h => h) ?_
  obtain ⟨h, ok, hr⟩ := S
  have h : zTG G σ b (b + 82) nt lim mem wk slow r L A tk sp cs := h
  obtain ⟨hw, hh, h14, hlim, -⟩ := id ok
  obtain ⟨fr, hgh⟩ := h.2.1
  refine z_aload_n dX11_keyAt_0 rfl ?_
  refine z_iload_n dX11_keyAt_1 rfl ?_
  refine z_callV dX11_keyAt_2 cv0_X11_96 (c0_X11_checkNode h.1 h.gr hi) rfl h.1 rfl rfl ⟨(Nat.le_of_ble_eq_true rfl), (Nat.le_of_ble_eq_true rfl)⟩ (Nat.le_of_ble_eq_true rfl) (Nat.le_of_ble_eq_true rfl) (Nat.le_of_ble_eq_true rfl) (fun v σ1 nx1 hx1 hq1 => ?_)
  obtain ⟨rfl, rfl, rfl⟩ := hq1
  refine z_aload_n dX11_keyAt_5 rfl ?_
  refine z_getf dX11_keyAt_6 fl_X11_25 h.1 rfl ?_
  refine z_iload_n dX11_keyAt_9 rfl ?_
  refine z_callV dX11_keyAt_10 cv_X11_187 (c_X3_freshRows hG hgh hw hlim hi) rfl hgh.2.1.1.1 rfl rfl ⟨(Nat.le_of_ble_eq_true rfl), (Nat.le_of_ble_eq_true rfl)⟩ (Nat.le_of_ble_eq_true rfl) (Nat.le_of_ble_eq_true rfl) (Nat.le_of_ble_eq_true rfl) (fun v σ2 nx2 hx2 hq2 => ?_)
  obtain ⟨rfl, ⟨fr2, g1, -, g2⟩, g3, rfl⟩ := hq2
  obtain ⟨t2, f2, has⟩ := h.fresh (nx := nx2) hw hi g1 g2 g3
  refine z_astore dX11_keyAt_13 (by decide) ?_
  refine z_aload dX11_keyAt_15 rfl ?_
  refine z_iload_n dX11_keyAt_17 rfl ?_
  refine z_iload_n dX11_keyAt_18 rfl ?_
  refine z_callS dX11_keyAt_19 cv0_X11_202 (c0_X11_checkPlace has hj hq) rfl rfl ⟨(Nat.le_of_ble_eq_true rfl), (Nat.le_of_ble_eq_true rfl)⟩ (Nat.le_of_ble_eq_true rfl) (Nat.le_of_ble_eq_true rfl) (Nat.le_of_ble_eq_true rfl) (fun v σ3 nx3 hx3 hq3 => ?_)
  obtain ⟨rfl, rfl, rfl⟩ := hq3
  have hat := zrw_at hj hq
  refine z_aload dX11_keyAt_22 rfl ?_
  refine z_aload dX11_keyAt_24 rfl ?_
  refine z_iload_n dX11_keyAt_26 rfl ?_
  refine z_callV dX11_keyAt_27 cv_X11_206 (c_X9_begin has (show j ≤ (zcum 0 (zct lim nt i)).length by rw [zcum_len]; omega)) rfl has.c rfl rfl ⟨(Nat.le_of_ble_eq_true rfl), (Nat.le_of_ble_eq_true rfl)⟩ (Nat.le_of_ble_eq_true rfl) (Nat.le_of_ble_eq_true rfl) (Nat.le_of_ble_eq_true rfl) (fun v σ4 nx4 hx4 hq4 => ?_)
  obtain ⟨rfl, rfl, rfl⟩ := hq4
  rw [zbeg_at (by omega)]
  refine z_iload_n dX11_keyAt_30 rfl ?_
  refine z_iadd dX11_keyAt_31 ?_
  rw [nI_add]
  refine z_callV dX11_keyAt_32 cv_X11_209 (c_X9_key has hat) rfl has.c rfl rfl ⟨(Nat.le_of_ble_eq_true rfl), (Nat.le_of_ble_eq_true rfl)⟩ (Nat.le_of_ble_eq_true rfl) (Nat.le_of_ble_eq_true rfl) (Nat.le_of_ble_eq_true rfl) (fun v σ5 nx5 hx5 hq5 => ?_)
  obtain ⟨rfl, rfl, rfl⟩ := hq5
  exact z_iret dX11_keyAt_35 rfl (Nat.le_of_ble_eq_true rfl) (Nat.le_of_ble_eq_true rfl) ⟨rfl, ⟨t2, ok, hr.fr f2⟩, rfl⟩
set_option maxRecDepth 100000 in
theorem q_valueAt {i j q : Nat} (hG : zKap G) (S : zVs G σ b (nt, lim, mem, wk, slow, r, L, A, tk, sp, cs) R) (hi : i < nt.length) (hj : j < (zct lim nt i).length) (hq : q < zsz (zct lim nt i) j) : zM G yX11_valueAt k0X11_valueAt [.ref b, .int (nI i), .int (nI j), .int (nI q)] σ nx (fun v σ' nx' => v = some (.int (zrw (zct lim nt i) j q).2) ∧ zVs G σ' b (nt, lim, mem, wk, slow, r, L, A, tk, sp, cs) R ∧ nx' = nx) := by
  refine zM.of (ls := [some (.ref b), some (.int (nI i)), some (.int (nI j)), some (.int (nI q)), none]) (by decide +kernel) ⟨rfl, rfl, rfl⟩ (Nat.le_of_ble_eq_true rfl) (fun _ h => h) ?_
  obtain ⟨h, ok, hr⟩ := S
  have h : zTG G σ b (b + 82) nt lim mem wk slow r L A tk sp cs := h
  obtain ⟨hw, hh, h14, hlim, -⟩ := id ok
  obtain ⟨fr, hgh⟩ := h.2.1
  refine z_aload_n dX11_valueAt_0 rfl ?_
  refine z_iload_n dX11_valueAt_1 rfl ?_
  refine z_callV dX11_valueAt_2 cv0_X11_96 (c0_X11_checkNode h.1 h.gr hi) rfl h.1 rfl rfl ⟨(Nat.le_of_ble_eq_true rfl), (Nat.le_of_ble_eq_true rfl)⟩ (Nat.le_of_ble_eq_true rfl) (Nat.le_of_ble_eq_true rfl) (Nat.le_of_ble_eq_true rfl) (fun v σ1 nx1 hx1 hq1 => ?_)
  obtain ⟨rfl, rfl, rfl⟩ := hq1
  refine z_aload_n dX11_valueAt_5 rfl ?_
  refine z_getf dX11_valueAt_6 fl_X11_25 h.1 rfl ?_
  refine z_iload_n dX11_valueAt_9 rfl ?_
  refine z_callV dX11_valueAt_10 cv_X11_187 (c_X3_freshRows hG hgh hw hlim hi) rfl hgh.2.1.1.1 rfl rfl ⟨(Nat.le_of_ble_eq_true rfl), (Nat.le_of_ble_eq_true rfl)⟩ (Nat.le_of_ble_eq_true rfl) (Nat.le_of_ble_eq_true rfl) (Nat.le_of_ble_eq_true rfl) (fun v σ2 nx2 hx2 hq2 => ?_)
  obtain ⟨rfl, ⟨fr2, g1, -, g2⟩, g3, rfl⟩ := hq2
  obtain ⟨t2, f2, has⟩ := h.fresh (nx := nx2) hw hi g1 g2 g3
  refine z_astore dX11_valueAt_13 (by decide) ?_
  refine z_aload dX11_valueAt_15 rfl ?_
  refine z_iload_n dX11_valueAt_17 rfl ?_
  refine z_iload_n dX11_valueAt_18 rfl ?_
  refine z_callS dX11_valueAt_19 cv0_X11_202 (c0_X11_checkPlace has hj hq) rfl rfl ⟨(Nat.le_of_ble_eq_true rfl), (Nat.le_of_ble_eq_true rfl)⟩ (Nat.le_of_ble_eq_true rfl) (Nat.le_of_ble_eq_true rfl) (Nat.le_of_ble_eq_true rfl) (fun v σ3 nx3 hx3 hq3 => ?_)
  obtain ⟨rfl, rfl, rfl⟩ := hq3
  have hat := zrw_at hj hq
  refine z_aload dX11_valueAt_22 rfl ?_
  refine z_aload dX11_valueAt_24 rfl ?_
  refine z_iload_n dX11_valueAt_26 rfl ?_
  refine z_callV dX11_valueAt_27 cv_X11_206 (c_X9_begin has (show j ≤ (zcum 0 (zct lim nt i)).length by rw [zcum_len]; omega)) rfl has.c rfl rfl ⟨(Nat.le_of_ble_eq_true rfl), (Nat.le_of_ble_eq_true rfl)⟩ (Nat.le_of_ble_eq_true rfl) (Nat.le_of_ble_eq_true rfl) (Nat.le_of_ble_eq_true rfl) (fun v σ4 nx4 hx4 hq4 => ?_)
  obtain ⟨rfl, rfl, rfl⟩ := hq4
  rw [zbeg_at (by omega)]
  refine z_iload_n dX11_valueAt_30 rfl ?_
  refine z_iadd dX11_valueAt_31 ?_
  rw [nI_add]
  refine z_callV dX11_valueAt_32 cv_X11_212 (c_X9_value has hat) rfl has.c rfl rfl ⟨(Nat.le_of_ble_eq_true rfl), (Nat.le_of_ble_eq_true rfl)⟩ (Nat.le_of_ble_eq_true rfl) (Nat.le_of_ble_eq_true rfl) (Nat.le_of_ble_eq_true rfl) (fun v σ5 nx5 hx5 hq5 => ?_)
  obtain ⟨rfl, rfl, rfl⟩ := hq5
  exact z_iret dX11_valueAt_35 rfl (Nat.le_of_ble_eq_true rfl) (Nat.le_of_ble_eq_true rfl) ⟨rfl, ⟨t2, ok, hr.fr f2⟩, rfl⟩
set_option maxRecDepth 100000 in
theorem q_stages {i : Nat} (hG : zKap G) (S : zVs G σ b (nt, lim, mem, wk, slow, r, L, A, tk, sp, cs) R) (hi : i < nt.length) : zM G yX11_stages k0X11_stages [.ref b, .int (nI i)] σ nx (fun v σ' nx' => v = some (.int (nI (zcn (zdraw lim nt (zcd L) i).2.1 14))) ∧ zVs G σ' b (nt, lim, mem, wk, slow, r, L, A, tk, sp, cs) R ∧ nx' = nx) := by
  refine zM.of (ls := [some (.ref b), some (.int (nI i))]) (by decide +kernel) ⟨rfl, rfl, rfl⟩ (Nat.le_of_ble_eq_true rfl) (fun _ h => h) ?_
  obtain ⟨h, ok, hr⟩ := S
  have h : zTG G σ b (b + 82) nt lim mem wk slow r L A tk sp cs := h
  obtain ⟨hw, hh, h14, hlim, -⟩ := id ok
  obtain ⟨fr, hgh⟩ := h.2.1
  have hhi := h.2.2.2.2.2.2.2.2
  refine z_aload_n dX11_stages_0 rfl ?_
  refine z_iload_n dX11_stages_1 rfl ?_
  refine z_callV dX11_stages_2 cv0_X11_96 (c0_X11_checkNode h.1 h.gr hi) rfl h.1 rfl rfl ⟨(Nat.le_of_ble_eq_true rfl), (Nat.le_of_ble_eq_true rfl)⟩ (Nat.le_of_ble_eq_true rfl) (Nat.le_of_ble_eq_true rfl) (Nat.le_of_ble_eq_true rfl) (fun v σ1 nx1 hx1 hq1 => ?_)
  obtain ⟨rfl, rfl, rfl⟩ := hq1
  refine z_aload_n dX11_stages_5 rfl ?_
  refine z_getf dX11_stages_6 fl_X11_25 h.1 rfl ?_
  refine z_iload_n dX11_stages_9 rfl ?_
  refine z_callV dX11_stages_10 cv_X11_187 (c_X3_freshRows hG hgh hw hlim hi) rfl hgh.2.1.1.1 rfl rfl ⟨(Nat.le_of_ble_eq_true rfl), (Nat.le_of_ble_eq_true rfl)⟩ (Nat.le_of_ble_eq_true rfl) (Nat.le_of_ble_eq_true rfl) (Nat.le_of_ble_eq_true rfl) (fun v σ2 nx2 hx2 hq2 => ?_)
  obtain ⟨rfl, ⟨fr2, g1, -, g2⟩, g3, rfl⟩ := hq2
  obtain ⟨t2, f2, has⟩ := h.fresh (nx := nx2) hw hi g1 g2 g3
  obtain ⟨tt, rf, p1, p2⟩ := t2.pl
  obtain ⟨u0, o0, w0, pc⟩ := p1.c
  refine z_pop dX11_stages_13 rfl ?_
  refine z_aload_n dX11_stages_14 rfl ?_
  refine z_getf dX11_stages_15 fl_X11_44 t2.1 rfl ?_
  refine z_iload_n dX11_stages_18 rfl ?_
  refine z_callV dX11_stages_19 cv_X11_268 (c_X8_draw hG (t2.en g1 hw hlim) p1 p2 (by omega) (by omega) hi g2) rfl pc rfl rfl ⟨(Nat.le_of_ble_eq_true rfl), (Nat.le_of_ble_eq_true rfl)⟩ (Nat.le_of_ble_eq_true rfl) (Nat.le_of_ble_eq_true rfl) (Nat.le_of_ble_eq_true rfl) (fun v σ3 nx3 hx3 hq3 => ?_)
  obtain ⟨rfl, q1, ⟨rf', q2, -⟩, q3, rfl⟩ := hq3
  have t3 := t2.onPlan (fun x hx => q3 x (by omega)) ⟨_, rf', q1, q2⟩
  obtain ⟨u1, o1, w1, pc1⟩ := q1.c
  refine z_aload_n dX11_stages_22 rfl ?_
  refine z_getf dX11_stages_23 fl_X11_44 t3.1 rfl ?_
  refine z_callV dX11_stages_26 cv_X11_271 (c_X8_countOfStages q1) rfl pc1 rfl rfl ⟨(Nat.le_of_ble_eq_true rfl), (Nat.le_of_ble_eq_true rfl)⟩ (Nat.le_of_ble_eq_true rfl) (Nat.le_of_ble_eq_true rfl) (Nat.le_of_ble_eq_true rfl) (fun v σ4 nx4 hx4 hq4 => ?_)
  obtain ⟨rfl, rfl, rfl⟩ := hq4
  exact z_iret dX11_stages_29 rfl (Nat.le_of_ble_eq_true rfl) (Nat.le_of_ble_eq_true rfl) ⟨rfl, ⟨t3, ok, hr.fr (f2.tr (q3.h (by omega) (by omega)))⟩, rfl⟩
set_option maxRecDepth 100000 in
theorem q_nodeOf {i : Nat} (hG : zKap G) (S : zVs G σ b (nt, lim, mem, wk, slow, r, L, A, tk, sp, cs) R) {a : zAE} (hg : A[i]? = some a) : zM G yX11_nodeOf k0X11_nodeOf [.ref b, .int (nI i)] σ nx (fun v σ' nx' => v = some (.int (zAc a 0)) ∧ zVs G σ' b (nt, lim, mem, wk, slow, r, L, A, tk, sp, cs) R ∧ nx' = nx) := by
  refine zM.of (ls := [some (.ref b), some (.int (nI i))]) (by decide +kernel) ⟨rfl, rfl, rfl⟩ (Nat.le_of_ble_eq_true rfl) (fun _ h => h) ?_
  obtain ⟨h, ok, hr⟩ := S
  have h : zTG G σ b (b + 82) nt lim mem wk slow r L A tk sp cs := h
  obtain ⟨hw, hh, h14, hlim, -⟩ := id ok
  have hi : i < A.length := zR_lt hg
  obtain ⟨f, f1, f2, f3, f4⟩ := h.lg
  refine z_aload_n dX11_nodeOf_0 rfl ?_
  refine z_iload_n dX11_nodeOf_1 rfl ?_
  refine z_callV dX11_nodeOf_2 cv0_X11_307 (c0_X11_checkAttempt h.1 h.lg hi) rfl h.1 rfl rfl ⟨(Nat.le_of_ble_eq_true rfl), (Nat.le_of_ble_eq_true rfl)⟩ (Nat.le_of_ble_eq_true rfl) (Nat.le_of_ble_eq_true rfl) (Nat.le_of_ble_eq_true rfl) (fun v σ1 nx1 hx1 hq1 => ?_)
  obtain ⟨rfl, rfl, rfl⟩ := hq1
  have a5 : zInts G σ1 (b + 49 + 7 + 1 + 2 * 0) 224 (f 0) := f2 0 (by decide)
  refine z_aload_n dX11_nodeOf_5 rfl ?_
  refine z_getf dX11_nodeOf_6 fl_X11_58 h.1 rfl ?_
  refine z_getf dX11_nodeOf_9 fl_X11_310 f1 rfl ?_
  refine z_iload_n dX11_nodeOf_12 rfl ?_
  refine z_callV dX11_nodeOf_13 cv_X11_239 (c_X4_at a5 (by omega)) rfl a5.1 rfl rfl ⟨(Nat.le_of_ble_eq_true rfl), (Nat.le_of_ble_eq_true rfl)⟩ (Nat.le_of_ble_eq_true rfl) (Nat.le_of_ble_eq_true rfl) (Nat.le_of_ble_eq_true rfl) (fun v σ2 nx2 hx2 hq2 => ?_)
  obtain ⟨rfl, rfl, rfl⟩ := hq2
  rw [zrd_nI (by omega) (by omega), f3 i _ hg 0 (by decide)]
  exact z_iret dX11_nodeOf_16 rfl (Nat.le_of_ble_eq_true rfl) (Nat.le_of_ble_eq_true rfl) ⟨rfl, ⟨h, ok, hr⟩, rfl⟩
set_option maxRecDepth 100000 in
theorem q_partitionOf {i : Nat} (hG : zKap G) (S : zVs G σ b (nt, lim, mem, wk, slow, r, L, A, tk, sp, cs) R) {a : zAE} (hg : A[i]? = some a) : zM G yX11_partitionOf k0X11_partitionOf [.ref b, .int (nI i)] σ nx (fun v σ' nx' => v = some (.int (zAc a 1)) ∧ zVs G σ' b (nt, lim, mem, wk, slow, r, L, A, tk, sp, cs) R ∧ nx' = nx) := by
  refine zM.of (ls := [some (.ref b), some (.int (nI i))]) (by decide +kernel) ⟨rfl, rfl, rfl⟩ (Nat.le_of_ble_eq_true rfl) (fun _ h => h) ?_
  obtain ⟨h, ok, hr⟩ := S
  have h : zTG G σ b (b + 82) nt lim mem wk slow r L A tk sp cs := h
  obtain ⟨hw, hh, h14, hlim, -⟩ := id ok
  have hi : i < A.length := zR_lt hg
  obtain ⟨f, f1, f2, f3, f4⟩ := h.lg
  refine z_aload_n dX11_partitionOf_0 rfl ?_
  refine z_iload_n dX11_partitionOf_1 rfl ?_
  refine z_callV dX11_partitionOf_2 cv0_X11_307 (c0_X11_checkAttempt h.1 h.lg hi) rfl h.1 rfl rfl ⟨(Nat.le_of_ble_eq_true rfl), (Nat.le_of_ble_eq_true rfl)⟩ (Nat.le_of_ble_eq_true rfl) (Nat.le_of_ble_eq_true rfl) (Nat.le_of_ble_eq_true rfl) (fun v σ1 nx1 hx1 hq1 => ?_)
  obtain ⟨rfl, rfl, rfl⟩ := hq1
  have a5 : zInts G σ1 (b + 49 + 7 + 1 + 2 * 1) 224 (f 1) := f2 1 (by decide)
  refine z_aload_n dX11_partitionOf_5 rfl ?_
  refine z_getf dX11_partitionOf_6 fl_X11_58 h.1 rfl ?_
  refine z_getf dX11_partitionOf_9 fl_X11_312 f1 rfl ?_
  refine z_iload_n dX11_partitionOf_12 rfl ?_
  refine z_callV dX11_partitionOf_13 cv_X11_239 (c_X4_at a5 (by omega)) rfl a5.1 rfl rfl ⟨(Nat.le_of_ble_eq_true rfl), (Nat.le_of_ble_eq_true rfl)⟩ (Nat.le_of_ble_eq_true rfl) (Nat.le_of_ble_eq_true rfl) (Nat.le_of_ble_eq_true rfl) (fun v σ2 nx2 hx2 hq2 => ?_)
  obtain ⟨rfl, rfl, rfl⟩ := hq2
  rw [zrd_nI (by omega) (by omega), f3 i _ hg 1 (by decide)]
  exact z_iret dX11_partitionOf_16 rfl (Nat.le_of_ble_eq_true rfl) (Nat.le_of_ble_eq_true rfl) ⟨rfl, ⟨h, ok, hr⟩, rfl⟩
set_option maxRecDepth 100000 in
theorem q_workerOf {i : Nat} (hG : zKap G) (S : zVs G σ b (nt, lim, mem, wk, slow, r, L, A, tk, sp, cs) R) {a : zAE} (hg : A[i]? = some a) : zM G yX11_workerOf k0X11_workerOf [.ref b, .int (nI i)] σ nx (fun v σ' nx' => v = some (.int (zAc a 2)) ∧ zVs G σ' b (nt, lim, mem, wk, slow, r, L, A, tk, sp, cs) R ∧ nx' = nx) := by
  refine zM.of (ls := [some (.ref b), some (.int (nI i))]) (by decide +kernel) ⟨rfl, rfl, rfl⟩ (Nat.le_of_ble_eq_true rfl) (fun _ h => h) ?_
  obtain ⟨h, ok, hr⟩ := S
  have h : zTG G σ b (b + 82) nt lim mem wk slow r L A tk sp cs := h
  obtain ⟨hw, hh, h14, hlim, -⟩ := id ok
  have hi : i < A.length := zR_lt hg
  obtain ⟨f, f1, f2, f3, f4⟩ := h.lg
  refine z_aload_n dX11_workerOf_0 rfl ?_
  refine z_iload_n dX11_workerOf_1 rfl ?_
  refine z_callV dX11_workerOf_2 cv0_X11_307 (c0_X11_checkAttempt h.1 h.lg hi) rfl h.1 rfl rfl ⟨(Nat.le_of_ble_eq_true rfl), (Nat.le_of_ble_eq_true rfl)⟩ (Nat.le_of_ble_eq_true rfl) (Nat.le_of_ble_eq_true rfl) (Nat.le_of_ble_eq_true rfl) (fun v σ1 nx1 hx1 hq1 => ?_)
  obtain ⟨rfl, rfl, rfl⟩ := hq1
  have a5 : zInts G σ1 (b + 49 + 7 + 1 + 2 * 2) 224 (f 2) := f2 2 (by decide)
  refine z_aload_n dX11_workerOf_5 rfl ?_
  refine z_getf dX11_workerOf_6 fl_X11_58 h.1 rfl ?_
  refine z_getf dX11_workerOf_9 fl_X11_314 f1 rfl ?_
  refine z_iload_n dX11_workerOf_12 rfl ?_
  refine z_callV dX11_workerOf_13 cv_X11_239 (c_X4_at a5 (by omega)) rfl a5.1 rfl rfl ⟨(Nat.le_of_ble_eq_true rfl), (Nat.le_of_ble_eq_true rfl)⟩ (Nat.le_of_ble_eq_true rfl) (Nat.le_of_ble_eq_true rfl) (Nat.le_of_ble_eq_true rfl) (fun v σ2 nx2 hx2 hq2 => ?_)
  obtain ⟨rfl, rfl, rfl⟩ := hq2
  rw [zrd_nI (by omega) (by omega), f3 i _ hg 2 (by decide)]
  exact z_iret dX11_workerOf_16 rfl (Nat.le_of_ble_eq_true rfl) (Nat.le_of_ble_eq_true rfl) ⟨rfl, ⟨h, ok, hr⟩, rfl⟩
set_option maxRecDepth 100000 in
theorem q_startOf {i : Nat} (hG : zKap G) (S : zVs G σ b (nt, lim, mem, wk, slow, r, L, A, tk, sp, cs) R) {a : zAE} (hg : A[i]? = some a) : zM G yX11_startOf k0X11_startOf [.ref b, .int (nI i)] σ nx (fun v σ' nx' => v = some (.int (zAc a 3)) ∧ zVs G σ' b (nt, lim, mem, wk, slow, r, L, A, tk, sp, cs) R ∧ nx' = nx) := by
  refine zM.of (ls := [some (.ref b), some (.int (nI i))]) (by decide +kernel) ⟨rfl, rfl, rfl⟩ (Nat.le_of_ble_eq_true rfl) (fun _ h => h) ?_
  obtain ⟨h, ok, hr⟩ := S
  have h : zTG G σ b (b + 82) nt lim mem wk slow r L A tk sp cs := h
  obtain ⟨hw, hh, h14, hlim, -⟩ := id ok
  have hi : i < A.length := zR_lt hg
  obtain ⟨f, f1, f2, f3, f4⟩ := h.lg
  refine z_aload_n dX11_startOf_0 rfl ?_
  refine z_iload_n dX11_startOf_1 rfl ?_
  refine z_callV dX11_startOf_2 cv0_X11_307 (c0_X11_checkAttempt h.1 h.lg hi) rfl h.1 rfl rfl ⟨(Nat.le_of_ble_eq_true rfl), (Nat.le_of_ble_eq_true rfl)⟩ (Nat.le_of_ble_eq_true rfl) (Nat.le_of_ble_eq_true rfl) (Nat.le_of_ble_eq_true rfl) (fun v σ1 nx1 hx1 hq1 => ?_)
  obtain ⟨rfl, rfl, rfl⟩ := hq1
  have a5 : zInts G σ1 (b + 49 + 7 + 1 + 2 * 3) 224 (f 3) := f2 3 (by decide)
  refine z_aload_n dX11_startOf_5 rfl ?_
  refine z_getf dX11_startOf_6 fl_X11_58 h.1 rfl ?_
  refine z_getf dX11_startOf_9 fl_X11_317 f1 rfl ?_
  refine z_iload_n dX11_startOf_12 rfl ?_
  refine z_callV dX11_startOf_13 cv_X11_239 (c_X4_at a5 (by omega)) rfl a5.1 rfl rfl ⟨(Nat.le_of_ble_eq_true rfl), (Nat.le_of_ble_eq_true rfl)⟩ (Nat.le_of_ble_eq_true rfl) (Nat.le_of_ble_eq_true rfl) (Nat.le_of_ble_eq_true rfl) (fun v σ2 nx2 hx2 hq2 => ?_)
  obtain ⟨rfl, rfl, rfl⟩ := hq2
  rw [zrd_nI (by omega) (by omega), f3 i _ hg 3 (by decide)]
  exact z_iret dX11_startOf_16 rfl (Nat.le_of_ble_eq_true rfl) (Nat.le_of_ble_eq_true rfl) ⟨rfl, ⟨h, ok, hr⟩, rfl⟩
set_option maxRecDepth 100000 in
theorem q_endOf {i : Nat} (hG : zKap G) (S : zVs G σ b (nt, lim, mem, wk, slow, r, L, A, tk, sp, cs) R) {a : zAE} (hg : A[i]? = some a) : zM G yX11_endOf k0X11_endOf [.ref b, .int (nI i)] σ nx (fun v σ' nx' => v = some (.int (zAc a 4)) ∧ zVs G σ' b (nt, lim, mem, wk, slow, r, L, A, tk, sp, cs) R ∧ nx' = nx) := by
  refine zM.of (ls := [some (.ref b), some (.int (nI i))]) (by decide +kernel) ⟨rfl, rfl, rfl⟩ (Nat.le_of_ble_eq_true rfl) (fun _ h => h) ?_
  obtain ⟨h, ok, hr⟩ := S
  have h : zTG G σ b (b + 82) nt lim mem wk slow r L A tk sp cs := h
  obtain ⟨hw, hh, h14, hlim, -⟩ := id ok
  have hi : i < A.length := zR_lt hg
  obtain ⟨f, f1, f2, f3, f4⟩ := h.lg
  refine z_aload_n dX11_endOf_0 rfl ?_
  refine z_iload_n dX11_endOf_1 rfl ?_
  refine z_callV dX11_endOf_2 cv0_X11_307 (c0_X11_checkAttempt h.1 h.lg hi) rfl h.1 rfl rfl ⟨(Nat.le_of_ble_eq_true rfl), (Nat.le_of_ble_eq_true rfl)⟩ (Nat.le_of_ble_eq_true rfl) (Nat.le_of_ble_eq_true rfl) (Nat.le_of_ble_eq_true rfl) (fun v σ1 nx1 hx1 hq1 => ?_)
  obtain ⟨rfl, rfl, rfl⟩ := hq1
  have a5 : zInts G σ1 (b + 49 + 7 + 1 + 2 * 4) 224 (f 4) := f2 4 (by decide)
  refine z_aload_n dX11_endOf_5 rfl ?_
  refine z_getf dX11_endOf_6 fl_X11_58 h.1 rfl ?_
  refine z_getf dX11_endOf_9 fl_X11_320 f1 rfl ?_
  refine z_iload_n dX11_endOf_12 rfl ?_
  refine z_callV dX11_endOf_13 cv_X11_239 (c_X4_at a5 (by omega)) rfl a5.1 rfl rfl ⟨(Nat.le_of_ble_eq_true rfl), (Nat.le_of_ble_eq_true rfl)⟩ (Nat.le_of_ble_eq_true rfl) (Nat.le_of_ble_eq_true rfl) (Nat.le_of_ble_eq_true rfl) (fun v σ2 nx2 hx2 hq2 => ?_)
  obtain ⟨rfl, rfl, rfl⟩ := hq2
  rw [zrd_nI (by omega) (by omega), f3 i _ hg 4 (by decide)]
  exact z_iret dX11_endOf_16 rfl (Nat.le_of_ble_eq_true rfl) (Nat.le_of_ble_eq_true rfl) ⟨rfl, ⟨h, ok, hr⟩, rfl⟩
set_option maxRecDepth 100000 in
theorem q_isBroad {i : Nat} (hG : zKap G) (S : zVs G σ b (nt, lim, mem, wk, slow, r, L, A, tk, sp, cs) R) (hi : i < nt.length) (hk : zkd nt i = 5) : zM G yX11_isBroad k0X11_isBroad [.ref b, .int (nI i)] σ nx (fun v σ' nx' => v = some (.int (if zbr lim nt i = true then 1 else 0)) ∧ zVs G σ' b (nt, lim, mem, wk, slow, r, L, A, tk, sp, cs) R ∧ nx' = nx) := by
  refine zM.of (ls := [some (.ref b), some (.int (nI i))]) (by decide +kernel) ⟨rfl, rfl, rfl⟩ (Nat.le_of_ble_eq_true rfl) (fun _ h => h) ?_
  obtain ⟨h, ok, hr⟩ := S
  have h : zTG G σ b (b + 82) nt lim mem wk slow r L A tk sp cs := h
  obtain ⟨hw, hh, h14, hlim, -⟩ := id ok
  obtain ⟨fr, hgh⟩ := h.2.1
  have h14 := h.gr.2.2.2.2.2.1
  refine z_aload_n dX11_isBroad_0 rfl ?_
  refine z_iload_n dX11_isBroad_1 rfl ?_
  refine z_callV dX11_isBroad_2 cv0_X11_96 (c0_X11_checkNode h.1 h.gr hi) rfl h.1 rfl rfl ⟨(Nat.le_of_ble_eq_true rfl), (Nat.le_of_ble_eq_true rfl)⟩ (Nat.le_of_ble_eq_true rfl) (Nat.le_of_ble_eq_true rfl) (Nat.le_of_ble_eq_true rfl) (fun v σ1 nx1 hx1 hq1 => ?_)
  obtain ⟨rfl, rfl, rfl⟩ := hq1
  obtain ⟨e, hei, eD, ek, k6, -⟩ := zNfo (lim := lim) hw h14 hi
  refine z_aload_n dX11_isBroad_5 rfl ?_
  refine z_getf dX11_isBroad_6 fl_X11_16 h.1 rfl ?_
  refine z_iload_n dX11_isBroad_9 rfl ?_
  refine z_callV dX11_isBroad_10 cv_X11_99 (c_X2_at h.gr) rfl h.gr.1 rfl rfl ⟨(Nat.le_of_ble_eq_true rfl), (Nat.le_of_ble_eq_true rfl)⟩ (Nat.le_of_ble_eq_true rfl) (Nat.le_of_ble_eq_true rfl) (Nat.le_of_ble_eq_true rfl) (fun v σ2 nx2 hx2 hq2 => ?_)
  obtain ⟨rfl, rfl, rfl⟩ := hq2
  rw [znat_in hei h14]
  refine z_getf dX11_isBroad_13 fl_X11_103 (h.gr.2.2.2.1 i e hei).1.1 rfl ?_
  refine z_kind dX11_isBroad_16 (by decide) fs_X11_183 ?_
  by_cases k5 : e.2.1 = 5
  · refine z_racmp_eq (tgt := 32) dX11_isBroad_19 (by decide) (fun _ => ?_) (fun q => absurd ((by rw [k5])) q)
    refine z_aload_n dX11_isBroad_32 rfl ?_
    refine z_getf dX11_isBroad_33 fl_X11_25 h.1 rfl ?_
    refine z_iload_n dX11_isBroad_36 rfl ?_
    refine z_callV dX11_isBroad_37 cv_X11_187 (c_X3_freshRows hG hgh hw hlim hi) rfl hgh.2.1.1.1 rfl rfl ⟨(Nat.le_of_ble_eq_true rfl), (Nat.le_of_ble_eq_true rfl)⟩ (Nat.le_of_ble_eq_true rfl) (Nat.le_of_ble_eq_true rfl) (Nat.le_of_ble_eq_true rfl) (fun v σ3 nx3 hx3 hq3 => ?_)
    obtain ⟨rfl, ⟨fr2, g1, -, g2⟩, g3, rfl⟩ := hq3
    obtain ⟨t2, f2, has⟩ := h.fresh (nx := nx3) hw hi g1 g2 g3
    refine z_pop dX11_isBroad_40 rfl ?_
    refine z_aload_n dX11_isBroad_41 rfl ?_
    refine z_getf dX11_isBroad_42 fl_X11_25 t2.1 rfl ?_
    refine z_iload_n dX11_isBroad_45 rfl ?_
    refine z_callV dX11_isBroad_46 cv_X11_217 (c_X3_joinsBroadly hG g1 hw hlim hi g2) rfl g1.2.1.1.1 rfl rfl ⟨(Nat.le_of_ble_eq_true rfl), (Nat.le_of_ble_eq_true rfl)⟩ (Nat.le_of_ble_eq_true rfl) (Nat.le_of_ble_eq_true rfl) (Nat.le_of_ble_eq_true rfl) (fun v σ4 nx4 hx4 hq4 => ?_)
    obtain ⟨⟨bb, rfl, hb⟩, rfl, rfl⟩ := hq4
    rw [← zbr_iff] at hb
    have e2 : zbr lim nt i = bb := by cases bb with | true => exact hb.mp rfl | false => cases hz : zbr lim nt i with | true => exact nomatch hb.mpr hz | false => rfl
    refine z_zret dX11_isBroad_49 rfl (by cases bb <;> rfl) (Nat.le_of_ble_eq_true rfl) (Nat.le_of_ble_eq_true rfl) ⟨by rw [e2], ⟨t2, ok, hr.fr f2⟩, rfl⟩
  · exact absurd (ek ▸ hk) k5
set_option maxRecDepth 100000 in
theorem q_isCached {i : Nat} (hG : zKap G) (S : zVs G σ b (nt, lim, mem, wk, slow, r, L, A, tk, sp, cs) R) (hi : i < nt.length) : zM G yX11_isCached k0X11_isCached [.ref b, .int (nI i)] σ nx (fun v σ' nx' => v = some (.int (if zcd L i = true then 1 else 0)) ∧ zVs G σ' b (nt, lim, mem, wk, slow, r, L, A, tk, sp, cs) R ∧ nx' = nx) := by
  refine zM.of (ls := [some (.ref b), some (.int (nI i))]) (by decide +kernel) ⟨rfl, rfl, rfl⟩ (Nat.le_of_ble_eq_true rfl) (fun _ h => h) ?_
  obtain ⟨h, ok, hr⟩ := S
  have h : zTG G σ b (b + 82) nt lim mem wk slow r L A tk sp cs := h
  obtain ⟨hw, hh, h14, hlim, -⟩ := id ok
  have h14 := h.gr.2.2.2.2.2.1
  obtain ⟨mm, hcc⟩ := h.ca.c
  refine z_aload_n dX11_isCached_0 rfl ?_
  refine z_iload_n dX11_isCached_1 rfl ?_
  refine z_callV dX11_isCached_2 cv0_X11_96 (c0_X11_checkNode h.1 h.gr hi) rfl h.1 rfl rfl ⟨(Nat.le_of_ble_eq_true rfl), (Nat.le_of_ble_eq_true rfl)⟩ (Nat.le_of_ble_eq_true rfl) (Nat.le_of_ble_eq_true rfl) (Nat.le_of_ble_eq_true rfl) (fun v σ1 nx1 hx1 hq1 => ?_)
  obtain ⟨rfl, rfl, rfl⟩ := hq1
  refine z_aload_n dX11_isCached_5 rfl ?_
  refine z_getf dX11_isCached_6 fl_X11_35 h.1 rfl ?_
  refine z_iload_n dX11_isCached_9 rfl ?_
  refine z_callV dX11_isCached_10 cv_X11_265 (c_X0_holds h.ca (by omega)) rfl hcc rfl rfl ⟨(Nat.le_of_ble_eq_true rfl), (Nat.le_of_ble_eq_true rfl)⟩ (Nat.le_of_ble_eq_true rfl) (Nat.le_of_ble_eq_true rfl) (Nat.le_of_ble_eq_true rfl) (fun v σ2 nx2 hx2 hq2 => ?_)
  obtain ⟨⟨bb, rfl, hb⟩, rfl, rfl⟩ := hq2
  rw [← zcd_iff] at hb
  have e : zcd L i = bb := by cases bb with | true => exact hb.mp rfl | false => cases hz : zcd L i with | true => exact nomatch hb.mpr hz | false => rfl
  refine z_zret dX11_isCached_13 rfl (by cases bb <;> rfl) (Nat.le_of_ble_eq_true rfl) (Nat.le_of_ble_eq_true rfl) ⟨by rw [e], ⟨h, ok, hr⟩, rfl⟩
set_option maxRecDepth 100000 in
theorem q_isCopy {i : Nat} (hG : zKap G) (S : zVs G σ b (nt, lim, mem, wk, slow, r, L, A, tk, sp, cs) R) {a : zAE} (hg : A[i]? = some a) : zM G yX11_isCopy k0X11_isCopy [.ref b, .int (nI i)] σ nx (fun v σ' nx' => v = some (.int (zAc a 5)) ∧ zVs G σ' b (nt, lim, mem, wk, slow, r, L, A, tk, sp, cs) R ∧ nx' = nx) := by
  refine zM.of (ls := [some (.ref b), some (.int (nI i))]) (by decide +kernel) ⟨rfl, rfl, rfl⟩ (Nat.le_of_ble_eq_true rfl) (fun _ h => h) ?_
  obtain ⟨h, ok, hr⟩ := S
  have h : zTG G σ b (b + 82) nt lim mem wk slow r L A tk sp cs := h
  obtain ⟨hw, hh, h14, hlim, -⟩ := id ok
  have hi : i < A.length := zR_lt hg
  obtain ⟨f, f1, f2, f3, f4⟩ := h.lg
  refine z_aload_n dX11_isCopy_0 rfl ?_
  refine z_iload_n dX11_isCopy_1 rfl ?_
  refine z_callV dX11_isCopy_2 cv0_X11_307 (c0_X11_checkAttempt h.1 h.lg hi) rfl h.1 rfl rfl ⟨(Nat.le_of_ble_eq_true rfl), (Nat.le_of_ble_eq_true rfl)⟩ (Nat.le_of_ble_eq_true rfl) (Nat.le_of_ble_eq_true rfl) (Nat.le_of_ble_eq_true rfl) (fun v σ1 nx1 hx1 hq1 => ?_)
  obtain ⟨rfl, rfl, rfl⟩ := hq1
  have a5 : zInts G σ1 (b + 49 + 7 + 1 + 2 * 5) 224 (f 5) := f2 5 (by decide)
  refine z_aload_n dX11_isCopy_5 rfl ?_
  refine z_getf dX11_isCopy_6 fl_X11_58 h.1 rfl ?_
  refine z_getf dX11_isCopy_9 fl_X11_323 f1 rfl ?_
  refine z_iload_n dX11_isCopy_12 rfl ?_
  refine z_callV dX11_isCopy_13 cv_X11_239 (c_X4_at a5 (by omega)) rfl a5.1 rfl rfl ⟨(Nat.le_of_ble_eq_true rfl), (Nat.le_of_ble_eq_true rfl)⟩ (Nat.le_of_ble_eq_true rfl) (Nat.le_of_ble_eq_true rfl) (Nat.le_of_ble_eq_true rfl) (fun v σ2 nx2 hx2 hq2 => ?_)
  obtain ⟨rfl, rfl, rfl⟩ := hq2
  rw [zrd_nI (by omega) (by omega), f3 i _ hg 5 (by decide)]
  have e5 : zAc a 5 = if a.2.2.2.2.2 then 1 else 0 := rfl
  cases hc : a.2.2.2.2.2 with
  | true =>
    rw [hc, if_pos rfl] at e5
    rw [e5]
    refine z_if_eq (tgt := 23) dX11_isCopy_16 (by decide) (fun q => absurd q ((by decide))) (fun _ => ?_)
    refine z_iconst (v := 1) dX11_isCopy_19 (by decide) ?_
    refine z_goto (tgt := 24) dX11_isCopy_20 (by decide) ?_
    exact z_zret dX11_isCopy_24 rfl rfl (Nat.le_of_ble_eq_true rfl) (Nat.le_of_ble_eq_true rfl) ⟨rfl, ⟨h, ok, hr⟩, rfl⟩
  | false =>
    rw [hc, if_neg (by decide)] at e5
    rw [e5]
    refine z_if_eq (tgt := 23) dX11_isCopy_16 (by decide) (fun _ => ?_) (fun q => absurd (rfl) q)
    refine z_iconst (v := 0) dX11_isCopy_23 (by decide) ?_
    exact z_zret dX11_isCopy_24 rfl rfl (Nat.le_of_ble_eq_true rfl) (Nat.le_of_ble_eq_true rfl) ⟨rfl, ⟨h, ok, hr⟩, rfl⟩
set_option maxRecDepth 100000 in
theorem q_outputOf {i n : Nat} (hG : zKap G) (S : zVs G σ b (nt, lim, mem, wk, slow, r, L, A, tk, sp, cs) R) (hi : i < nt.length) (c2 : n < zcn (zdraw lim nt (zcd L) i).2.1 14) : zM G yX11_outputOf k0X11_outputOf [.ref b, .int (nI i), .int (nI n)] σ nx (fun v σ' nx' => v = some (.int (nI (znu (zdraw lim nt (zcd L) i).2.1 n))) ∧ zVs G σ' b (nt, lim, mem, wk, slow, r, L, A, tk, sp, cs) R ∧ nx' = nx) := by
  refine zM.of (ls := [some (.ref b), some (.int (nI i)), some (.int (nI n))]) (by decide +kernel) ⟨rfl, rfl, rfl⟩ (Nat.le_of_ble_eq_true rfl) (fun _ h => h) ?_
  obtain ⟨h, ok, hr⟩ := S
  have h : zTG G σ b (b + 82) nt lim mem wk slow r L A tk sp cs := h
  obtain ⟨hw, hh, h14, hlim, -⟩ := id ok
  obtain ⟨fr, hgh⟩ := h.2.1
  have hhi := h.2.2.2.2.2.2.2.2
  refine z_aload_n dX11_outputOf_0 rfl ?_
  refine z_iload_n dX11_outputOf_1 rfl ?_
  refine z_callV dX11_outputOf_2 cv0_X11_96 (c0_X11_checkNode h.1 h.gr hi) rfl h.1 rfl rfl ⟨(Nat.le_of_ble_eq_true rfl), (Nat.le_of_ble_eq_true rfl)⟩ (Nat.le_of_ble_eq_true rfl) (Nat.le_of_ble_eq_true rfl) (Nat.le_of_ble_eq_true rfl) (fun v σ1 nx1 hx1 hq1 => ?_)
  obtain ⟨rfl, rfl, rfl⟩ := hq1
  refine z_aload_n dX11_outputOf_5 rfl ?_
  refine z_getf dX11_outputOf_6 fl_X11_25 h.1 rfl ?_
  refine z_iload_n dX11_outputOf_9 rfl ?_
  refine z_callV dX11_outputOf_10 cv_X11_187 (c_X3_freshRows hG hgh hw hlim hi) rfl hgh.2.1.1.1 rfl rfl ⟨(Nat.le_of_ble_eq_true rfl), (Nat.le_of_ble_eq_true rfl)⟩ (Nat.le_of_ble_eq_true rfl) (Nat.le_of_ble_eq_true rfl) (Nat.le_of_ble_eq_true rfl) (fun v σ2 nx2 hx2 hq2 => ?_)
  obtain ⟨rfl, ⟨fr2, g1, -, g2⟩, g3, rfl⟩ := hq2
  obtain ⟨t2, f2, has⟩ := h.fresh (nx := nx2) hw hi g1 g2 g3
  obtain ⟨tt, rf, p1, p2⟩ := t2.pl
  obtain ⟨u0, o0, w0, pc⟩ := p1.c
  refine z_pop dX11_outputOf_13 rfl ?_
  refine z_aload_n dX11_outputOf_14 rfl ?_
  refine z_getf dX11_outputOf_15 fl_X11_44 t2.1 rfl ?_
  refine z_iload_n dX11_outputOf_18 rfl ?_
  refine z_callV dX11_outputOf_19 cv_X11_268 (c_X8_draw hG (t2.en g1 hw hlim) p1 p2 (by omega) (by omega) hi g2) rfl pc rfl rfl ⟨(Nat.le_of_ble_eq_true rfl), (Nat.le_of_ble_eq_true rfl)⟩ (Nat.le_of_ble_eq_true rfl) (Nat.le_of_ble_eq_true rfl) (Nat.le_of_ble_eq_true rfl) (fun v σ3 nx3 hx3 hq3 => ?_)
  obtain ⟨rfl, q1, ⟨rf', q2, -⟩, q3, rfl⟩ := hq3
  have t3 := t2.onPlan (fun x hx => q3 x (by omega)) ⟨_, rf', q1, q2⟩
  have f3 := zFh.tr f2 (q3.h (by omega) (by omega))
  obtain ⟨u1, o1, w1, pc1⟩ := q1.c
  have hcn := zcn_le (zdraw lim nt (zcd L) i).2.1 14
  refine z_iload_n dX11_outputOf_22 rfl ?_
  have hn : n < 2 ^ 31 := by omega
  · refine z_if_lt (tgt := 37) dX11_outputOf_23 (by decide) (fun q => absurd q ((nI_pos hn))) (fun _ => ?_)
    refine z_iload_n dX11_outputOf_26 rfl ?_
    refine z_aload_n dX11_outputOf_27 rfl ?_
    refine z_getf dX11_outputOf_28 fl_X11_44 t3.1 rfl ?_
    refine z_callV dX11_outputOf_31 cv_X11_271 (c_X8_countOfStages q1) rfl pc1 rfl rfl ⟨(Nat.le_of_ble_eq_true rfl), (Nat.le_of_ble_eq_true rfl)⟩ (Nat.le_of_ble_eq_true rfl) (Nat.le_of_ble_eq_true rfl) (Nat.le_of_ble_eq_true rfl) (fun v σ4 nx4 hx4 hq4 => ?_)
    obtain ⟨rfl, rfl, rfl⟩ := hq4
    · obtain ⟨j, j1, j2, j3, j4⟩ := znth_ex c2 14 0 rfl (Nat.zero_le _)
      refine z_icmp_lt (tgt := 48) dX11_outputOf_34 (by decide) (fun _ => ?_) (fun q => absurd ((nI_lt c2 (by omega))) q)
      refine z_aload_n dX11_outputOf_48 rfl ?_
      refine z_getf dX11_outputOf_49 fl_X11_44 t3.1 rfl ?_
      refine z_iload_n dX11_outputOf_52 rfl ?_
      refine z_callV dX11_outputOf_53 cv_X11_276 (c_X8_outputOfStage q1 hn) rfl pc1 rfl rfl ⟨(Nat.le_of_ble_eq_true rfl), (Nat.le_of_ble_eq_true rfl)⟩ (Nat.le_of_ble_eq_true rfl) (Nat.le_of_ble_eq_true rfl) (Nat.le_of_ble_eq_true rfl) (fun v σ5 nx5 hx5 hq5 => ?_)
      rw [j1] at hq5
      obtain ⟨rfl, rfl, rfl⟩ := hq5
      exact z_iret dX11_outputOf_56 rfl (Nat.le_of_ble_eq_true rfl) (Nat.le_of_ble_eq_true rfl) ⟨by show some (Value.int (nI j)) = _; rw [znu_of j2 j3 j4], ⟨t3, ok, hr.fr f3⟩, rfl⟩

theorem q_nodes (S : zVs G σ b (nt, lim, mem, wk, slow, r, L, A, tk, sp, cs) R) : zM G yX11_nodes kX11_nodes [.ref b] σ nx (fun v σ' nx' => v = some (.int (nI nt.length)) ∧ zVs G σ' b (nt, lim, mem, wk, slow, r, L, A, tk, sp, cs) R ∧ nx' = nx) := zM.mono (c_nodes S.tg) fun v σ' nx' q => ⟨q.1, by rw [q.2.1]; exact S, q.2.2⟩
theorem q_ticks (S : zVs G σ b (nt, lim, mem, wk, slow, r, L, A, tk, sp, cs) R) : zM G yX11_ticks kX11_ticks [.ref b] σ nx (fun v σ' nx' => v = some (.int (nI tk)) ∧ zVs G σ' b (nt, lim, mem, wk, slow, r, L, A, tk, sp, cs) R ∧ nx' = nx) := zM.mono (c_ticks S.tg) fun v σ' nx' q => ⟨q.1, by rw [q.2.1]; exact S, q.2.2⟩
theorem q_spilled (S : zVs G σ b (nt, lim, mem, wk, slow, r, L, A, tk, sp, cs) R) : zM G yX11_spilled kX11_spilled [.ref b] σ nx (fun v σ' nx' => v = some (.int (nI sp)) ∧ zVs G σ' b (nt, lim, mem, wk, slow, r, L, A, tk, sp, cs) R ∧ nx' = nx) := zM.mono (c_spilled S.tg) fun v σ' nx' q => ⟨q.1, by rw [q.2.1]; exact S, q.2.2⟩
theorem q_attempts (S : zVs G σ b (nt, lim, mem, wk, slow, r, L, A, tk, sp, cs) R) : zM G yX11_attempts kX11_attempts [.ref b] σ nx (fun v σ' nx' => v = some (.int (nI A.length)) ∧ zVs G σ' b (nt, lim, mem, wk, slow, r, L, A, tk, sp, cs) R ∧ nx' = nx) := zM.mono (c_attempts S.tg) fun v σ' nx' q => ⟨q.1, by rw [q.2.1]; exact S, q.2.2⟩
end
