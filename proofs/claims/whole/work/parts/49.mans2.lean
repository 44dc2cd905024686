-- model
/-! the model: answers about what nodes hold -/
def zKnw (S : zMS) (lim : Nat) (nt : zNT) : Prop := ∀ i, i < nt.length → zmH S i (zct lim nt i)
noncomputable def zk_part (lim : Nat) (nt : zNT) (x y : Int32) : Nat := if znob nt.length x = true ∨ znob (zct lim nt x.toNatClampNeg).length y = true then 1 else 0
noncomputable def zk_place (lim : Nat) (nt : zNT) (x y z : Int32) : Nat := if (znob nt.length x = true ∨ znob (zct lim nt x.toNatClampNeg).length y = true) ∨ znob (zsz (zct lim nt x.toNatClampNeg) y.toNatClampNeg) z = true then 1 else 0
def zk_join5 (nt : zNT) (x : Int32) : Nat := if znob nt.length x = true then 1 else if zkd nt x.toNatClampNeg ≠ 5 then 2 else 0
section
variable {G : zG} {m : Nat} {nt : zNT} {lim mem wk r tk sp cs un : Nat} {slow : Nat → Nat} {L : zNS} {A : List zAE} {S S' : zMS}
theorem zKnw.thr {x : Int32} (h : zKnw S lim nt) : zKnw (zSF S 11 x) lim nt := fun i hi => (h i hi).cg fun _ _ _ => rfl
set_option maxRecDepth 100000 in
theorem c_isNoNode {x : Int32} (hw : zWf nt) (hh : zHow nt) (hlim : lim ≤ 1000) (h : zrM S nt lim mem wk slow r L A tk sp cs un) : zMN G yX12_isNoNode kX12_isNoNode m [.int x] S (fun v S' => v = some (.int (nI (zk_node nt.length x))) ∧ S'.1 11 = nI (zk_node nt.length x) ∧ zrM S' nt lim mem wk slow r L A tk sp cs un ∧ zKnw S' lim nt) := by
  refine zMN.of (ls := [some (.ref m), some (.int x)]) (by decide +kernel) ⟨rfl, rfl, rfl⟩ (Nat.le_of_ble_eq_true rfl) (fun _ h => h) fun Q hQ => ?_
  refine n_aload_n dX12_isNoNode_0 rfl ?_
  refine n_call dX12_isNoNode_1 cv_X12_196 (c_knows hw hh hlim h) rfl rfl rfl ⟨(Nat.le_of_ble_eq_true rfl), (Nat.le_of_ble_eq_true rfl)⟩ rfl rfl (Nat.le_of_ble_eq_true rfl) (fun v S1 hq1 => ?_)
  obtain ⟨rfl, a1, a2, a3⟩ := hq1
  have h1 := h.kn a1 a2 a3
  have hn := h1.1.1
  have h14 := h1.1.2.1
  refine n_aload_n dX12_isNoNode_4 rfl ?_
  refine n_aload_n dX12_isNoNode_5 rfl ?_
  refine n_iload_n dX12_isNoNode_6 rfl ?_
  refine n_call dX12_isNoNode_7 cv_X12_138 (c_is hn) rfl rfl rfl ⟨(Nat.le_of_ble_eq_true rfl), (Nat.le_of_ble_eq_true rfl)⟩ rfl rfl (Nat.le_of_ble_eq_true rfl) (fun v S2 hq2 => ?_)
  obtain ⟨rfl, hS⟩ := hq2
  subst hS
  by_cases c1 : zis nt.length x
  · have hk : zk_node nt.length x = 0 := by rw [zk_node, if_neg (by rw [znob_f.mpr c1]; decide)]
    rw [hk] at hQ
    rw [zif_t c1]
    refine n_if_eq (tgt := 17) dX12_isNoNode_10 (by decide) (fun q => absurd q ((by decide))) (fun _ => ?_)
    refine n_iconst (v := (nI 0)) dX12_isNoNode_13 (by decide) ?_
    refine n_goto (tgt := 18) dX12_isNoNode_14 (by decide) ?_
    refine n_call dX12_isNoNode_18 cv_X12_130 c_fails rfl rfl rfl ⟨(Nat.le_of_ble_eq_true rfl), (Nat.le_of_ble_eq_true rfl)⟩ rfl rfl (Nat.le_of_ble_eq_true rfl) (fun v S3 hq3 => ?_)
    obtain ⟨rfl, rfl⟩ := hq3
    exact n_zret dX12_isNoNode_21 rfl rfl (hQ _ _ ⟨rfl, zSF_s, h1.thr, zKnw.thr a3⟩)
  · have hk : zk_node nt.length x = 1 := by rw [zk_node, if_pos (znob_t.mpr c1)]
    rw [hk] at hQ
    rw [zif_f c1]
    refine n_if_eq (tgt := 17) dX12_isNoNode_10 (by decide) (fun _ => ?_) (fun q => absurd (rfl) q)
    refine n_iconst (v := (nI 1)) dX12_isNoNode_17 (by decide) ?_
    refine n_call dX12_isNoNode_18 cv_X12_130 c_fails rfl rfl rfl ⟨(Nat.le_of_ble_eq_true rfl), (Nat.le_of_ble_eq_true rfl)⟩ rfl rfl (Nat.le_of_ble_eq_true rfl) (fun v S3 hq3 => ?_)
    obtain ⟨rfl, rfl⟩ := hq3
    exact n_zret dX12_isNoNode_21 rfl rfl (hQ _ _ ⟨rfl, zSF_s, h1.thr, zKnw.thr a3⟩)
theorem zk_node_01 (n : Nat) (x : Int32) : (zk_node n x = 0 ∧ zis n x) ∨ (zk_node n x = 1 ∧ ¬ zis n x) := by
  by_cases c : zis n x
  · exact Or.inl ⟨by rw [zk_node, if_neg (by rw [znob_f.mpr c]; decide)], c⟩
  · exact Or.inr ⟨by rw [zk_node, if_pos (znob_t.mpr c)], c⟩
set_option maxRecDepth 100000 in
theorem c_m_partitions {x : Int32} (hw : zWf nt) (hh : zHow nt) (hlim : lim ≤ 1000) (h : zrM S nt lim mem wk slow r L A tk sp cs un) : zMN G yX12_partitions kX12_partitions m [.int x] S (fun v S' => zQm v S' (zk_node nt.length x) (v = some (.int (nI (zct lim nt x.toNatClampNeg).length)) ∧ zrM S' nt lim mem wk slow r L A tk sp cs un) (zrM S' nt lim mem wk slow r L A tk sp cs un)) := by
  refine zMN.of (ls := [some (.ref m), some (.int x)]) (by decide +kernel) ⟨rfl, rfl, rfl⟩ (Nat.le_of_ble_eq_true rfl) (fun _ h => h) fun Q hQ => ?_
  have h14 := h.1.2.1
  refine n_aload_n dX12_partitions_0 rfl ?_
  refine n_iload_n dX12_partitions_1 rfl ?_
  refine n_call dX12_partitions_2 cv_X12_199 (c_isNoNode hw hh hlim h) rfl rfl rfl ⟨(Nat.le_of_ble_eq_true rfl), (Nat.le_of_ble_eq_true rfl)⟩ rfl rfl (Nat.le_of_ble_eq_true rfl) (fun v S1 hq1 => ?_)
  obtain ⟨rfl, a1, a2, a3⟩ := hq1
  rcases zk_node_01 nt.length x with ⟨k0, c⟩ | ⟨k1, c⟩
  · obtain ⟨i, hi, rfl⟩ := zis_of (by omega) c
    rw [k0] at a1 hQ ⊢
    rw [nI_clamp (by omega)] at hQ
    refine n_if_eq (tgt := 12) dX12_partitions_5 (by decide) (fun _ => ?_) (fun q => absurd (rfl) q)
    refine n_aload_n dX12_partitions_12 rfl ?_
    refine n_get dX12_partitions_13 fl_X12_46 rfl ?_
    refine n_iload_n dX12_partitions_16 rfl ?_
    refine n_iald (j := 12) dX12_partitions_17 (by decide) rfl rfl (show _ < 14 by omega) (a3 i hi).1 ?_
    exact n_iret dX12_partitions_18 rfl (hQ _ _ (zQm.ok a1 rfl ⟨rfl, a2⟩))
  · rw [k1] at a1 hQ ⊢
    refine n_if_eq (tgt := 12) dX12_partitions_5 (by decide) (fun q => absurd q ((by decide))) (fun _ => ?_)
    refine n_iconst (v := (nI 0)) dX12_partitions_8 (by decide) ?_
    refine n_goto (tgt := 18) dX12_partitions_9 (by decide) ?_
    exact n_iret dX12_partitions_18 rfl (hQ _ _ (zQm.bad a1 rfl (by decide) a2))
set_option maxRecDepth 100000 in
theorem c_m_rows {x : Int32} (hw : zWf nt) (hh : zHow nt) (hlim : lim ≤ 1000) (h : zrM S nt lim mem wk slow r L A tk sp cs un) : zMN G yX12_rows kX12_rows m [.int x] S (fun v S' => zQm v S' (zk_node nt.length x) (v = some (.int (nI (zct lim nt x.toNatClampNeg).flatten.length)) ∧ zrM S' nt lim mem wk slow r L A tk sp cs un) (zrM S' nt lim mem wk slow r L A tk sp cs un)) := by
  refine zMN.of (ls := [some (.ref m), some (.int x)]) (by decide +kernel) ⟨rfl, rfl, rfl⟩ (Nat.le_of_ble_eq_true rfl) (fun _ h => h) fun Q hQ => ?_
  have h14 := h.1.2.1
  refine n_aload_n dX12_rows_0 rfl ?_
  refine n_iload_n dX12_rows_1 rfl ?_
  refine n_call dX12_rows_2 cv_X12_199 (c_isNoNode hw hh hlim h) rfl rfl rfl ⟨(Nat.le_of_ble_eq_true rfl), (Nat.le_of_ble_eq_true rfl)⟩ rfl rfl (Nat.le_of_ble_eq_true rfl) (fun v S1 hq1 => ?_)
  obtain ⟨rfl, a1, a2, a3⟩ := hq1
  rcases zk_node_01 nt.length x with ⟨k0, c⟩ | ⟨k1, c⟩
  · obtain ⟨i, hi, rfl⟩ := zis_of (by omega) c
    have hz := zct_le (lim := lim) hw h14 hi
    rw [k0] at a1 hQ ⊢
    rw [nI_clamp (by omega)] at hQ
    refine n_if_eq (tgt := 12) dX12_rows_5 (by decide) (fun _ => ?_) (fun q => absurd (rfl) q)
    refine n_aload_n dX12_rows_12 rfl ?_
    refine n_iload_n dX12_rows_13 rfl ?_
    refine n_call dX12_rows_14 cv_X12_152 (c_all (by omega) (a3 i hi) hz.2.2) rfl rfl rfl ⟨(Nat.le_of_ble_eq_true rfl), (Nat.le_of_ble_eq_true rfl)⟩ rfl rfl (Nat.le_of_ble_eq_true rfl) (fun v S2 hq2 => ?_)
    obtain ⟨rfl, rfl⟩ := hq2
    exact n_iret dX12_rows_17 rfl (hQ _ _ (zQm.ok a1 rfl ⟨rfl, a2⟩))
  · rw [k1] at a1 hQ ⊢
    refine n_if_eq (tgt := 12) dX12_rows_5 (by decide) (fun q => absurd q ((by decide))) (fun _ => ?_)
    refine n_iconst (v := (nI 0)) dX12_rows_8 (by decide) ?_
    refine n_goto (tgt := 17) dX12_rows_9 (by decide) ?_
    exact n_iret dX12_rows_17 rfl (hQ _ _ (zQm.bad a1 rfl (by decide) a2))
set_option maxRecDepth 100000 in
theorem c_digests {i : Nat} {P : List zP2} (hi : i < 14) (hP : zmH S i P) (p8 : P.length ≤ 8) (p3 : P.flatten.length ≤ 300) : zMN G yX12_digests kX12_digests m [.int (nI i)] S (fun v S' => v = some (.int (zsq P.flatten)) ∧ S' = S) := by
  refine zMN.of (ls := [some (.ref m), some (.int (nI i)), none, none, none]) (by decide +kernel) ⟨rfl, rfl, rfl⟩ (Nat.le_of_ble_eq_true rfl) (fun _ h => h) fun Q hQ => ?_
  have loop : ∀ (e j : Nat) (x4 : Option Value), j + e = P.flatten.length → zNW G kX12_digests m Q 8 [some (.ref m), some (.int (nI i)), some (.int (zsq (P.flatten.take j))), some (.int (nI (300 * i + j))), x4] [] S := by
    intro e
    induction e with
    | zero =>
      intro j x4 he
      have ej : j = P.flatten.length := by omega
      subst ej
      refine n_iload_n dX12_digests_8 rfl ?_
      refine n_sipush (v := (nI 300)) dX12_digests_9 (by decide) ?_
      refine n_iload_n dX12_digests_12 rfl ?_
      refine n_imul dX12_digests_13 ?_
      rw [pk_mul]
      refine n_aload_n dX12_digests_14 rfl ?_
      refine n_iload_n dX12_digests_15 rfl ?_
      refine n_call dX12_digests_16 cv_X12_152 (c_all hi hP p8) rfl rfl rfl ⟨(Nat.le_of_ble_eq_true rfl), (Nat.le_of_ble_eq_true rfl)⟩ rfl rfl (Nat.le_of_ble_eq_true rfl) (fun v S2 hq2 => ?_)
      obtain ⟨rfl, rfl⟩ := hq2
      refine n_iadd dX12_digests_19 ?_
      rw [nI_add]
      refine n_icmp_ge (tgt := 55) dX12_digests_20 (by decide) (fun _ => ?_) (fun q => absurd ((nI_le (Nat.le_refl _) (by omega))) q)
      rw [List.take_length]
      refine n_iload_n dX12_digests_55 rfl ?_
      exact n_iret dX12_digests_56 rfl (hQ _ _ ⟨rfl, rfl⟩)
    | succ e ih =>
      intro j x4 he
      have hg : P.flatten[j]? = some (P.flatten[j]'(by omega)) := List.getElem?_eq_getElem _
      generalize P.flatten[j]'(by omega) = q at hg
      obtain ⟨r1, r2⟩ := hP.2.2 j q hg
      refine n_iload_n dX12_digests_8 rfl ?_
      refine n_sipush (v := (nI 300)) dX12_digests_9 (by decide) ?_
      refine n_iload_n dX12_digests_12 rfl ?_
      refine n_imul dX12_digests_13 ?_
      rw [pk_mul]
      refine n_aload_n dX12_digests_14 rfl ?_
      refine n_iload_n dX12_digests_15 rfl ?_
      refine n_call dX12_digests_16 cv_X12_152 (c_all hi hP p8) rfl rfl rfl ⟨(Nat.le_of_ble_eq_true rfl), (Nat.le_of_ble_eq_true rfl)⟩ rfl rfl (Nat.le_of_ble_eq_true rfl) (fun v S2 hq2 => ?_)
      obtain ⟨rfl, hS⟩ := hq2
      subst hS
      refine n_iadd dX12_digests_19 ?_
      rw [nI_add]
      refine n_icmp_ge (tgt := 55) dX12_digests_20 (by decide) (fun q => absurd q ((nI_ge (show 300 * i + j < 300 * i + P.flatten.length by omega) (by omega)))) (fun _ => ?_)
      refine n_bipush (v := (nI 31)) dX12_digests_23 (by decide) ?_
      refine n_aload_n dX12_digests_25 rfl ?_
      refine n_get dX12_digests_26 fl_X12_52 rfl ?_
      refine n_iload_n dX12_digests_29 rfl ?_
      refine n_iald (j := 14) dX12_digests_30 (by decide) rfl rfl (show _ < 4200 by omega) r1 ?_
      refine n_imul dX12_digests_31 ?_
      refine n_aload_n dX12_digests_32 rfl ?_
      refine n_get dX12_digests_33 fl_X12_55 rfl ?_
      refine n_iload_n dX12_digests_36 rfl ?_
      refine n_iald (j := 15) dX12_digests_37 (by decide) rfl rfl (show _ < 4200 by omega) r2 ?_
      refine n_iadd dX12_digests_38 ?_
      refine n_istore dX12_digests_39 (by decide) ?_
      refine n_iload_n dX12_digests_41 rfl ?_
      refine n_iload dX12_digests_42 rfl ?_
      refine n_iload dX12_digests_44 rfl ?_
      refine n_imul dX12_digests_46 ?_
      refine n_iadd dX12_digests_47 ?_
      refine n_istore_n dX12_digests_48 (by decide) ?_
      refine n_inc1 dX12_digests_49 rfl (by decide) ?_
      refine n_goto (tgt := 8) dX12_digests_52 (by decide) ?_
      rw [nI_1]
      have := ih (j + 1) (some (.int (nI 31 * q.1 + q.2))) (by omega)
      rw [ztake hg, zsq_snoc] at this
      exact this
  refine n_iconst (v := (nI 0)) dX12_digests_0 (by decide) ?_
  refine n_istore_n dX12_digests_1 (by decide) ?_
  refine n_sipush (v := (nI 300)) dX12_digests_2 (by decide) ?_
  refine n_iload_n dX12_digests_5 rfl ?_
  refine n_imul dX12_digests_6 ?_
  rw [pk_mul]
  refine n_istore_n dX12_digests_7 (by decide) ?_
  exact loop P.flatten.length 0 none (by omega)
set_option maxRecDepth 100000 in
theorem c_m_digest {x : Int32} (hw : zWf nt) (hh : zHow nt) (hlim : lim ≤ 1000) (h : zrM S nt lim mem wk slow r L A tk sp cs un) : zMN G yX12_digest kX12_digest m [.int x] S (fun v S' => zQm v S' (zk_node nt.length x) (v = some (.int (zsq (zct lim nt x.toNatClampNeg).flatten)) ∧ zrM S' nt lim mem wk slow r L A tk sp cs un) (zrM S' nt lim mem wk slow r L A tk sp cs un)) := by
  refine zMN.of (ls := [some (.ref m), some (.int x)]) (by decide +kernel) ⟨rfl, rfl, rfl⟩ (Nat.le_of_ble_eq_true rfl) (fun _ h => h) fun Q hQ => ?_
  have h14 := h.1.2.1
  refine n_aload_n dX12_digest_0 rfl ?_
  refine n_iload_n dX12_digest_1 rfl ?_
  refine n_call dX12_digest_2 cv_X12_199 (c_isNoNode hw hh hlim h) rfl rfl rfl ⟨(Nat.le_of_ble_eq_true rfl), (Nat.le_of_ble_eq_true rfl)⟩ rfl rfl (Nat.le_of_ble_eq_true rfl) (fun v S1 hq1 => ?_)
  obtain ⟨rfl, a1, a2, a3⟩ := hq1
  rcases zk_node_01 nt.length x with ⟨k0, c⟩ | ⟨k1, c⟩
  · obtain ⟨i, hi, rfl⟩ := zis_of (by omega) c
    have hz := zct_le (lim := lim) hw h14 hi
    rw [k0] at a1 hQ ⊢
    rw [nI_clamp (by omega)] at hQ
    refine n_if_eq (tgt := 12) dX12_digest_5 (by decide) (fun _ => ?_) (fun q => absurd (rfl) q)
    refine n_aload_n dX12_digest_12 rfl ?_
    refine n_iload_n dX12_digest_13 rfl ?_
    refine n_call dX12_digest_14 cv_X12_213 (c_digests (by omega) (a3 i hi) hz.2.2 hz.1) rfl rfl rfl ⟨(Nat.le_of_ble_eq_true rfl), (Nat.le_of_ble_eq_true rfl)⟩ rfl rfl (Nat.le_of_ble_eq_true rfl) (fun v S2 hq2 => ?_)
    obtain ⟨rfl, rfl⟩ := hq2
    exact n_iret dX12_digest_17 rfl (hQ _ _ (zQm.ok a1 rfl ⟨rfl, a2⟩))
  · rw [k1] at a1 hQ ⊢
    refine n_if_eq (tgt := 12) dX12_digest_5 (by decide) (fun q => absurd q ((by decide))) (fun _ => ?_)
    refine n_iconst (v := (nI 0)) dX12_digest_8 (by decide) ?_
    refine n_goto (tgt := 17) dX12_digest_9 (by decide) ?_
    exact n_iret dX12_digest_17 rfl (hQ _ _ (zQm.bad a1 rfl (by decide) a2))
set_option maxRecDepth 100000 in
theorem c_m_digestInPlace {x : Int32} (hw : zWf nt) (hh : zHow nt) (hlim : lim ≤ 1000) (h : zrM S nt lim mem wk slow r L A tk sp cs un) : zMN G yX12_digestInPlace kX12_digestInPlace m [.int x] S (fun v S' => zQm v S' (zk_node nt.length x) (v = some (.int (zsq (zct lim nt x.toNatClampNeg).flatten)) ∧ zrM S' nt lim mem wk slow r L A tk sp cs un) (zrM S' nt lim mem wk slow r L A tk sp cs un)) := by
  refine zMN.of (ls := [some (.ref m), some (.int x)]) (by decide +kernel) ⟨rfl, rfl, rfl⟩ (Nat.le_of_ble_eq_true rfl) (fun _ h => h) fun Q hQ => ?_
  have h14 := h.1.2.1
  refine n_aload_n dX12_digestInPlace_0 rfl ?_
  refine n_iload_n dX12_digestInPlace_1 rfl ?_
  refine n_call dX12_digestInPlace_2 cv_X12_199 (c_isNoNode hw hh hlim h) rfl rfl rfl ⟨(Nat.le_of_ble_eq_true rfl), (Nat.le_of_ble_eq_true rfl)⟩ rfl rfl (Nat.le_of_ble_eq_true rfl) (fun v S1 hq1 => ?_)
  obtain ⟨rfl, a1, a2, a3⟩ := hq1
  rcases zk_node_01 nt.length x with ⟨k0, c⟩ | ⟨k1, c⟩
  · obtain ⟨i, hi, rfl⟩ := zis_of (by omega) c
    have hz := zct_le (lim := lim) hw h14 hi
    rw [k0] at a1 hQ ⊢
    rw [nI_clamp (by omega)] at hQ
    refine n_if_eq (tgt := 12) dX12_digestInPlace_5 (by decide) (fun _ => ?_) (fun q => absurd (rfl) q)
    refine n_aload_n dX12_digestInPlace_12 rfl ?_
    refine n_iload_n dX12_digestInPlace_13 rfl ?_
    refine n_call dX12_digestInPlace_14 cv_X12_213 (c_digests (by omega) (a3 i hi) hz.2.2 hz.1) rfl rfl rfl ⟨(Nat.le_of_ble_eq_true rfl), (Nat.le_of_ble_eq_true rfl)⟩ rfl rfl (Nat.le_of_ble_eq_true rfl) (fun v S2 hq2 => ?_)
    obtain ⟨rfl, rfl⟩ := hq2
    exact n_iret dX12_digestInPlace_17 rfl (hQ _ _ (zQm.ok a1 rfl ⟨rfl, a2⟩))
  · rw [k1] at a1 hQ ⊢
    refine n_if_eq (tgt := 12) dX12_digestInPlace_5 (by decide) (fun q => absurd q ((by decide))) (fun _ => ?_)
    refine n_iconst (v := (nI 0)) dX12_digestInPlace_8 (by decide) ?_
    refine n_goto (tgt := 17) dX12_digestInPlace_9 (by decide) ?_
    exact n_iret dX12_digestInPlace_17 rfl (hQ _ _ (zQm.bad a1 rfl (by decide) a2))
set_option maxRecDepth 100000 in
theorem c_isPart {x y : Int32} (hw : zWf nt) (hh : zHow nt) (hlim : lim ≤ 1000) (h : zrM S nt lim mem wk slow r L A tk sp cs un) : zMN G yX12_isPart kX12_isPart m [.int x, .int y] S (fun v S' => v = some (.int (zif (zis nt.length x ∧ zis (zct lim nt x.toNatClampNeg).length y))) ∧ zrM S' nt lim mem wk slow r L A tk sp cs un ∧ zKnw S' lim nt) := by
  refine zMN.of (ls := [some (.ref m), some (.int x), some (.int y)]) (by decide +kernel) ⟨rfl, rfl, rfl⟩ (Nat.le_of_ble_eq_true rfl) (fun _ h => h) fun Q hQ => ?_
  refine n_aload_n dX12_isPart_0 rfl ?_
  refine n_call dX12_isPart_1 cv_X12_196 (c_knows hw hh hlim h) rfl rfl rfl ⟨(Nat.le_of_ble_eq_true rfl), (Nat.le_of_ble_eq_true rfl)⟩ rfl rfl (Nat.le_of_ble_eq_true rfl) (fun v S1 hq1 => ?_)
  obtain ⟨rfl, a1, a2, a3⟩ := hq1
  have h1 := h.kn a1 a2 a3
  have hn := h1.1.1
  have h14 := h1.1.2.1
  refine n_aload_n dX12_isPart_4 rfl ?_
  refine n_iload_n dX12_isPart_5 rfl ?_
  refine n_call dX12_isPart_6 cv_X12_138 (c_is hn) rfl rfl rfl ⟨(Nat.le_of_ble_eq_true rfl), (Nat.le_of_ble_eq_true rfl)⟩ rfl rfl (Nat.le_of_ble_eq_true rfl) (fun v S2 hq2 => ?_)
  obtain ⟨rfl, hS⟩ := hq2
  subst hS
  have no : ¬ (zis nt.length x ∧ zis (zct lim nt x.toNatClampNeg).length y) → zNW G kX12_isPart m Q 30 [some (.ref m), some (.int x), some (.int y)] [] S2 := by
    intro c
    refine n_iconst (v := (nI 0)) dX12_isPart_30 (by decide) ?_
    exact n_zret dX12_isPart_31 rfl rfl (hQ _ _ ⟨by rw [zif_f c]; rfl, h1, a3⟩)
  by_cases c1 : zis nt.length x
  · rw [zif_t c1]
    obtain ⟨i, hi, rfl⟩ := zis_of (by omega) c1
    rw [nI_clamp (by omega)] at hQ no
    refine n_if_eq (tgt := 30) dX12_isPart_9 (by decide) (fun q => absurd q ((by decide))) (fun _ => ?_)
    refine n_iload_n dX12_isPart_12 rfl ?_
    refine n_if_lt (tgt := 30) dX12_isPart_13 (by decide) (fun h13 => ?_) (fun h13 => ?_)
    · exact no fun w => w.2.1 h13
    · refine n_iload_n dX12_isPart_16 rfl ?_
      refine n_aload_n dX12_isPart_17 rfl ?_
      refine n_get dX12_isPart_18 fl_X12_46 rfl ?_
      refine n_iload_n dX12_isPart_21 rfl ?_
      refine n_iald (j := 12) dX12_isPart_22 (by decide) rfl rfl (show _ < 14 by omega) (a3 i hi).1 ?_
      refine n_icmp_ge (tgt := 30) dX12_isPart_23 (by decide) (fun h23 => ?_) (fun h23 => ?_)
      · exact no fun w => Int32.not_lt.mpr h23 w.2.2
      · refine n_iconst (v := (nI 1)) dX12_isPart_26 (by decide) ?_
        refine n_goto (tgt := 31) dX12_isPart_27 (by decide) ?_
        exact n_zret dX12_isPart_31 rfl rfl (hQ _ _ ⟨by rw [zif_t ⟨c1, h13, Int32.not_le.mp h23⟩]; rfl, h1, a3⟩)
  · rw [zif_f c1]
    refine n_if_eq (tgt := 30) dX12_isPart_9 (by decide) (fun _ => ?_) (fun q => absurd (rfl) q)
    exact no fun w => c1 w.1
theorem zk_part_01 (x y : Int32) : (zk_part lim nt x y = 0 ∧ zis nt.length x ∧ zis (zct lim nt x.toNatClampNeg).length y) ∨ (zk_part lim nt x y = 1 ∧ ¬ (zis nt.length x ∧ zis (zct lim nt x.toNatClampNeg).length y)) := by
  unfold zk_part
  by_cases c : zis nt.length x ∧ zis (zct lim nt x.toNatClampNeg).length y
  · exact Or.inl ⟨by rw [if_neg]; rw [znob_f.mpr c.1, znob_f.mpr c.2]; decide, c⟩
  · refine Or.inr ⟨?_, c⟩
    rw [if_pos]
    by_cases c1 : zis nt.length x
    · exact Or.inr (znob_t.mpr fun w => c ⟨c1, w⟩)
    · exact Or.inl (znob_t.mpr c1)
set_option maxRecDepth 100000 in
theorem c_m_rowsIn {x y : Int32} (hw : zWf nt) (hh : zHow nt) (hlim : lim ≤ 1000) (h : zrM S nt lim mem wk slow r L A tk sp cs un) : zMN G yX12_rowsIn kX12_rowsIn m [.int x, .int y] S (fun v S' => zQm v S' (zk_part lim nt x y) (v = some (.int (nI (zsz (zct lim nt x.toNatClampNeg) y.toNatClampNeg))) ∧ zrM S' nt lim mem wk slow r L A tk sp cs un) (zrM S' nt lim mem wk slow r L A tk sp cs un)) := by
  refine zMN.of (ls := [some (.ref m), some (.int x), some (.int y)]) (by decide +kernel) ⟨rfl, rfl, rfl⟩ (Nat.le_of_ble_eq_true rfl) (fun _ h => h) fun Q hQ => ?_
  have h14 := h.1.2.1
  refine n_aload_n dX12_rowsIn_0 rfl ?_
  refine n_aload_n dX12_rowsIn_1 rfl ?_
  refine n_iload_n dX12_rowsIn_2 rfl ?_
  refine n_iload_n dX12_rowsIn_3 rfl ?_
  refine n_call dX12_rowsIn_4 cv_X12_202 (c_isPart hw hh hlim h) rfl rfl rfl ⟨(Nat.le_of_ble_eq_true rfl), (Nat.le_of_ble_eq_true rfl)⟩ rfl rfl (Nat.le_of_ble_eq_true rfl) (fun v S1 hq1 => ?_)
  obtain ⟨rfl, a1, a3⟩ := hq1
  rcases zk_part_01 (lim := lim) (nt := nt) x y with ⟨k0, c1, c2⟩ | ⟨k1, c⟩
  · rw [zif_t ⟨c1, c2⟩]
    obtain ⟨i, hi, rfl⟩ := zis_of (by omega) c1
    have hz := zct_le (lim := lim) hw h14 hi
    rw [nI_clamp (by omega)] at hQ c2
    obtain ⟨j, hj, rfl⟩ := zis_of (by omega) c2
    rw [nI_clamp (by omega)] at hQ
    refine n_if_eq (tgt := 14) dX12_rowsIn_7 (by decide) (fun q => absurd q ((by decide))) (fun _ => ?_)
    refine n_iconst (v := (nI 0)) dX12_rowsIn_10 (by decide) ?_
    refine n_goto (tgt := 15) dX12_rowsIn_11 (by decide) ?_
    refine n_call dX12_rowsIn_15 cv_X12_130 c_fails rfl rfl rfl ⟨(Nat.le_of_ble_eq_true rfl), (Nat.le_of_ble_eq_true rfl)⟩ rfl rfl (Nat.le_of_ble_eq_true rfl) (fun v S2 hq2 => ?_)
    obtain ⟨rfl, rfl⟩ := hq2
    refine n_if_eq (tgt := 25) dX12_rowsIn_18 (by decide) (fun _ => ?_) (fun q => absurd (rfl) q)
    refine n_aload_n dX12_rowsIn_25 rfl ?_
    refine n_iload_n dX12_rowsIn_26 rfl ?_
    refine n_iload_n dX12_rowsIn_27 rfl ?_
    refine n_call dX12_rowsIn_28 cv_X12_206 (c_rowsOf (by omega) (zKnw.thr a3 i hi) hz.2.2 hj) rfl rfl rfl ⟨(Nat.le_of_ble_eq_true rfl), (Nat.le_of_ble_eq_true rfl)⟩ rfl rfl (Nat.le_of_ble_eq_true rfl) (fun v S3 hq3 => ?_)
    obtain ⟨rfl, rfl⟩ := hq3
    exact n_iret dX12_rowsIn_31 rfl (hQ _ _ (zQm.ok zSF_s k0 ⟨rfl, a1.thr⟩))
  · rw [zif_f c]
    refine n_if_eq (tgt := 14) dX12_rowsIn_7 (by decide) (fun _ => ?_) (fun q => absurd (rfl) q)
    refine n_iconst (v := (nI 1)) dX12_rowsIn_14 (by decide) ?_
    refine n_call dX12_rowsIn_15 cv_X12_130 c_fails rfl rfl rfl ⟨(Nat.le_of_ble_eq_true rfl), (Nat.le_of_ble_eq_true rfl)⟩ rfl rfl (Nat.le_of_ble_eq_true rfl) (fun v S2 hq2 => ?_)
    obtain ⟨rfl, rfl⟩ := hq2
    refine n_if_eq (tgt := 25) dX12_rowsIn_18 (by decide) (fun q => absurd q ((by decide))) (fun _ => ?_)
    refine n_iconst (v := (nI 0)) dX12_rowsIn_21 (by decide) ?_
    refine n_goto (tgt := 31) dX12_rowsIn_22 (by decide) ?_
    exact n_iret dX12_rowsIn_31 rfl (hQ _ _ (zQm.bad zSF_s k1 (by decide) a1.thr))
theorem zk_place_01 (x y z : Int32) : (zk_place lim nt x y z = 0 ∧ (zis nt.length x ∧ zis (zct lim nt x.toNatClampNeg).length y) ∧ zis (zsz (zct lim nt x.toNatClampNeg) y.toNatClampNeg) z) ∨ (zk_place lim nt x y z = 1 ∧ ¬ ((zis nt.length x ∧ zis (zct lim nt x.toNatClampNeg).length y) ∧ zis (zsz (zct lim nt x.toNatClampNeg) y.toNatClampNeg) z)) := by
  unfold zk_place
  by_cases c : (zis nt.length x ∧ zis (zct lim nt x.toNatClampNeg).length y) ∧ zis (zsz (zct lim nt x.toNatClampNeg) y.toNatClampNeg) z
  · exact Or.inl ⟨by rw [if_neg]; rw [znob_f.mpr c.1.1, znob_f.mpr c.1.2, znob_f.mpr c.2]; decide, c⟩
  · refine Or.inr ⟨?_, c⟩
    rw [if_pos]
    by_cases c1 : zis nt.length x
    · by_cases c2 : zis (zct lim nt x.toNatClampNeg).length y
      · exact Or.inr (znob_t.mpr fun w => c ⟨⟨c1, c2⟩, w⟩)
      · exact Or.inl (Or.inr (znob_t.mpr c2))
    · exact Or.inl (Or.inl (znob_t.mpr c1))
set_option maxRecDepth 100000 in
theorem c_ofRow {x y z : Int32} {a : Nat} (ha : a = 14 ∨ a = 15) (hw : zWf nt) (hh : zHow nt) (hlim : lim ≤ 1000) (h : zrM S nt lim mem wk slow r L A tk sp cs un) : zMN G yX12_ofRow kX12_ofRow m [.ref (m + 1 + a), .int x, .int y, .int z] S (fun v S' => zQm v S' (zk_place lim nt x y z) (v = some (.int (if a = 14 then (zrw (zct lim nt x.toNatClampNeg) y.toNatClampNeg z.toNatClampNeg).1 else (zrw (zct lim nt x.toNatClampNeg) y.toNatClampNeg z.toNatClampNeg).2)) ∧ zrM S' nt lim mem wk slow r L A tk sp cs un) (zrM S' nt lim mem wk slow r L A tk sp cs un)) := by
  refine zMN.of (ls := [some (.ref m), some (.ref (m + 1 + a)), some (.int x), some (.int y), some (.int z), none]) (by decide +kernel) ⟨rfl, rfl, rfl⟩ (Nat.le_of_ble_eq_true rfl) (fun _ h => h) fun Q hQ => ?_
  have h14 := h.1.2.1
  refine n_aload_n dX12_ofRow_0 rfl ?_
  refine n_iload_n dX12_ofRow_1 rfl ?_
  refine n_iload_n dX12_ofRow_2 rfl ?_
  refine n_call dX12_ofRow_3 cv_X12_202 (c_isPart hw hh hlim h) rfl rfl rfl ⟨(Nat.le_of_ble_eq_true rfl), (Nat.le_of_ble_eq_true rfl)⟩ rfl rfl (Nat.le_of_ble_eq_true rfl) (fun v S1 hq1 => ?_)
  obtain ⟨rfl, a1, a3⟩ := hq1
  have no : ¬ ((zis nt.length x ∧ zis (zct lim nt x.toNatClampNeg).length y) ∧ zis (zsz (zct lim nt x.toNatClampNeg) y.toNatClampNeg) z) → zNW G kX12_ofRow m Q 29 [some (.ref m), some (.ref (m + 1 + a)), some (.int x), some (.int y), some (.int z), none] [] S1 := by
    intro c
    rcases zk_place_01 (lim := lim) (nt := nt) x y z with ⟨-, w⟩ | ⟨k1, -⟩
    · exact absurd w c
    · refine n_iconst (v := (nI 0)) dX12_ofRow_29 (by decide) ?_
      refine n_istore dX12_ofRow_30 (by decide) ?_
      refine n_aload_n dX12_ofRow_32 rfl ?_
      refine n_iload dX12_ofRow_33 rfl ?_
      refine n_if_eq (tgt := 42) dX12_ofRow_35 (by decide) (fun _ => ?_) (fun q => absurd (rfl) q)
      refine n_iconst (v := (nI 1)) dX12_ofRow_42 (by decide) ?_
      refine n_call dX12_ofRow_43 cv_X12_130 c_fails rfl rfl rfl ⟨(Nat.le_of_ble_eq_true rfl), (Nat.le_of_ble_eq_true rfl)⟩ rfl rfl (Nat.le_of_ble_eq_true rfl) (fun v S2 hq2 => ?_)
      obtain ⟨rfl, rfl⟩ := hq2
      refine n_if_eq (tgt := 53) dX12_ofRow_46 (by decide) (fun q => absurd q ((by decide))) (fun _ => ?_)
      refine n_iconst (v := (nI 0)) dX12_ofRow_49 (by decide) ?_
      refine n_goto (tgt := 70) dX12_ofRow_50 (by decide) ?_
      exact n_iret dX12_ofRow_70 rfl (hQ _ _ (zQm.bad (c' := 1) zSF_s k1 (by decide) a1.thr))
  by_cases c1 : zis nt.length x ∧ zis (zct lim nt x.toNatClampNeg).length y
  · rw [zif_t c1]
    have c1' := c1
    obtain ⟨d1, d2⟩ := c1
    obtain ⟨i, hi, rfl⟩ := zis_of (by omega) d1
    have hz := zct_le (lim := lim) hw h14 hi
    rw [nI_clamp (by omega)] at hQ d2 no c1'
    obtain ⟨j, hj, rfl⟩ := zis_of (by omega) d2
    rw [nI_clamp (by omega)] at hQ no
    have hs := zsz_le (P := zct lim nt i) (j := j)
    have hcx : zk_place lim nt (nI i) (nI j) z = if znob (zsz (zct lim nt i) j) z = true then 1 else 0 := by
      unfold zk_place
      rw [nI_clamp (show i < 2 ^ 31 by omega), nI_clamp (show j < 2 ^ 31 by omega), znob_f.mpr d1, znob_f.mpr d2]
      simp
    rw [hcx] at hQ
    refine n_if_eq (tgt := 29) dX12_ofRow_6 (by decide) (fun q => absurd q ((by decide))) (fun _ => ?_)
    refine n_iload dX12_ofRow_9 rfl ?_
    refine n_if_lt (tgt := 29) dX12_ofRow_11 (by decide) (fun h11 => ?_) (fun h11 => ?_)
    · exact no fun w => w.2.1 h11
    · refine n_iload dX12_ofRow_14 rfl ?_
      refine n_aload_n dX12_ofRow_16 rfl ?_
      refine n_iload_n dX12_ofRow_17 rfl ?_
      refine n_iload_n dX12_ofRow_18 rfl ?_
      refine n_call dX12_ofRow_19 cv_X12_206 (c_rowsOf (by omega) (a3 i hi) hz.2.2 hj) rfl rfl rfl ⟨(Nat.le_of_ble_eq_true rfl), (Nat.le_of_ble_eq_true rfl)⟩ rfl rfl (Nat.le_of_ble_eq_true rfl) (fun v S2 hq2 => ?_)
      obtain ⟨rfl, hS⟩ := hq2
      subst hS
      refine n_icmp_ge (tgt := 29) dX12_ofRow_22 (by decide) (fun h22 => ?_) (fun h22 => ?_)
      · exact no fun w => Int32.not_lt.mpr h22 w.2.2
      · have c3 : zis (zsz (zct lim nt i) j) z := ⟨h11, Int32.not_le.mp h22⟩
        obtain ⟨q, hq, rfl⟩ := zis_of (by omega) c3
        rw [nI_clamp (show q < 2 ^ 31 by omega)] at hQ
        have hat := zrw_at hj hq
        obtain ⟨r1, r2⟩ := (a3 i hi).2.2 _ _ hat
        have hl := zR_lt hat
        refine n_iconst (v := (nI 1)) dX12_ofRow_25 (by decide) ?_
        refine n_goto (tgt := 30) dX12_ofRow_26 (by decide) ?_
        refine n_istore dX12_ofRow_30 (by decide) ?_
        refine n_aload_n dX12_ofRow_32 rfl ?_
        refine n_iload dX12_ofRow_33 rfl ?_
        refine n_if_eq (tgt := 42) dX12_ofRow_35 (by decide) (fun q => absurd q ((by decide))) (fun _ => ?_)
        refine n_iconst (v := (nI 0)) dX12_ofRow_38 (by decide) ?_
        refine n_goto (tgt := 43) dX12_ofRow_39 (by decide) ?_
        refine n_call dX12_ofRow_43 cv_X12_130 c_fails rfl rfl rfl ⟨(Nat.le_of_ble_eq_true rfl), (Nat.le_of_ble_eq_true rfl)⟩ rfl rfl (Nat.le_of_ble_eq_true rfl) (fun v S3 hq3 => ?_)
        obtain ⟨rfl, rfl⟩ := hq3
        refine n_if_eq (tgt := 53) dX12_ofRow_46 (by decide) (fun _ => ?_) (fun q => absurd (rfl) q)
        refine n_aload_n dX12_ofRow_53 rfl ?_
        refine n_sipush (v := (nI 300)) dX12_ofRow_54 (by decide) ?_
        refine n_iload_n dX12_ofRow_57 rfl ?_
        refine n_imul dX12_ofRow_58 ?_
        rw [pk_mul]
        refine n_aload_n dX12_ofRow_59 rfl ?_
        refine n_iload_n dX12_ofRow_60 rfl ?_
        refine n_iload_n dX12_ofRow_61 rfl ?_
        refine n_call dX12_ofRow_62 cv_X12_148 (c_at (by omega) (by omega) ((zKnw.thr a3 i hi).2.1 j (by omega))) rfl rfl rfl ⟨(Nat.le_of_ble_eq_true rfl), (Nat.le_of_ble_eq_true rfl)⟩ rfl rfl (Nat.le_of_ble_eq_true rfl) (fun v S4 hq4 => ?_)
        obtain ⟨rfl, rfl⟩ := hq4
        refine n_iadd dX12_ofRow_65 ?_
        rw [nI_add]
        refine n_iload dX12_ofRow_66 rfl ?_
        refine n_iadd dX12_ofRow_68 ?_
        rw [nI_add]
        have hc0 : (if znob (zsz (zct lim nt i) j) (nI q) = true then 1 else 0) = 0 := by rw [znob_f.mpr c3]; rfl
        rcases ha with rfl | rfl
        · refine n_iald (j := 14) dX12_ofRow_69 (by decide) rfl rfl (show _ < 4200 by omega) ((congrArg _ (Nat.add_assoc _ _ _)).trans r1) ?_
          exact n_iret dX12_ofRow_70 rfl (hQ _ _ (zQm.ok zSF_s hc0 ⟨by rw [if_pos rfl], a1.thr⟩))
        · refine n_iald (j := 15) dX12_ofRow_69 (by decide) rfl rfl (show _ < 4200 by omega) ((congrArg _ (Nat.add_assoc _ _ _)).trans r2) ?_
          exact n_iret dX12_ofRow_70 rfl (hQ _ _ (zQm.ok zSF_s hc0 ⟨by rw [if_neg (by decide)], a1.thr⟩))
  · rw [zif_f c1]
    refine n_if_eq (tgt := 29) dX12_ofRow_6 (by decide) (fun _ => ?_) (fun q => absurd (rfl) q)
    exact no fun w => c1 w.1
set_option maxRecDepth 100000 in
theorem c_m_keyAt {x y z : Int32} (hw : zWf nt) (hh : zHow nt) (hlim : lim ≤ 1000) (h : zrM S nt lim mem wk slow r L A tk sp cs un) : zMN G yX12_keyAt kX12_keyAt m [.int x, .int y, .int z] S (fun v S' => zQm v S' (zk_place lim nt x y z) (v = some (.int (zrw (zct lim nt x.toNatClampNeg) y.toNatClampNeg z.toNatClampNeg).1) ∧ zrM S' nt lim mem wk slow r L A tk sp cs un) (zrM S' nt lim mem wk slow r L A tk sp cs un)) := by
  refine zMN.of (ls := [some (.ref m), some (.int x), some (.int y), some (.int z)]) (by decide +kernel) ⟨rfl, rfl, rfl⟩ (Nat.le_of_ble_eq_true rfl) (fun _ h => h) fun Q hQ => ?_
  refine n_aload_n dX12_keyAt_0 rfl ?_
  refine n_aload_n dX12_keyAt_1 rfl ?_
  refine n_get dX12_keyAt_2 fl_X12_52 rfl ?_
  refine n_iload_n dX12_keyAt_5 rfl ?_
  refine n_iload_n dX12_keyAt_6 rfl ?_
  refine n_iload_n dX12_keyAt_7 rfl ?_
  refine n_call dX12_keyAt_8 cv_X12_209 (c_ofRow (a := 14) (Or.inl rfl) hw hh hlim h) rfl rfl rfl ⟨(Nat.le_of_ble_eq_true rfl), (Nat.le_of_ble_eq_true rfl)⟩ rfl rfl (Nat.le_of_ble_eq_true rfl) (fun v S1 hq1 => ?_)
  obtain ⟨⟨w, rfl⟩, q1, q2, q3⟩ := hq1
  exact n_iret dX12_keyAt_11 rfl (hQ _ _ ⟨⟨w, rfl⟩, q1, fun c => by have := q2 c; rw [if_pos rfl] at this; exact this, q3⟩)
set_option maxRecDepth 100000 in
theorem c_m_valueAt {x y z : Int32} (hw : zWf nt) (hh : zHow nt) (hlim : lim ≤ 1000) (h : zrM S nt lim mem wk slow r L A tk sp cs un) : zMN G yX12_valueAt kX12_valueAt m [.int x, .int y, .int z] S (fun v S' => zQm v S' (zk_place lim nt x y z) (v = some (.int (zrw (zct lim nt x.toNatClampNeg) y.toNatClampNeg z.toNatClampNeg).2) ∧ zrM S' nt lim mem wk slow r L A tk sp cs un) (zrM S' nt lim mem wk slow r L A tk sp cs un)) := by
  refine zMN.of (ls := [some (.ref m), some (.int x), some (.int y), some (.int z)]) (by decide +kernel) ⟨rfl, rfl, rfl⟩ (Nat.le_of_ble_eq_true rfl) (fun _ h => h) fun Q hQ => ?_
  refine n_aload_n dX12_valueAt_0 rfl ?_
  refine n_aload_n dX12_valueAt_1 rfl ?_
  refine n_get dX12_valueAt_2 fl_X12_55 rfl ?_
  refine n_iload_n dX12_valueAt_5 rfl ?_
  refine n_iload_n dX12_valueAt_6 rfl ?_
  refine n_iload_n dX12_valueAt_7 rfl ?_
  refine n_call dX12_valueAt_8 cv_X12_209 (c_ofRow (a := 15) (Or.inr rfl) hw hh hlim h) rfl rfl rfl ⟨(Nat.le_of_ble_eq_true rfl), (Nat.le_of_ble_eq_true rfl)⟩ rfl rfl (Nat.le_of_ble_eq_true rfl) (fun v S1 hq1 => ?_)
  obtain ⟨⟨w, rfl⟩, q1, q2, q3⟩ := hq1
  exact n_iret dX12_valueAt_11 rfl (hQ _ _ ⟨⟨w, rfl⟩, q1, fun c => by have := q2 c; rw [if_neg (by decide)] at this; exact this, q3⟩)
set_option maxRecDepth 100000 in
theorem c_m_isBroad {x : Int32} (hw : zWf nt) (hh : zHow nt) (hlim : lim ≤ 1000) (h : zrM S nt lim mem wk slow r L A tk sp cs un) : zMN G yX12_isBroad kX12_isBroad m [.int x] S (fun v S' => zQm v S' (zk_join5 nt x) (v = some (.int (if zbr lim nt x.toNatClampNeg = true then 1 else 0)) ∧ zrM S' nt lim mem wk slow r L A tk sp cs un) (zrM S' nt lim mem wk slow r L A tk sp cs un)) := by
  refine zMN.of (ls := [some (.ref m), some (.int x)]) (by decide +kernel) ⟨rfl, rfl, rfl⟩ (Nat.le_of_ble_eq_true rfl) (fun _ h => h) fun Q hQ => ?_
  refine n_aload_n dX12_isBroad_0 rfl ?_
  refine n_call dX12_isBroad_1 cv_X12_196 (c_knows hw hh hlim h) rfl rfl rfl ⟨(Nat.le_of_ble_eq_true rfl), (Nat.le_of_ble_eq_true rfl)⟩ rfl rfl (Nat.le_of_ble_eq_true rfl) (fun v S1 hq1 => ?_)
  obtain ⟨rfl, a1, a2, a3⟩ := hq1
  have h1 := h.kn a1 a2 a3
  have hn := h1.1.1
  have h14 := h1.1.2.1
  have bad : ∀ c, 0 < c → c < 9 → zk_join5 nt x = c → zNW G kX12_isBroad m Q 32 [some (.ref m), some (.int x)] [.int (nI c), .ref m] S1 := by
    intro c c0 c9 hc
    refine n_call dX12_isBroad_32 cv_X12_130 c_fails rfl rfl rfl ⟨(Nat.le_of_ble_eq_true rfl), (Nat.le_of_ble_eq_true rfl)⟩ rfl rfl (Nat.le_of_ble_eq_true rfl) (fun v S2 hq2 => ?_)
    obtain ⟨rfl, rfl⟩ := hq2
    rw [if_pos (show (0 : Int32) < nI c from nI_lt (a := 0) c0 (by omega))]
    refine n_if_ne (tgt := 50) dX12_isBroad_35 (by decide) (fun _ => ?_) (fun q => absurd q ((by decide)))
    refine n_iconst (v := (nI 0)) dX12_isBroad_50 (by decide) ?_
    exact n_zret dX12_isBroad_51 rfl rfl (hQ _ _ (zQm.bad zSF_s hc (by omega) h1.thr))
  refine n_aload_n dX12_isBroad_4 rfl ?_
  refine n_aload_n dX12_isBroad_5 rfl ?_
  refine n_iload_n dX12_isBroad_6 rfl ?_
  refine n_call dX12_isBroad_7 cv_X12_138 (c_is hn) rfl rfl rfl ⟨(Nat.le_of_ble_eq_true rfl), (Nat.le_of_ble_eq_true rfl)⟩ rfl rfl (Nat.le_of_ble_eq_true rfl) (fun v S2 hq2 => ?_)
  obtain ⟨rfl, hS⟩ := hq2
  subst hS
  by_cases c1 : zis nt.length x
  · rw [zif_t c1]
    obtain ⟨i, hi, rfl⟩ := zis_of (by omega) c1
    have he : nt[i]? = some (nt[i]'hi) := List.getElem?_eq_getElem _
    generalize nt[i]'hi = e at he
    obtain ⟨f, s, p, k6, -, hf, hf0, hs, -⟩ := hw i e he
    have hE := h1.1.2.2.1 i e he
    have ekd : zkd nt i = e.2.1 := by rw [zkd, zget_at he]
    have hk : zk_join5 nt (nI i) = if e.2.1 ≠ 5 then 2 else 0 := by rw [zk_join5, if_neg (by rw [znob_f.mpr c1]; decide), nI_clamp (by omega), ekd]
    rw [nI_clamp (by omega)] at hQ
    unfold zrE at hE
    refine n_if_ne (tgt := 17) dX12_isBroad_10 (by decide) (fun _ => ?_) (fun q => absurd q ((by decide)))
    refine n_aload_n dX12_isBroad_17 rfl ?_
    refine n_get dX12_isBroad_18 fl_X12_7 rfl ?_
    refine n_iload_n dX12_isBroad_21 rfl ?_
    refine n_iald (j := 0) dX12_isBroad_22 (by decide) rfl rfl (show _ < 14 by omega) hE.1 ?_
    refine n_iconst (v := (nI 5)) dX12_isBroad_23 (by decide) ?_
    refine n_icmp_ne (tgt := 31) dX12_isBroad_24 (by decide) (fun h24 => ?_) (fun h24 => ?_)
    · refine n_iconst (v := (nI 2)) dX12_isBroad_31 (by decide) ?_
      exact bad 2 (by decide) (by decide) (by rw [hk, if_pos (fun q => h24 (by rw [q]))])
    · have e5 : e.2.1 = 5 := (nI_eq (b := 5) (by omega) (by decide)).mp h24
      have hss := hs (Or.inr e5)
      have hz := zct_le (lim := lim) hw h14 (show s < nt.length by omega)
      have eb : zbr lim nt i = decide ((zct lim nt s).flatten.length ≤ lim) := by
        unfold zbr
        rw [ekd, e5, zf2, zget_at he, hss.2, nI_clamp (by omega)]
        simp
      refine n_iconst (v := (nI 0)) dX12_isBroad_27 (by decide) ?_
      refine n_goto (tgt := 32) dX12_isBroad_28 (by decide) ?_
      refine n_call dX12_isBroad_32 cv_X12_130 c_fails rfl rfl rfl ⟨(Nat.le_of_ble_eq_true rfl), (Nat.le_of_ble_eq_true rfl)⟩ rfl rfl (Nat.le_of_ble_eq_true rfl) (fun v S3 hq3 => ?_)
      obtain ⟨rfl, rfl⟩ := hq3
      refine n_if_ne (tgt := 50) dX12_isBroad_35 (by decide) (fun q => absurd (rfl) q) (fun _ => ?_)
      refine n_aload_n dX12_isBroad_38 rfl ?_
      refine n_iload_n dX12_isBroad_39 rfl ?_
      refine n_call dX12_isBroad_40 cv_X12_187 (c_isBroadly (lim := lim) (P := zct lim nt s) (by omega) (by omega) ((hE.2.2.1 (Or.inr e5)).trans hss.2) (zKnw.thr a3 s (by omega)) hz.2.2 hz.1 h1.2.2.1.1 hlim) rfl rfl rfl ⟨(Nat.le_of_ble_eq_true rfl), (Nat.le_of_ble_eq_true rfl)⟩ rfl rfl (Nat.le_of_ble_eq_true rfl) (fun v S4 hq4 => ?_)
      obtain ⟨rfl, hS4⟩ := hq4
      subst hS4
      have hc0 : zk_join5 nt (nI i) = 0 := by rw [hk, if_neg (fun w => w e5)]
      by_cases cb : (zct lim nt s).flatten.length ≤ lim
      · rw [zif_t cb]
        refine n_if_eq (tgt := 50) dX12_isBroad_43 (by decide) (fun q => absurd q ((by decide))) (fun _ => ?_)
        refine n_iconst (v := (nI 1)) dX12_isBroad_46 (by decide) ?_
        refine n_goto (tgt := 51) dX12_isBroad_47 (by decide) ?_
        exact n_zret dX12_isBroad_51 rfl rfl (hQ _ _ (zQm.ok zSF_s hc0 ⟨by rw [eb, decide_eq_true cb, if_pos rfl]; rfl, h1.thr⟩))
      · rw [zif_f cb]
        refine n_if_eq (tgt := 50) dX12_isBroad_43 (by decide) (fun _ => ?_) (fun q => absurd (rfl) q)
        refine n_iconst (v := (nI 0)) dX12_isBroad_50 (by decide) ?_
        exact n_zret dX12_isBroad_51 rfl rfl (hQ _ _ (zQm.ok zSF_s hc0 ⟨by rw [eb, decide_eq_false cb]; rfl, h1.thr⟩))
  · rw [zif_f c1]
    refine n_if_ne (tgt := 17) dX12_isBroad_10 (by decide) (fun q => absurd (rfl) q) (fun _ => ?_)
    refine n_iconst (v := (nI 1)) dX12_isBroad_13 (by decide) ?_
    refine n_goto (tgt := 32) dX12_isBroad_14 (by decide) ?_
    exact bad 1 (by decide) (by decide) (by rw [zk_join5, if_pos (znob_t.mpr c1)])
end
