/-! the law: a run -/
theorem zW1.good {G : zG} {σ σ' : zH} {b c : Nat} {P : zUv → Int32 → Prop} {u : zUv} {l : List (String × Nat)} {v : Option Value} (h : zW1 G σ σ' b (b + 82) P c u l v) (hl : l.all (fun q => decide (q.2 ≠ 0)) = true) (hc : c = 0) : ∃ u' w, v = some (.int w) ∧ P u' w ∧ zTu G σ' b (b + 82) u' ∧ zFh σ σ' b (b + 82) := by
  rcases h with ⟨-, h⟩ | ⟨E, ⟨-, -, h3⟩, -⟩
  · exact h
  · have := List.all_eq_true.mp hl _ h3
    rw [hc] at this
    exact absurd this (by simp)
theorem zot_ge {s : Nat → Bool} {mk : Nat → Nat} {i : Nat} (h : s i = true) : ∀ k, i < k → mk i ≤ zot s mk k
  | 0, hk => absurd hk (Nat.not_lt_zero _)
  | k + 1, hk => by
    rw [zot]
    by_cases e : i = k
    · subst e; rw [if_pos h]; omega
    · have := zot_ge (mk := mk) h k (by omega); omega
theorem zot_none (mk : Nat → Nat) : ∀ k, zot (fun _ => false) mk k = 0
  | 0 => rfl
  | k + 1 => by rw [zot, zot_none mk k]; rfl
section
variable {G : zG} {σ : zH} {b nx : Nat} {R : Nat → Nat → Int32} {nt : zNT} {lim mem wk r tk sp cs : Nat} {slow : Nat → Nat} {L : zNS} {A : List zAE}
set_option maxRecDepth 100000 in
set_option maxHeartbeats 8000000 in
theorem l_isRun {i : Nat} (hG : zKap G) (hnx : b + 82 ≤ nx) (S : zVs G σ b (nt, lim, mem, wk, slow, r, L, A, tk, sp, cs) R) (he : zRe (nt, lim, mem, wk, slow, r, L, A, tk, sp, cs) R) (hi : i < nt.length) : zM G yL_isRun kL_isRun [.ref b, .ref (b + 74 + 6), .ref (b + 81), .int (nI i)] σ nx (fun v σ' nx' => v = some (.int 1) ∧ ∃ u', zVs G σ' b u' R ∧ zRe u' R) := by
  refine zM.of (ls := [some (.ref b), some (.ref (b + 74 + 6)), some (.ref (b + 81)), some (.int (nI i)), none, none, none, none, none]) (by decide +kernel) ⟨rfl, rfl, rfl⟩ (Nat.le_of_ble_eq_true rfl) (fun _ h => h) ?_
  have h14 : nt.length ≤ 14 := S.2.1.2.2.1
  have hw : zWf nt := S.2.1.1
  have hwk : 1 ≤ wk ∧ wk ≤ 4 := S.2.1.2.2.2.2.2.1
  have hslow : ∀ k, k < 4 → 1 ≤ slow k ∧ slow k ≤ 9 := S.2.1.2.2.2.2.2.2.1
  have hr1000 : r ≤ 1000 := S.2.1.2.2.2.2.2.2.2.1
  obtain ⟨hr, hg0, hlim, hg2, hg3, hg4, hsm, hsp, hmz⟩ := id he
  have hgi := zget_of hi
  obtain ⟨t, ht⟩ : ∃ t, t = zdraw lim nt (zcd L) i := ⟨_, rfl⟩
  have hD := zDI_draw (lim := lim) (C := zcd L) hw h14 hi
  obtain ⟨RN, hRN⟩ : ∃ RN, RN = zrn lim nt (zcd L) mem slow wk t.2.1 14 := ⟨_, rfl⟩
  obtain ⟨L', hL'⟩ : ∃ L', L' = zren2 lim nt t.2.2 r (zren1 t.1 L 14) 14 := ⟨_, rfl⟩
  rw [← ht] at hD
  have hO : ∀ k, t.2.1 k = true → k < nt.length := fun k h => (hD.2.1 k h).2.2
  obtain ⟨at1, at2, at3, at4⟩ := zrn_at (lim := lim) (C := zcd L) (mem := mem) (slow := slow) (O := t.2.1) hw h14 (fun k h => (hslow k h).1) hwk.1 hwk.2 hO 14
  have hsp2 := zrn_sp (lim := lim) (C := zcd L) (mem := mem) (slow := slow) (wk := wk) (O := t.2.1) hw h14 hO 14
  rw [← hRN] at at1 at2 at3 at4 hsp2
  obtain ⟨-, m1, m8⟩ := zct_le (lim := lim) hw h14 hi
  have hsm' : zsm L' ≤ r := by rw [hL']; exact zren2_sm (by rw [(zren1_sm t.1 L 14).1]; exact hsm) 14
  have hN := zcn_le t.2.1 14
  have htsk := ztsk_eq t.2.1 (fun o => (zct lim nt o).length) 14 (Nat.le_refl _)
  have hzot : zot t.2.1 (fun o => (zct lim nt o).length) 14 ≤ 224 := by
    have := at3
    have : ∀ k, k ≤ 14 → zot t.2.1 (fun o => (zct lim nt o).length) k ≤ 8 * k := by
      intro k
      induction k with
      | zero => intro _; exact Nat.le_refl _
      | succ k ih =>
        intro hk
        have := ih (by omega)
        rw [zot]
        by_cases c : t.2.1 k = true
        · have := (zct_le (lim := lim) hw h14 (hO k c)).2.2
          rw [if_pos c]
          show zot t.2.1 (fun o => (zct lim nt o).length) k + (zct lim nt k).length ≤ _
          omega
        · rw [if_neg c]; omega
    have := this 14 (Nat.le_refl _)
    omega
  obtain ⟨tot, htot⟩ : ∃ tot, tot = zot t.2.1 (fun o => (zct lim nt o).length) 14 := ⟨_, rfl⟩
  rw [← htot] at at3 at4 hzot htsk
  -- what is so behind the run
  have hnew : ∀ {σ2 : zH}, zVs G σ2 b (nt, lim, mem, wk, slow, r, L', RN.2.1, RN.1, RN.2.2, wk) R → ∃ u', zVs G σ2 b u' R ∧ zRe u' R := fun S2 => ⟨_, S2, hr, hg0, hlim, hg2, hg3, hg4, hsm', by omega, hmz⟩
  have hend : (zcd L i = true → RN.1 = 0) ∧ (zcd L i = false → 0 < RN.1) ∧ ((zct lim nt i).flatten.length ≤ r → (nt.getD i zdf).2.2.1 11 ≠ 0 → zcd L' i = true) := by
    cases hC : zcd L i with
    | true =>
      have e := zdraw_c (lim := lim) (nt := nt) hC
      rw [← ht] at e
      refine ⟨fun _ => ?_, fun w => (nomatch w), fun _ _ => ?_⟩
      · rw [hRN, e]
        have := zrn_skip (lim := lim) (nt := nt) (C := zcd L) (mem := mem) (slow := slow) (wk := wk) (O := fun _ => false) (n := 0) (fun _ _ => rfl) 14
        rw [show (14 : Nat) = 0 + 14 by rfl, this]
        rfl
      · rw [hL', e, zren2_none, (zren1_sm _ L 14).2]
        exact hC
    | false =>
      obtain ⟨d1, d2⟩ := zdraw_n (lim := lim) (nt := nt) hC (by omega) m1
      rw [← ht] at d1 d2
      refine ⟨fun w => (nomatch w), fun _ => ?_, fun h1 h2 => ?_⟩
      · have g := zot_ge (mk := fun o => (zct lim nt o).length) d1 14 (by omega)
        have g : (zct lim nt i).length ≤ tot := by rw [htot]; exact g
        rcases at1.2.2.2.1 with ⟨-, w⟩ | ⟨w, -⟩
        · rw [w] at at3
          have : tot ≤ 0 := at3
          omega
        · exact w
      · rw [hL']
        refine zren2_has (by omega) d2 (fun m hm => ?_) (decide_eq_true h2) h1
        cases q : t.2.2 m with
        | false => rfl
        | true =>
          obtain ⟨q1, q2⟩ := hD.2.2 m q
          have := (zLin_lt hw h14 i hi).1 m (by omega) q1
          omega
  -- behind the run itself
  have tail : ∀ (σ2 : zH) (nx2 c s9 : Nat) (x4 x5 x8 : Option Value) (ww : Int32), b + 82 ≤ nx2 → c ≤ 2 → s9 ≤ 12 → (if RN.1 = 0 then 1 else 0) = ww → x5 = some (.int ww) → zVs G σ2 b (nt, lim, mem, wk, slow, r, L', RN.2.1, RN.1, RN.2.2, wk) R →
      zWP G kL_isRun (zFM G kL_isRun.2.2.2.1 (fun v σ' nx' => v = some (.int 1) ∧ ∃ u', zVs G σ' b u' R ∧ zRe u' R)) 58 [some (.ref b), some (.ref (b + 74 + 6)), some (.ref (b + 81)), some (.int (nI i)), x4, x5, some (.int (nI tot)), some (.int (nI RN.1)), x8] [] σ2 nx2 c s9 := by
    intro σ2 nx2 c s9 x4 x5 x8 ww hnx hc hs9 hww hx5 S
    subst hx5
    refine z_widen (ca' := 2) (sl' := 12) hc hs9 ?_
    have htk : RN.1 ≤ 28000000 := S.2.1.2.2.2.2.2.2.2.2.2.2.1
    have hA224 := S.tg.A224
    have two : (2 : Int32) * nI tot = nI (2 * tot) := pk_mul 2 tot
    have rest : ∀ (σ2 : zH) (nx2 : Nat), b + 82 ≤ nx2 → zVs G σ2 b (nt, lim, mem, wk, slow, r, L', RN.2.1, RN.1, RN.2.2, wk) R →
        zWP G kL_isRun (zFM G kL_isRun.2.2.2.1 (fun v σ' nx' => v = some (.int 1) ∧ ∃ u', zVs G σ' b u' R ∧ zRe u' R)) 78 [some (.ref b), some (.ref (b + 74 + 6)), some (.ref (b + 81)), some (.int (nI i)), x4, some (.int ww), some (.int (nI tot)), some (.int (nI RN.1)), x8] [] σ2 nx2 2 12 := by
      intro σ2 nx2 hnx S
      refine z_aload_n dL_isRun_78 rfl ?_
      refine z_aload_n dL_isRun_79 rfl ?_
      refine z_iload dL_isRun_80 rfl ?_
      refine z_callS dL_isRun_82 cv_L_177 (l_areAttempts hG hnx S hg2 (by omega) at1 (fun a ha => (at2 a ha).2)) rfl rfl ⟨(Nat.le_of_ble_eq_true rfl), (Nat.le_of_ble_eq_true rfl)⟩ (Nat.le_of_ble_eq_true rfl) (Nat.le_of_ble_eq_true rfl) (Nat.le_of_ble_eq_true rfl) (fun v σ1 nx1 hx1 hq1 => ?_)
      obtain ⟨rfl, S⟩ := hq1
      replace hnx := Nat.le_trans hnx hx1
      refine z_if_eq (tgt := 112) dL_isRun_85 (by decide) (fun q_9 => absurd q_9 (((by decide)))) (fun _ => ?_)
      refine z_aload_n dL_isRun_88 rfl ?_
      refine z_callV dL_isRun_89 cv_L_147 (p_attempts S) rfl S.c rfl rfl ⟨(Nat.le_of_ble_eq_true rfl), (Nat.le_of_ble_eq_true rfl)⟩ (Nat.le_of_ble_eq_true rfl) (Nat.le_of_ble_eq_true rfl) (Nat.le_of_ble_eq_true rfl) (fun v σ1 nx1 hx1 hq1 => ?_)
      obtain ⟨rfl, S, rfl⟩ := hq1
      refine z_iload dL_isRun_92 rfl ?_
      refine z_icmp_lt (tgt := 112) dL_isRun_94 (by decide) (fun q_9 => absurd q_9 (((nI_nlt at3 (by omega))))) (fun _ => ?_)
      refine z_aload_n dL_isRun_97 rfl ?_
      refine z_callV dL_isRun_98 cv_L_147 (p_attempts S) rfl S.c rfl rfl ⟨(Nat.le_of_ble_eq_true rfl), (Nat.le_of_ble_eq_true rfl)⟩ (Nat.le_of_ble_eq_true rfl) (Nat.le_of_ble_eq_true rfl) (Nat.le_of_ble_eq_true rfl) (fun v σ1 nx1 hx1 hq1 => ?_)
      obtain ⟨rfl, S, rfl⟩ := hq1
      refine z_iconst (v := 2) dL_isRun_101 (by decide) ?_
      refine z_iload dL_isRun_102 rfl ?_
      refine z_imul dL_isRun_104 ?_
      rw [two]
      refine z_icmp_gt (tgt := 112) dL_isRun_105 (by decide) (fun q_9 => absurd q_9 (((nI_nlt at4 (by omega))))) (fun _ => ?_)
      refine z_iconst (v := 1) dL_isRun_108 (by decide) ?_
      refine z_goto (tgt := 113) dL_isRun_109 (by decide) ?_
      refine z_istore dL_isRun_113 (by decide) ?_
      refine z_iload dL_isRun_115 rfl ?_
      refine z_if_eq (tgt := 149) dL_isRun_117 (by decide) (fun q_9 => absurd q_9 (((by decide)))) (fun _ => ?_)
      refine z_aload_n dL_isRun_120 rfl ?_
      refine z_iload_n dL_isRun_121 rfl ?_
      refine z_ar dL_isRun_122 S (by decide) (by omega) (hr i _ hgi).2.2.2.1 ?_
      by_cases c0 : (nt.getD i zdf).2.2.1 11 = 0
      · refine z_if_eq (tgt := 145) dL_isRun_123 (by decide) (fun _ => ?_) (fun q_9 => absurd ((c0)) q_9)
        refine z_iconst (v := 1) dL_isRun_145 (by decide) ?_
        refine z_goto (tgt := 150) dL_isRun_146 (by decide) ?_
        exact z_zret dL_isRun_150 rfl rfl (Nat.le_of_ble_eq_true rfl) (Nat.le_of_ble_eq_true rfl) ⟨rfl, hnew S⟩
      · by_cases c1 : (zct lim nt i).flatten.length ≤ r
        · refine z_if_eq (tgt := 145) dL_isRun_123 (by decide) (fun q_9 => absurd q_9 ((c0))) (fun _ => ?_)
          refine z_aload_n dL_isRun_126 rfl ?_
          refine z_iload_n dL_isRun_127 rfl ?_
          refine z_callV dL_isRun_128 cv0_L_64 (q_rows hG S hi) rfl S.c rfl rfl ⟨(Nat.le_of_ble_eq_true rfl), (Nat.le_of_ble_eq_true rfl)⟩ (Nat.le_of_ble_eq_true rfl) (Nat.le_of_ble_eq_true rfl) (Nat.le_of_ble_eq_true rfl) (fun v σ1 nx1 hx1 hq1 => ?_)
          obtain ⟨rfl, S, rfl⟩ := hq1
          refine z_aload_n dL_isRun_131 rfl ?_
          refine z_iconst (v := 4) dL_isRun_132 (by decide) ?_
          refine z_gr dL_isRun_133 S (i := 4) (by decide) hg4 ?_
          refine z_icmp_gt (tgt := 145) dL_isRun_134 (by decide) (fun q_9 => absurd q_9 (((nI_nlt c1 (by omega))))) (fun _ => ?_)
          refine z_aload_n dL_isRun_137 rfl ?_
          refine z_iload_n dL_isRun_138 rfl ?_
          refine z_callV dL_isRun_139 cv0_L_88 (q_isCached hG S hi) rfl S.c rfl rfl ⟨(Nat.le_of_ble_eq_true rfl), (Nat.le_of_ble_eq_true rfl)⟩ (Nat.le_of_ble_eq_true rfl) (Nat.le_of_ble_eq_true rfl) (Nat.le_of_ble_eq_true rfl) (fun v σ1 nx1 hx1 hq1 => ?_)
          obtain ⟨rfl, S, rfl⟩ := hq1
          rw [hend.2.2 c1 c0, if_pos rfl]
          refine z_if_eq (tgt := 149) dL_isRun_142 (by decide) (fun q_9 => absurd q_9 (((by decide)))) (fun _ => ?_)
          refine z_iconst (v := 1) dL_isRun_145 (by decide) ?_
          refine z_goto (tgt := 150) dL_isRun_146 (by decide) ?_
          exact z_zret dL_isRun_150 rfl rfl (Nat.le_of_ble_eq_true rfl) (Nat.le_of_ble_eq_true rfl) ⟨rfl, hnew S⟩
        · have r300 := (zct_le (lim := lim) hw h14 hi).1
          refine z_if_eq (tgt := 145) dL_isRun_123 (by decide) (fun q_9 => absurd q_9 ((c0))) (fun _ => ?_)
          refine z_aload_n dL_isRun_126 rfl ?_
          refine z_iload_n dL_isRun_127 rfl ?_
          refine z_callV dL_isRun_128 cv0_L_64 (q_rows hG S hi) rfl S.c rfl rfl ⟨(Nat.le_of_ble_eq_true rfl), (Nat.le_of_ble_eq_true rfl)⟩ (Nat.le_of_ble_eq_true rfl) (Nat.le_of_ble_eq_true rfl) (Nat.le_of_ble_eq_true rfl) (fun v σ1 nx1 hx1 hq1 => ?_)
          obtain ⟨rfl, S, rfl⟩ := hq1
          refine z_aload_n dL_isRun_131 rfl ?_
          refine z_iconst (v := 4) dL_isRun_132 (by decide) ?_
          refine z_gr dL_isRun_133 S (i := 4) (by decide) hg4 ?_
          refine z_icmp_gt (tgt := 145) dL_isRun_134 (by decide) (fun _ => ?_) (fun q_9 => absurd (((nI_lt (by omega) (by omega)))) q_9)
          refine z_iconst (v := 1) dL_isRun_145 (by decide) ?_
          refine z_goto (tgt := 150) dL_isRun_146 (by decide) ?_
          exact z_zret dL_isRun_150 rfl rfl (Nat.le_of_ble_eq_true rfl) (Nat.le_of_ble_eq_true rfl) ⟨rfl, hnew S⟩
    by_cases c0 : RN.1 = 0
    · rw [if_pos c0] at hww
      subst hww
      refine z_iload dL_isRun_58 rfl ?_
      refine z_if_lt (tgt := 112) dL_isRun_60 (by decide) (fun q_9 => absurd q_9 (((nI_pos (by omega))))) (fun _ => ?_)
      refine z_iload dL_isRun_63 rfl ?_
      refine z_if_ne (tgt := 72) dL_isRun_65 (by decide) (fun q_9 => absurd (((by rw [c0]; rfl))) q_9) (fun _ => ?_)
      refine z_iconst (v := 1) dL_isRun_68 (by decide) ?_
      refine z_goto (tgt := 73) dL_isRun_69 (by decide) ?_
      refine z_iload dL_isRun_73 rfl ?_
      refine z_icmp_ne (tgt := 112) dL_isRun_75 (by decide) (fun q_9 => absurd ((rfl)) q_9) (fun _ => ?_)
      exact rest _ _ hnx S
    · rw [if_neg c0] at hww
      subst hww
      refine z_iload dL_isRun_58 rfl ?_
      refine z_if_lt (tgt := 112) dL_isRun_60 (by decide) (fun q_9 => absurd q_9 (((nI_pos (by omega))))) (fun _ => ?_)
      refine z_iload dL_isRun_63 rfl ?_
      refine z_if_ne (tgt := 72) dL_isRun_65 (by decide) (fun _ => ?_) (fun q_9 => absurd q_9 (((fun w => c0 ((nI_eq (b := 0) (by omega) (by decide)).mp w)))))
      refine z_iconst (v := 0) dL_isRun_72 (by decide) ?_
      refine z_iload dL_isRun_73 rfl ?_
      refine z_icmp_ne (tgt := 112) dL_isRun_75 (by decide) (fun q_9 => absurd ((rfl)) q_9) (fun _ => ?_)
      exact rest _ _ hnx S
  have hwas : (if RN.1 = 0 then (1 : Int32) else 0) = if zcd L i = true then 1 else 0 := by
    cases hC : zcd L i with
    | true => rw [hend.1 hC, if_pos rfl, if_pos rfl]
    | false => have := hend.2.1 hC; rw [if_neg (by omega), if_neg (by decide)]
  have loop : ∀ (d n : Nat) (σ2 : zH) (nx2 : Nat) (x8 : Option Value), n + d = zcn t.2.1 14 → b + 82 ≤ nx2 → zVs G σ2 b (nt, lim, mem, wk, slow, r, L, A, tk, sp, cs) R →
      zWP G kL_isRun (zFM G kL_isRun.2.2.2.1 (fun v σ' nx' => v = some (.int 1) ∧ ∃ u', zVs G σ' b u' R ∧ zRe u' R)) 20 [some (.ref b), some (.ref (b + 74 + 6)), some (.ref (b + 81)), some (.int (nI i)), some (.int (nI (zcn t.2.1 14))), some (.int (if zcd L i = true then 1 else 0)), some (.int (nI (ztsk t.2.1 (fun o => (zct lim nt o).length) n))), some (.int (nI n)), x8] [] σ2 nx2 0 0 := by
    intro d
    induction d with
    | zero =>
      intro n σ2 nx2 x8 hn hnx S
      have en : n = zcn t.2.1 14 := by omega
      rw [en, htsk]
      have hzk : zk_node nt.length (nI i) = 0 := zk_node0 (by omega) hi
      refine z_iload dL_isRun_20 rfl ?_
      refine z_iload dL_isRun_22 rfl ?_
      refine z_icmp_ge (tgt := 49) dL_isRun_24 (by decide) (fun _ => ?_) (fun q_9 => absurd ((nI_le (Nat.le_refl _) (by omega))) q_9)
      refine z_aload_n dL_isRun_49 rfl ?_
      refine z_iconst (v := 5) dL_isRun_50 (by decide) ?_
      refine z_iload_n dL_isRun_51 rfl ?_
      refine z_iconst (v := 0) dL_isRun_52 (by decide) ?_
      refine z_callH dL_isRun_53 ch_L_174 (w_sets_run hG hnx S) rfl rfl ⟨(Nat.le_of_ble_eq_true rfl), (Nat.le_of_ble_eq_true rfl)⟩ (Nat.le_of_ble_eq_true rfl) (Nat.le_of_ble_eq_true rfl) (Nat.le_of_ble_eq_true rfl) (fun v σ1 nx1 hx1 hq1 => ?_)
      obtain ⟨u', w, rfl, hP, hT, hF⟩ := hq1.good rfl hzk
      replace hnx := Nat.le_trans hnx hx1
      have ok' := o_run S.2.1 hzk hP hT
      obtain ⟨rfl, rfl⟩ := hP
      rw [nI_clamp (by omega), ← ht, ← hRN, ← hL'] at hT ok'
      have S' : zVs G σ1 b (nt, lim, mem, wk, slow, r, L', RN.2.1, RN.1, RN.2.2, wk) R := ⟨hT, ok', S.2.2.fr hF⟩
      rw [nI_clamp (by omega), ← ht, ← hRN]
      refine z_istore dL_isRun_56 (by decide) ?_
      exact tail _ _ _ _ _ _ _ _ hnx (Nat.le_of_ble_eq_true rfl) (Nat.le_of_ble_eq_true rfl) hwas rfl S'
    | succ d ih =>
      intro n σ2 nx2 x8 hn hnx S
      have hnl : n < zcn t.2.1 14 := by omega
      have nxt := ih (n + 1)
      rw [ztsk, ← nI_add] at nxt
      have ho : znu t.2.1 n < nt.length := hO _ (znu_spec hnl).2.1
      refine z_iload dL_isRun_20 rfl ?_
      refine z_iload dL_isRun_22 rfl ?_
      refine z_icmp_ge (tgt := 49) dL_isRun_24 (by decide) (fun q_9 => absurd q_9 ((nI_ge hnl (by omega)))) (fun _ => ?_)
      refine z_iload dL_isRun_27 rfl ?_
      refine z_aload_n dL_isRun_29 rfl ?_
      refine z_aload_n dL_isRun_30 rfl ?_
      refine z_iload_n dL_isRun_31 rfl ?_
      refine z_iload dL_isRun_32 rfl ?_
      refine z_callV dL_isRun_34 cv0_L_79 (q_outputOf hG S hi (by rw [← ht]; exact hnl)) rfl S.c rfl rfl ⟨(Nat.le_of_ble_eq_true rfl), (Nat.le_of_ble_eq_true rfl)⟩ (Nat.le_of_ble_eq_true rfl) (Nat.le_of_ble_eq_true rfl) (Nat.le_of_ble_eq_true rfl) (fun v σ1 nx1 hx1 hq1 => ?_)
      obtain ⟨rfl, S, rfl⟩ := hq1
      rw [← ht]
      refine z_callV dL_isRun_37 cv0_L_58 (q_partitions hG S ho) rfl S.c rfl rfl ⟨(Nat.le_of_ble_eq_true rfl), (Nat.le_of_ble_eq_true rfl)⟩ (Nat.le_of_ble_eq_true rfl) (Nat.le_of_ble_eq_true rfl) (Nat.le_of_ble_eq_true rfl) (fun v σ1 nx1 hx1 hq1 => ?_)
      obtain ⟨rfl, S, rfl⟩ := hq1
      refine z_iadd dL_isRun_40 ?_
      refine z_istore dL_isRun_41 (by decide) ?_
      refine z_inc1 dL_isRun_43 rfl (by decide) ?_
      rw [nI_1]
      refine z_goto (tgt := 20) dL_isRun_46 (by decide) ?_
      exact nxt _ _ _ (by omega) hnx S
  refine z_aload_n dL_isRun_0 rfl ?_
  refine z_iload_n dL_isRun_1 rfl ?_
  refine z_callV dL_isRun_2 cv0_L_76 (q_stages hG S hi) rfl S.c rfl rfl ⟨(Nat.le_of_ble_eq_true rfl), (Nat.le_of_ble_eq_true rfl)⟩ (Nat.le_of_ble_eq_true rfl) (Nat.le_of_ble_eq_true rfl) (Nat.le_of_ble_eq_true rfl) (fun v σ1 nx1 hx1 hq1 => ?_)
  obtain ⟨rfl, S, rfl⟩ := hq1
  rw [← ht]
  refine z_istore dL_isRun_5 (by decide) ?_
  refine z_aload_n dL_isRun_7 rfl ?_
  refine z_iload_n dL_isRun_8 rfl ?_
  refine z_callV dL_isRun_9 cv0_L_88 (q_isCached hG S hi) rfl S.c rfl rfl ⟨(Nat.le_of_ble_eq_true rfl), (Nat.le_of_ble_eq_true rfl)⟩ (Nat.le_of_ble_eq_true rfl) (Nat.le_of_ble_eq_true rfl) (Nat.le_of_ble_eq_true rfl) (fun v σ1 nx1 hx1 hq1 => ?_)
  obtain ⟨rfl, S, rfl⟩ := hq1
  refine z_istore dL_isRun_12 (by decide) ?_
  refine z_iconst (v := 0) dL_isRun_14 (by decide) ?_
  refine z_istore dL_isRun_15 (by decide) ?_
  refine z_iconst (v := 0) dL_isRun_17 (by decide) ?_
  refine z_istore dL_isRun_18 (by decide) ?_
  exact loop _ 0 _ _ _ (Nat.zero_add _) hnx S
end
