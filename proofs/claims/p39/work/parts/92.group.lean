/-! the law: groups -/
theorem zsub1 {j : Nat} (h : j + 1 < 2 ^ 31) : nI (j + 1) - 1 = nI j := by
  have := pk_sub (a := j + 1) (b := 1) (by omega)
  rw [Nat.add_sub_cancel] at this
  exact this
section
variable {G : zG} {σ : zH} {b nx : Nat} {R : Nat → Nat → Int32} {nt : zNT} {lim mem wk r tk sp cs : Nat} {slow : Nat → Nat} {L : zNS} {A : List zAE}
set_option maxRecDepth 100000 in
set_option maxHeartbeats 4000000 in
theorem l_isGroup {i : Nat} (hG : zKap G) (S : zVs G σ b (nt, lim, mem, wk, slow, r, L, A, tk, sp, cs) R) (hr : zRl nt R) (hi : i < nt.length) (hk : zkd nt i = 4) : zM G yL_isGroup kL_isGroup [.ref b, .ref (b + 74 + 1), .ref (b + 74 + 2), .ref (b + 74 + 3), .int (nI i)] σ nx (fun v σ' nx' => v = some (.int 1) ∧ zVs G σ' b (nt, lim, mem, wk, slow, r, L, A, tk, sp, cs) R ∧ nx' = nx) := by
  refine zM.of (ls := [some (.ref b), some (.ref (b + 74 + 1)), some (.ref (b + 74 + 2)), some (.ref (b + 74 + 3)), some (.int (nI i)), none, none, none, none, none, none]) (by decide +kernel) ⟨rfl, rfl, rfl⟩ (Nat.le_of_ble_eq_true rfl) (fun _ h => h) ?_
  have h14 : nt.length ≤ 14 := S.2.1.2.2.1
  obtain ⟨e, f, s, p0, hg, k6, ke, r0, -, hf, -, hp, -, r3, -, -, -, r2, hcon, -⟩ := zNi (lim := lim) S.2.1.1 h14 hr hi
  have ek : e.2.1 = 4 := ke.symm.trans hk
  obtain ⟨fi, rf⟩ := hf (by omega)
  obtain ⟨p1, p4, ep⟩ := hp (Or.inr (Or.inl ek))
  have r3 := r3 (Or.inl ek)
  obtain ⟨h9, hh, hD⟩ := (S.2.1.2.1 i e hg).2 ek
  have r2 := (r2 ek).trans hD
  have hfl : f < nt.length := by omega
  obtain ⟨f300, f1, f8⟩ := zct_le (lim := lim) S.2.1.1 h14 hfl
  obtain ⟨i300, i1, i8⟩ := zct_le (lim := lim) S.2.1.1 h14 hi
  have hcon : zct lim nt i = zrng p0 (zpart p0 (zgrp e.2.2.1 (zct lim nt f).flatten)) := by
    rw [hcon, zcont, ek, if_neg (by decide), if_neg (by decide), if_neg (by decide), if_neg (by decide), if_pos rfl, ep]
  generalize e.2.2.1 = D at hD hcon
  obtain ⟨F, hF⟩ : ∃ F, F = (zct lim nt f).flatten := ⟨_, rfl⟩
  rw [← hF] at f300 hcon
  have hlen : (zct lim nt i).length = p0 := by rw [hcon, zrng_len]
  have hgd : ∀ q, q < p0 → (zct lim nt i).getD q [] = zpart p0 (zgrp D F) q := fun q h => by rw [hcon, zrng_at h]
  have hrow : ∀ q j, q < p0 → j < zsz (zct lim nt i) q → zrw (zct lim nt i) q j ∈ zgrp D F ∧ zmd (zrw (zct lim nt i) q j).1 (nI p0) = nI q := fun q j h h2 => by
    have := List.mem_of_getElem? (zrw_at2 h2)
    rw [hgd q h] at this
    obtain ⟨a, c⟩ := List.mem_filter.mp this
    exact ⟨a, by simpa using c⟩
  have hlt : ∀ q j, q < p0 → j + 1 < zsz (zct lim nt i) q → (zrw (zct lim nt i) q j).1 < (zrw (zct lim nt i) q (j + 1)).1 := fun q j h h2 => by
    have a := zrw_at2 (show j < zsz (zct lim nt i) q by omega)
    have c := zrw_at2 h2
    rw [hgd q h] at a c
    exact zpair_iff.mpr ((zgrp_lt D F).filter _) j (j + 1) _ _ (Nat.lt_succ_self j) a c
  have htot : zcm F (zct lim nt i).flatten = F.length := by
    rw [hcon, zcm_perm (zpart_all (by omega) (by omega) (zgrp D F)), zcm_grp hD hh]
  have outer : ∀ (d q : Nat) (σ2 : zH) (x8 x9 x10 : Option Value), q + d = p0 → zVs G σ2 b (nt, lim, mem, wk, slow, r, L, A, tk, sp, cs) R →
      zWP G kL_isGroup (zFM G kL_isGroup.2.2.2.1 (fun v σ' nx' => v = some (.int 1) ∧ zVs G σ' b (nt, lim, mem, wk, slow, r, L, A, tk, sp, cs) R ∧ nx' = nx)) 26 [some (.ref b), some (.ref (b + 74 + 1)), some (.ref (b + 74 + 2)), some (.ref (b + 74 + 3)), some (.int (nI i)), some (.int 1), some (.int (nI (zcm F (zpx (zct lim nt i) q 0)))), some (.int (nI q)), x8, x9, x10] [] σ2 nx 0 0 := by
    intro d
    induction d with
    | zero =>
      intro q σ2 x8 x9 x10 hq S
      have eq : q = (zct lim nt i).length := by omega
      rw [eq, zpx_e, htot]
      refine z_iload dL_isGroup_26 rfl ?_
      refine z_aload_n dL_isGroup_28 rfl ?_
      refine z_iload dL_isGroup_29 rfl ?_
      refine z_callV dL_isGroup_31 cv0_L_58 (q_partitions hG S hi) rfl S.c rfl rfl ⟨(Nat.le_of_ble_eq_true rfl), (Nat.le_of_ble_eq_true rfl)⟩ (Nat.le_of_ble_eq_true rfl) (Nat.le_of_ble_eq_true rfl) (Nat.le_of_ble_eq_true rfl) (fun v σ1 nx1 hx1 hq1 => ?_)
      obtain ⟨rfl, S, rfl⟩ := hq1
      refine z_icmp_ge (tgt := 182) dL_isGroup_34 (by decide) (fun _ => ?_) (fun q_9 => absurd ((nI_le (Nat.le_refl _) (by omega))) q_9)
      refine z_iload dL_isGroup_182 rfl ?_
      refine z_if_eq (tgt := 204) dL_isGroup_184 (by decide) (fun q_9 => absurd q_9 (((by decide)))) (fun _ => ?_)
      refine z_iload dL_isGroup_187 rfl ?_
      refine z_aload_n dL_isGroup_189 rfl ?_
      refine z_aload_n dL_isGroup_190 rfl ?_
      refine z_iload dL_isGroup_191 rfl ?_
      refine z_ar dL_isGroup_193 S (by decide) (by omega) rf ?_
      refine z_callV dL_isGroup_194 cv0_L_64 (q_rows hG S hfl) rfl S.c rfl rfl ⟨(Nat.le_of_ble_eq_true rfl), (Nat.le_of_ble_eq_true rfl)⟩ (Nat.le_of_ble_eq_true rfl) (Nat.le_of_ble_eq_true rfl) (Nat.le_of_ble_eq_true rfl) (fun v σ1 nx1 hx1 hq1 => ?_)
      obtain ⟨rfl, S, rfl⟩ := hq1
      refine z_icmp_ne (tgt := 204) dL_isGroup_197 (by decide) (fun q_9 => absurd (((by rw [hF]))) q_9) (fun _ => ?_)
      refine z_iconst (v := 1) dL_isGroup_200 (by decide) ?_
      refine z_goto (tgt := 205) dL_isGroup_201 (by decide) ?_
      exact z_zret dL_isGroup_205 rfl rfl (Nat.le_of_ble_eq_true rfl) (Nat.le_of_ble_eq_true rfl) ⟨rfl, S, rfl⟩
    | succ d ih =>
      intro q σ2 x8 x9 x10 hq S
      have hql : q < p0 := by omega
      have hqi : q < (zct lim nt i).length := by omega
      have hsi := zsz_le (P := zct lim nt i) (j := q)
      have inner : ∀ (e9 j : Nat) (σ2 : zH) (x9 x10 : Option Value), j + e9 = zsz (zct lim nt i) q → zVs G σ2 b (nt, lim, mem, wk, slow, r, L, A, tk, sp, cs) R →
          zWP G kL_isGroup (zFM G kL_isGroup.2.2.2.1 (fun v σ' nx' => v = some (.int 1) ∧ zVs G σ' b (nt, lim, mem, wk, slow, r, L, A, tk, sp, cs) R ∧ nx' = nx)) 45 [some (.ref b), some (.ref (b + 74 + 1)), some (.ref (b + 74 + 2)), some (.ref (b + 74 + 3)), some (.int (nI i)), some (.int 1), some (.int (nI (zcm F (zpx (zct lim nt i) q j)))), some (.int (nI q)), some (.int (nI j)), x9, x10] [] σ2 nx 0 0 := by
        intro e9
        induction e9 with
        | zero =>
          intro j σ2 x9 x10 hj S
          have ej : j = zsz (zct lim nt i) q := by omega
          rw [ej, zpx_n hqi]
          refine z_iload dL_isGroup_45 rfl ?_
          refine z_aload_n dL_isGroup_47 rfl ?_
          refine z_iload dL_isGroup_48 rfl ?_
          refine z_iload dL_isGroup_50 rfl ?_
          refine z_callV dL_isGroup_52 cv0_L_61 (q_rowsIn hG S hi hqi) rfl S.c rfl rfl ⟨(Nat.le_of_ble_eq_true rfl), (Nat.le_of_ble_eq_true rfl)⟩ (Nat.le_of_ble_eq_true rfl) (Nat.le_of_ble_eq_true rfl) (Nat.le_of_ble_eq_true rfl) (fun v σ1 nx1 hx1 hq1 => ?_)
          obtain ⟨rfl, S, rfl⟩ := hq1
          refine z_icmp_ge (tgt := 176) dL_isGroup_55 (by decide) (fun _ => ?_) (fun q_9 => absurd ((nI_le (Nat.le_refl _) (by omega))) q_9)
          refine z_inc1 dL_isGroup_176 rfl (by decide) ?_
          rw [nI_1]
          refine z_goto (tgt := 26) dL_isGroup_179 (by decide) ?_
          exact ih (q + 1) _ _ _ _ (by omega) S
        | succ e9 ie =>
          intro j σ2 x9 x10 hj S
          have hjl : j < zsz (zct lim nt i) q := by omega
          have nxt := ie (j + 1)
          rw [zpx_s hjl, zcm_s] at nxt
          obtain ⟨hmem, hmd⟩ := hrow q j hql hjl
          obtain ⟨x, hx⟩ : ∃ x, x = zrw (zct lim nt i) q j := ⟨_, rfl⟩
          rw [← hx] at hmem hmd nxt
          obtain ⟨hpos, hval⟩ := zgrp_row hD hh hmem
          have hle := zkf_le x.1 F
          have rest : ∀ (σ3 : zH), zVs G σ3 b (nt, lim, mem, wk, slow, r, L, A, tk, sp, cs) R → zWP G kL_isGroup (zFM G kL_isGroup.2.2.2.1 (fun v σ' nx' => v = some (.int 1) ∧ zVs G σ' b (nt, lim, mem, wk, slow, r, L, A, tk, sp, cs) R ∧ nx' = nx)) 136 [some (.ref b), some (.ref (b + 74 + 1)), some (.ref (b + 74 + 2)), some (.ref (b + 74 + 3)), some (.int (nI i)), some (.int 1), some (.int (nI (zcm F (zpx (zct lim nt i) q j) + (zkf x.1 F).length))), some (.int (nI q)), some (.int (nI j)), some (.int x.1), some (.int (nI (zkf x.1 F).length))] [] σ3 nx 0 0 := by
            intro σ3 S
            refine z_aload_n dL_isGroup_136 rfl ?_
            refine z_iload dL_isGroup_137 rfl ?_
            refine z_iload dL_isGroup_139 rfl ?_
            refine z_iload dL_isGroup_141 rfl ?_
            refine z_callV dL_isGroup_143 cv0_L_70 (q_valueAt hG S hi hqi hjl) rfl S.c rfl rfl ⟨(Nat.le_of_ble_eq_true rfl), (Nat.le_of_ble_eq_true rfl)⟩ (Nat.le_of_ble_eq_true rfl) (Nat.le_of_ble_eq_true rfl) (Nat.le_of_ble_eq_true rfl) (fun v σ1 nx1 hx1 hq1 => ?_)
            obtain ⟨rfl, S, rfl⟩ := hq1
            rw [← hx]
            refine z_aload_n dL_isGroup_146 rfl ?_
            refine z_aload_n dL_isGroup_147 rfl ?_
            refine z_iload dL_isGroup_148 rfl ?_
            refine z_ar dL_isGroup_150 S (by decide) (by omega) rf ?_
            refine z_iload dL_isGroup_151 rfl ?_
            refine z_aload_n dL_isGroup_153 rfl ?_
            refine z_iload dL_isGroup_154 rfl ?_
            refine z_ar dL_isGroup_156 S (by decide) (by omega) r2 ?_
            refine z_callS dL_isGroup_157 cv_L_115 (l_grouped (h := h9) hG S hfl hh) rfl rfl ⟨(Nat.le_of_ble_eq_true rfl), (Nat.le_of_ble_eq_true rfl)⟩ (Nat.le_of_ble_eq_true rfl) (Nat.le_of_ble_eq_true rfl) (Nat.le_of_ble_eq_true rfl) (fun v σ1 nx1 hx1 hq1 => ?_)
            obtain ⟨rfl, S, rfl⟩ := hq1
            rw [← hF]
            refine z_icmp_ne (tgt := 167) dL_isGroup_160 (by decide) (fun q_9 => absurd ((hval)) q_9) (fun _ => ?_)
            refine z_iconst (v := 1) dL_isGroup_163 (by decide) ?_
            refine z_goto (tgt := 168) dL_isGroup_164 (by decide) ?_
            refine z_istore dL_isGroup_168 (by decide) ?_
            refine z_inc1 dL_isGroup_170 rfl (by decide) ?_
            rw [nI_1]
            refine z_goto (tgt := 45) dL_isGroup_173 (by decide) ?_
            exact nxt _ _ _ (by omega) S
          refine z_iload dL_isGroup_45 rfl ?_
          refine z_aload_n dL_isGroup_47 rfl ?_
          refine z_iload dL_isGroup_48 rfl ?_
          refine z_iload dL_isGroup_50 rfl ?_
          refine z_callV dL_isGroup_52 cv0_L_61 (q_rowsIn hG S hi hqi) rfl S.c rfl rfl ⟨(Nat.le_of_ble_eq_true rfl), (Nat.le_of_ble_eq_true rfl)⟩ (Nat.le_of_ble_eq_true rfl) (Nat.le_of_ble_eq_true rfl) (Nat.le_of_ble_eq_true rfl) (fun v σ1 nx1 hx1 hq1 => ?_)
          obtain ⟨rfl, S, rfl⟩ := hq1
          refine z_icmp_ge (tgt := 176) dL_isGroup_55 (by decide) (fun q_9 => absurd q_9 ((nI_ge hjl (by omega)))) (fun _ => ?_)
          refine z_iload dL_isGroup_58 rfl ?_
          refine z_if_eq (tgt := 176) dL_isGroup_60 (by decide) (fun q_9 => absurd q_9 (((by decide)))) (fun _ => ?_)
          refine z_aload_n dL_isGroup_63 rfl ?_
          refine z_iload dL_isGroup_64 rfl ?_
          refine z_iload dL_isGroup_66 rfl ?_
          refine z_iload dL_isGroup_68 rfl ?_
          refine z_callV dL_isGroup_70 cv0_L_67 (q_keyAt hG S hi hqi hjl) rfl S.c rfl rfl ⟨(Nat.le_of_ble_eq_true rfl), (Nat.le_of_ble_eq_true rfl)⟩ (Nat.le_of_ble_eq_true rfl) (Nat.le_of_ble_eq_true rfl) (Nat.le_of_ble_eq_true rfl) (fun v σ1 nx1 hx1 hq1 => ?_)
          obtain ⟨rfl, S, rfl⟩ := hq1
          rw [← hx]
          refine z_istore dL_isGroup_73 (by decide) ?_
          refine z_aload_n dL_isGroup_75 rfl ?_
          refine z_aload_n dL_isGroup_76 rfl ?_
          refine z_iload dL_isGroup_77 rfl ?_
          refine z_ar dL_isGroup_79 S (by decide) (by omega) rf ?_
          refine z_iload dL_isGroup_80 rfl ?_
          refine z_iconst (v := 3) dL_isGroup_82 (by decide) ?_
          refine z_callS dL_isGroup_83 cv_L_115 (l_grouped (h := 3) hG S hfl (by decide)) rfl rfl ⟨(Nat.le_of_ble_eq_true rfl), (Nat.le_of_ble_eq_true rfl)⟩ (Nat.le_of_ble_eq_true rfl) (Nat.le_of_ble_eq_true rfl) (Nat.le_of_ble_eq_true rfl) (fun v σ1 nx1 hx1 hq1 => ?_)
          obtain ⟨rfl, S, rfl⟩ := hq1
          rw [zgo3, ← hF]
          refine z_istore dL_isGroup_86 (by decide) ?_
          refine z_iload dL_isGroup_88 rfl ?_
          refine z_iload dL_isGroup_90 rfl ?_
          refine z_iadd dL_isGroup_92 ?_
          rw [nI_add]
          refine z_istore dL_isGroup_93 (by decide) ?_
          refine z_iload dL_isGroup_95 rfl ?_
          refine z_aload_n dL_isGroup_97 rfl ?_
          refine z_iload dL_isGroup_98 rfl ?_
          refine z_ar dL_isGroup_100 S (by decide) (by omega) r3 ?_
          refine z_callS dL_isGroup_101 cv_L_112 (l_share (by omega) (by omega) S) rfl rfl ⟨(Nat.le_of_ble_eq_true rfl), (Nat.le_of_ble_eq_true rfl)⟩ (Nat.le_of_ble_eq_true rfl) (Nat.le_of_ble_eq_true rfl) (Nat.le_of_ble_eq_true rfl) (fun v σ1 nx1 hx1 hq1 => ?_)
          obtain ⟨rfl, S, rfl⟩ := hq1
          rw [hmd]
          refine z_iload dL_isGroup_104 rfl ?_
          refine z_icmp_ne (tgt := 167) dL_isGroup_106 (by decide) (fun q_9 => absurd ((rfl)) q_9) (fun _ => ?_)
          refine z_iload dL_isGroup_109 rfl ?_
          refine z_if_le (tgt := 167) dL_isGroup_111 (by decide) (fun q_9 => absurd q_9 (((show ¬ nI (zkf x.1 F).length ≤ nI 0 from nI_ge hpos (by omega))))) (fun _ => ?_)
          refine z_iload dL_isGroup_114 rfl ?_
          cases j with
          | zero =>
            refine z_if_eq (tgt := 136) dL_isGroup_116 (by decide) (fun _ => ?_) (fun q_9 => absurd ((rfl)) q_9)
            exact rest _ S
          | succ j' =>
            refine z_if_eq (tgt := 136) dL_isGroup_116 (by decide) (fun q_9 => absurd q_9 (((fun w => absurd ((nI_eq (a := j' + 1) (b := 0) (by omega) (by decide)).mp w) (Nat.succ_ne_zero j'))))) (fun _ => ?_)
            refine z_aload_n dL_isGroup_119 rfl ?_
            refine z_iload dL_isGroup_120 rfl ?_
            refine z_iload dL_isGroup_122 rfl ?_
            refine z_iload dL_isGroup_124 rfl ?_
            refine z_iconst (v := 1) dL_isGroup_126 (by decide) ?_
            refine z_isub dL_isGroup_127 ?_
            rw [zsub1 (by omega)]
            refine z_callV dL_isGroup_128 cv0_L_67 (q_keyAt hG S hi hqi (by omega)) rfl S.c rfl rfl ⟨(Nat.le_of_ble_eq_true rfl), (Nat.le_of_ble_eq_true rfl)⟩ (Nat.le_of_ble_eq_true rfl) (Nat.le_of_ble_eq_true rfl) (Nat.le_of_ble_eq_true rfl) (fun v σ1 nx1 hx1 hq1 => ?_)
            obtain ⟨rfl, S, rfl⟩ := hq1
            refine z_iload dL_isGroup_131 rfl ?_
            refine z_icmp_ge (tgt := 167) dL_isGroup_133 (by decide) (fun q_9 => absurd q_9 (((Int32.not_le.mpr (by rw [hx]; exact hlt q j' hql hjl))))) (fun _ => ?_)
            exact rest _ S
      refine z_iload dL_isGroup_26 rfl ?_
      refine z_aload_n dL_isGroup_28 rfl ?_
      refine z_iload dL_isGroup_29 rfl ?_
      refine z_callV dL_isGroup_31 cv0_L_58 (q_partitions hG S hi) rfl S.c rfl rfl ⟨(Nat.le_of_ble_eq_true rfl), (Nat.le_of_ble_eq_true rfl)⟩ (Nat.le_of_ble_eq_true rfl) (Nat.le_of_ble_eq_true rfl) (Nat.le_of_ble_eq_true rfl) (fun v σ1 nx1 hx1 hq1 => ?_)
      obtain ⟨rfl, S, rfl⟩ := hq1
      rw [hlen]
      refine z_icmp_ge (tgt := 182) dL_isGroup_34 (by decide) (fun q_9 => absurd q_9 ((nI_ge hql (by omega)))) (fun _ => ?_)
      refine z_iload dL_isGroup_37 rfl ?_
      refine z_if_eq (tgt := 182) dL_isGroup_39 (by decide) (fun q_9 => absurd q_9 (((by decide)))) (fun _ => ?_)
      refine z_iconst (v := 0) dL_isGroup_42 (by decide) ?_
      refine z_istore dL_isGroup_43 (by decide) ?_
      exact inner _ 0 _ _ _ (Nat.zero_add _) S
  refine z_aload_n dL_isGroup_0 rfl ?_
  refine z_iload dL_isGroup_1 rfl ?_
  refine z_callV dL_isGroup_3 cv0_L_58 (q_partitions hG S hi) rfl S.c rfl rfl ⟨(Nat.le_of_ble_eq_true rfl), (Nat.le_of_ble_eq_true rfl)⟩ (Nat.le_of_ble_eq_true rfl) (Nat.le_of_ble_eq_true rfl) (Nat.le_of_ble_eq_true rfl) (fun v σ1 nx1 hx1 hq1 => ?_)
  obtain ⟨rfl, S, rfl⟩ := hq1
  refine z_aload_n dL_isGroup_6 rfl ?_
  refine z_iload dL_isGroup_7 rfl ?_
  refine z_ar dL_isGroup_9 S (by decide) (by omega) r3 ?_
  rw [hlen]
  refine z_icmp_ne (tgt := 17) dL_isGroup_10 (by decide) (fun q_9 => absurd ((rfl)) q_9) (fun _ => ?_)
  refine z_iconst (v := 1) dL_isGroup_13 (by decide) ?_
  refine z_goto (tgt := 18) dL_isGroup_14 (by decide) ?_
  refine z_istore dL_isGroup_18 (by decide) ?_
  refine z_iconst (v := 0) dL_isGroup_20 (by decide) ?_
  refine z_istore dL_isGroup_21 (by decide) ?_
  refine z_iconst (v := 0) dL_isGroup_23 (by decide) ?_
  refine z_istore dL_isGroup_24 (by decide) ?_
  exact outer _ 0 _ _ _ _ (Nat.zero_add _) S
end
