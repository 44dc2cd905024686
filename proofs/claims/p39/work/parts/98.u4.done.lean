/-! the law: a step's kinds -/
abbrev zDl (G : zG) (b s w o t h : Nat) (l : List (Option Value)) : zL := [some (.ref b), some (.ref (G.2.2 8)), some (.int (nI s)), some (.ref (b + 74 + 0)), some (.ref (b + 74 + 1)), some (.ref (b + 74 + 2)), some (.ref (b + 74 + 3)), some (.ref (b + 74 + 4)), some (.ref (b + 74 + 5)), some (.ref (b + 74 + 6)), some (.ref (b + 81)), some (.int (nI w)), some (.int (nI o)), some (.int (nI t)), some (.int (nI h))] ++ l
theorem zkw0 {f : Nat} (h1 : 1 ≤ f) (h2 : f ≤ 4) : zk_work (nI f) = 0 := if_neg fun w => w.elim (nI_nlt (a := f) (b := 1) h1 (by omega)) (nI_nlt (a := 4) (b := f) h2 (by decide))
theorem zkw1 {f : Nat} (h : f = 0 ∨ f = 5) : zk_work (nI f) ≠ 0 := by rcases h with rfl | rfl <;> decide
theorem zks0 {f t : Nat} (hf : f < 4) (h1 : 1 ≤ t) (h2 : t ≤ 9) : zk_slow (nI f) (nI t) = 0 := by
  rw [zk_slow, if_neg (fun w => w.elim (nI_pos (by omega)) (nI_ge (a := f) (b := 4) hf (by decide))), if_neg (fun w => w.elim (nI_nlt (a := t) (b := 1) h1 (by omega)) (nI_nlt (a := 9) (b := t) h2 (by decide)))]
theorem zks2 {f t : Nat} (hf : f < 4) (h : t = 0 ∨ t = 10) : zk_slow (nI f) (nI t) = 2 := by
  rw [zk_slow, if_neg (fun w => w.elim (nI_pos (by omega)) (nI_ge (a := f) (b := 4) hf (by decide))), if_pos (by rcases h with rfl | rfl <;> decide)]
theorem zk10 {t : Nat} (h : t ≤ 1000) : zk_1000 (nI t) = 0 := if_neg fun w => w.elim (nI_pos (by omega)) (nI_nlt (a := 1000) (b := t) h (by decide))
section
variable {G : zG} {σ : zH} {b nx : Nat} {R : Nat → Nat → Int32} {nt : zNT} {lim mem wk r tk sp cs : Nat} {slow : Nat → Nat} {L : zNS} {A : List zAE} {s w o t h : Nat} {l15 l16 l17 : Option Value}
set_option maxRecDepth 100000 in
set_option maxHeartbeats 4000000 in
theorem l_dMade (hG : zKap G) (hnx : b + 82 ≤ nx) (S : zVs G σ b (nt, lim, mem, wk, slow, r, L, A, tk, sp, cs) R) (he : zRe (nt, lim, mem, wk, slow, r, L, A, tk, sp, cs) R) (ho : o < 6000) (ht : t < 7000) (hh : h < 8000) : zWP G kL_isDone (zFM G kL_isDone.2.2.2.1 (zSt2 G b)) 59 (zDl G b s w o t h [l15, l16, l17]) [] σ nx 0 0 := by
  obtain ⟨hr, hg0, hlim, hg2, hg3, hg4, hsm, hsp, hmz⟩ := id he
  have h14 : nt.length ≤ 14 := S.2.1.2.2.1
  by_cases c0 : nt.length = 0
  · have hm : nI o * 6 = nI (o * 6) := pk_mul o 6
    refine z_aload_n dL_isDone_59 rfl ?_
    refine z_aload_n dL_isDone_60 rfl ?_
    refine z_aload dL_isDone_61 rfl ?_
    refine z_aload dL_isDone_63 rfl ?_
    refine z_aload dL_isDone_65 rfl ?_
    refine z_aload dL_isDone_67 rfl ?_
    refine z_aload dL_isDone_69 rfl ?_
    refine z_aload dL_isDone_71 rfl ?_
    refine z_aload dL_isDone_73 rfl ?_
    refine z_iconst (v := 0) dL_isDone_75 (by decide) ?_
    refine z_gr dL_isDone_76 S (i := 0) (by decide) hg0 ?_
    refine z_if_ne (tgt := 88) dL_isDone_77 (by decide) (fun q_9 => absurd (((by rw [c0]; rfl))) q_9) (fun _ => ?_)
    refine z_iload dL_isDone_80 rfl ?_
    refine z_bipush (v := 6) dL_isDone_82 (by decide) ?_
    refine z_imul dL_isDone_84 ?_
    rw [hm]
    refine z_goto (tgt := 90) dL_isDone_85 (by decide) ?_
    refine z_iload dL_isDone_90 rfl ?_
    refine z_iload dL_isDone_92 rfl ?_
    refine z_callS dL_isDone_94 cv_L_185 (l_isMade hG hnx S he (by omega) (by omega) (by omega)) rfl rfl ⟨(Nat.le_of_ble_eq_true rfl), (Nat.le_of_ble_eq_true rfl)⟩ (Nat.le_of_ble_eq_true rfl) (Nat.le_of_ble_eq_true rfl) (Nat.le_of_ble_eq_true rfl) (fun v σ1 nx1 hx1 hq1 => ?_)
    obtain ⟨rfl, u', R', S, he⟩ := hq1
    replace hnx := Nat.le_trans hnx hx1
    exact z_zret dL_isDone_97 rfl rfl (Nat.le_of_ble_eq_true rfl) (Nat.le_of_ble_eq_true rfl) ⟨rfl, u', R', S, he⟩
  · refine z_aload_n dL_isDone_59 rfl ?_
    refine z_aload_n dL_isDone_60 rfl ?_
    refine z_aload dL_isDone_61 rfl ?_
    refine z_aload dL_isDone_63 rfl ?_
    refine z_aload dL_isDone_65 rfl ?_
    refine z_aload dL_isDone_67 rfl ?_
    refine z_aload dL_isDone_69 rfl ?_
    refine z_aload dL_isDone_71 rfl ?_
    refine z_aload dL_isDone_73 rfl ?_
    refine z_iconst (v := 0) dL_isDone_75 (by decide) ?_
    refine z_gr dL_isDone_76 S (i := 0) (by decide) hg0 ?_
    refine z_if_ne (tgt := 88) dL_isDone_77 (by decide) (fun _ => ?_) (fun q_9 => absurd q_9 (((fun y => c0 ((nI_eq (b := 0) (by omega) (by decide)).mp y)))))
    refine z_iload dL_isDone_88 rfl ?_
    refine z_iload dL_isDone_90 rfl ?_
    refine z_iload dL_isDone_92 rfl ?_
    refine z_callS dL_isDone_94 cv_L_185 (l_isMade hG hnx S he (by omega) (by omega) (by omega)) rfl rfl ⟨(Nat.le_of_ble_eq_true rfl), (Nat.le_of_ble_eq_true rfl)⟩ (Nat.le_of_ble_eq_true rfl) (Nat.le_of_ble_eq_true rfl) (Nat.le_of_ble_eq_true rfl) (fun v σ1 nx1 hx1 hq1 => ?_)
    obtain ⟨rfl, u', R', S, he⟩ := hq1
    replace hnx := Nat.le_trans hnx hx1
    exact z_zret dL_isDone_97 rfl rfl (Nat.le_of_ble_eq_true rfl) (Nat.le_of_ble_eq_true rfl) ⟨rfl, u', R', S, he⟩
set_option maxRecDepth 100000 in
set_option maxHeartbeats 4000000 in
theorem l_dPut (hG : zKap G) (hnx : b + 82 ≤ nx) (S : zVs G σ b (nt, lim, mem, wk, slow, r, L, A, tk, sp, cs) R) (he : zRe (nt, lim, mem, wk, slow, r, L, A, tk, sp, cs) R) (ho : o < 6000) : zWP G kL_isDone (zFM G kL_isDone.2.2.2.1 (zSt2 G b)) 105 (zDl G b s w o t h [l15, l16, l17]) [] σ nx 0 0 := by
  refine z_aload_n dL_isDone_105 rfl ?_
  refine z_aload_n dL_isDone_106 rfl ?_
  refine z_aload dL_isDone_107 rfl ?_
  refine z_iload dL_isDone_109 rfl ?_
  refine z_iload dL_isDone_111 rfl ?_
  refine z_iload dL_isDone_113 rfl ?_
  refine z_callS dL_isDone_115 cv_L_189 (l_isPut hG hnx S he (by omega)) rfl rfl ⟨(Nat.le_of_ble_eq_true rfl), (Nat.le_of_ble_eq_true rfl)⟩ (Nat.le_of_ble_eq_true rfl) (Nat.le_of_ble_eq_true rfl) (Nat.le_of_ble_eq_true rfl) (fun v σ1 nx1 hx1 hq1 => ?_)
  obtain ⟨rfl, u', S, he⟩ := hq1
  replace hnx := Nat.le_trans hnx hx1
  exact z_zret dL_isDone_118 rfl rfl (Nat.le_of_ble_eq_true rfl) (Nat.le_of_ble_eq_true rfl) ⟨rfl, u', R, S, he⟩
set_option maxRecDepth 100000 in
set_option maxHeartbeats 4000000 in
theorem l_dRun (hG : zKap G) (hnx : b + 82 ≤ nx) (S : zVs G σ b (nt, lim, mem, wk, slow, r, L, A, tk, sp, cs) R) (he : zRe (nt, lim, mem, wk, slow, r, L, A, tk, sp, cs) R) (ho : o < 6000) (h1 : 1 ≤ nt.length) : zWP G kL_isDone (zFM G kL_isDone.2.2.2.1 (zSt2 G b)) 126 (zDl G b s w o t h [l15, l16, l17]) [] σ nx 0 0 := by
  obtain ⟨hr, hg0, hlim, hg2, hg3, hg4, hsm, hsp, hmz⟩ := id he
  have h14 : nt.length ≤ 14 := S.2.1.2.2.1
  have hne : ¬ nI nt.length = 0 := fun y => absurd ((nI_eq (b := 0) (by omega) (by decide)).mp y) (by omega)
  have hrem : nI o - nI o / nI nt.length * nI nt.length = nI (o % nt.length) := pk_rem (by omega) (by omega) (by omega)
  have hlt : o % nt.length < nt.length := Nat.mod_lt _ (by omega)
  refine z_aload_n dL_isDone_126 rfl ?_
  refine z_aload dL_isDone_127 rfl ?_
  refine z_aload dL_isDone_129 rfl ?_
  refine z_iload dL_isDone_131 rfl ?_
  refine z_aload dL_isDone_133 rfl ?_
  refine z_iconst (v := 0) dL_isDone_135 (by decide) ?_
  refine z_gr dL_isDone_136 S (i := 0) (by decide) hg0 ?_
  refine z_irem dL_isDone_137 hne ?_
  rw [hrem]
  refine z_callS dL_isDone_138 cv_L_193 (l_isRun hG hnx S he hlt) rfl rfl ⟨(Nat.le_of_ble_eq_true rfl), (Nat.le_of_ble_eq_true rfl)⟩ (Nat.le_of_ble_eq_true rfl) (Nat.le_of_ble_eq_true rfl) (Nat.le_of_ble_eq_true rfl) (fun v σ1 nx1 hx1 hq1 => ?_)
  obtain ⟨rfl, ⟨nt', lim', mem', wk', slow', r', L', A', tk', sp', cs'⟩, S, he⟩ := hq1
  replace hnx := Nat.le_trans hnx hx1
  have h14' : nt'.length ≤ 14 := S.2.1.2.2.1
  have hzk : zk_node nt'.length (nI nt'.length) ≠ 0 := by
    rw [zk_node1 (Or.inr (nI_le (Nat.le_refl _) (by omega)))]
    decide
  obtain ⟨-, hg0', -⟩ := id he
  refine z_if_eq (tgt := 163) dL_isDone_141 (by decide) (fun q_9 => absurd q_9 (((by decide)))) (fun _ => ?_)
  refine z_aload_n dL_isDone_144 rfl ?_
  refine z_iconst (v := 5) dL_isDone_145 (by decide) ?_
  refine z_aload dL_isDone_146 rfl ?_
  refine z_iconst (v := 0) dL_isDone_148 (by decide) ?_
  refine z_gr dL_isDone_149 S (i := 0) (by decide) hg0' ?_
  refine z_iconst (v := 0) dL_isDone_150 (by decide) ?_
  refine z_callH dL_isDone_151 ch_L_174 (w_sets_run hG hnx S) rfl rfl ⟨(Nat.le_of_ble_eq_true rfl), (Nat.le_of_ble_eq_true rfl)⟩ (Nat.le_of_ble_eq_true rfl) (Nat.le_of_ble_eq_true rfl) (Nat.le_of_ble_eq_true rfl) (fun v σ1 nx1 hx1 hq1 => ?_)
  obtain ⟨rfl, S⟩ := hq1.badI hzk S
  replace hnx := Nat.le_trans hnx hx1
  refine z_bipush (v := (-30)) dL_isDone_154 (by decide) ?_
  refine z_icmp_ne (tgt := 163) dL_isDone_156 (by decide) (fun q_9 => absurd ((rfl)) q_9) (fun _ => ?_)
  refine z_iconst (v := 1) dL_isDone_159 (by decide) ?_
  refine z_goto (tgt := 164) dL_isDone_160 (by decide) ?_
  exact z_zret dL_isDone_164 rfl rfl (Nat.le_of_ble_eq_true rfl) (Nat.le_of_ble_eq_true rfl) ⟨rfl, _, R, S, he⟩
set_option maxRecDepth 100000 in
set_option maxHeartbeats 4000000 in
theorem l_dWork (hG : zKap G) (hnx : b + 82 ≤ nx) (S : zVs G σ b (nt, lim, mem, wk, slow, r, L, A, tk, sp, cs) R) (he : zRe (nt, lim, mem, wk, slow, r, L, A, tk, sp, cs) R) (ho : o < 6000) : zWP G kL_isDone (zFM G kL_isDone.2.2.2.1 (zSt2 G b)) 172 (zDl G b s w o t h [l15, l16, l17]) [] σ nx 0 0 := by
  obtain ⟨hr, hg0, hlim, hg2, hg3, hg4, hsm, hsp, hmz⟩ := id he
  obtain ⟨f, hf⟩ : ∃ f, f = o % 6 := ⟨_, rfl⟩
  have hfb : f < 6 := by omega
  have hrem : nI o - nI o / 6 * 6 = nI f := by rw [hf]; exact pk_rem (d := 6) (by omega) (by decide) (by decide)
  have badR : zRe (nt, lim, mem, wk, slow, r, L, A, tk, sp, cs) (zRu R 7 2 (nI wk)) := zRe_g he (by decide) rfl rfl rfl rfl hsm
  by_cases c1 : f = 0
  · have hzk := zkw1 (f := f) (Or.inl c1)
    refine z_aload dL_isDone_172 rfl ?_
    refine z_iconst (v := 2) dL_isDone_174 (by decide) ?_
    refine z_gr dL_isDone_175 S (i := 2) (by decide) hg2 ?_
    refine z_istore dL_isDone_176 (by decide) ?_
    refine z_aload dL_isDone_178 rfl ?_
    refine z_iconst (v := 2) dL_isDone_180 (by decide) ?_
    refine z_iload dL_isDone_181 rfl ?_
    refine z_bipush (v := 6) dL_isDone_183 (by decide) ?_
    refine z_irem dL_isDone_185 (by decide) ?_
    rw [hrem]
    refine z_if_le (tgt := 206) dL_isDone_186 (by decide) (fun _ => ?_) (fun q_9 => absurd (((show nI f ≤ nI 0 from nI_le (by omega) (by decide)))) q_9)
    refine z_iload dL_isDone_206 rfl ?_
    refine z_gs dL_isDone_208 S (i := 2) (by decide) (fun σ1 S => ?_)
    refine z_aload_n dL_isDone_209 rfl ?_
    refine z_iconst (v := 0) dL_isDone_210 (by decide) ?_
    refine z_iload dL_isDone_211 rfl ?_
    refine z_bipush (v := 6) dL_isDone_213 (by decide) ?_
    refine z_irem dL_isDone_215 (by decide) ?_
    rw [hrem]
    refine z_iconst (v := 0) dL_isDone_216 (by decide) ?_
    refine z_callH dL_isDone_217 ch_L_174 (w_sets_setWorkers hG hnx S) rfl rfl ⟨(Nat.le_of_ble_eq_true rfl), (Nat.le_of_ble_eq_true rfl)⟩ (Nat.le_of_ble_eq_true rfl) (Nat.le_of_ble_eq_true rfl) (Nat.le_of_ble_eq_true rfl) (fun v σ1 nx1 hx1 hq1 => ?_)
    obtain ⟨rfl, S⟩ := hq1.badA hzk S
    replace hnx := Nat.le_trans hnx hx1
    refine z_iload dL_isDone_220 rfl ?_
    refine z_bipush (v := 6) dL_isDone_222 (by decide) ?_
    refine z_irem dL_isDone_224 (by decide) ?_
    rw [hrem]
    refine z_if_le (tgt := 242) dL_isDone_225 (by decide) (fun _ => ?_) (fun q_9 => absurd (((show nI f ≤ nI 0 from nI_le (by omega) (by decide)))) q_9)
    refine z_bipush (v := (-20)) dL_isDone_242 (by decide) ?_
    refine z_icmp_ne (tgt := 258) dL_isDone_244 (by decide) (fun q_9 => absurd ((rfl)) q_9) (fun _ => ?_)
    refine z_aload_n dL_isDone_247 rfl ?_
    refine z_callV dL_isDone_248 cv_L_153 (p_spilled S) rfl S.c rfl rfl ⟨(Nat.le_of_ble_eq_true rfl), (Nat.le_of_ble_eq_true rfl)⟩ (Nat.le_of_ble_eq_true rfl) (Nat.le_of_ble_eq_true rfl) (Nat.le_of_ble_eq_true rfl) (fun v σ1 nx1 hx1 hq1 => ?_)
    obtain ⟨rfl, S, rfl⟩ := hq1
    refine z_if_lt (tgt := 258) dL_isDone_251 (by decide) (fun q_9 => absurd q_9 (((nI_pos hsp)))) (fun _ => ?_)
    refine z_iconst (v := 1) dL_isDone_254 (by decide) ?_
    refine z_goto (tgt := 259) dL_isDone_255 (by decide) ?_
    exact z_zret dL_isDone_259 rfl rfl (Nat.le_of_ble_eq_true rfl) (Nat.le_of_ble_eq_true rfl) ⟨rfl, _, _, S, badR⟩
  by_cases c5 : f = 5
  · have hzk := zkw1 (f := f) (Or.inr c5)
    refine z_aload dL_isDone_172 rfl ?_
    refine z_iconst (v := 2) dL_isDone_174 (by decide) ?_
    refine z_gr dL_isDone_175 S (i := 2) (by decide) hg2 ?_
    refine z_istore dL_isDone_176 (by decide) ?_
    refine z_aload dL_isDone_178 rfl ?_
    refine z_iconst (v := 2) dL_isDone_180 (by decide) ?_
    refine z_iload dL_isDone_181 rfl ?_
    refine z_bipush (v := 6) dL_isDone_183 (by decide) ?_
    refine z_irem dL_isDone_185 (by decide) ?_
    rw [hrem]
    refine z_if_le (tgt := 206) dL_isDone_186 (by decide) (fun q_9 => absurd q_9 (((show ¬ nI f ≤ nI 0 from nI_ge (by omega) (by omega))))) (fun _ => ?_)
    refine z_iload dL_isDone_189 rfl ?_
    refine z_bipush (v := 6) dL_isDone_191 (by decide) ?_
    refine z_irem dL_isDone_193 (by decide) ?_
    rw [hrem]
    refine z_iconst (v := 5) dL_isDone_194 (by decide) ?_
    refine z_icmp_ge (tgt := 206) dL_isDone_195 (by decide) (fun _ => ?_) (fun q_9 => absurd (((show nI 5 ≤ nI f from nI_le (by omega) (by omega)))) q_9)
    refine z_iload dL_isDone_206 rfl ?_
    refine z_gs dL_isDone_208 S (i := 2) (by decide) (fun σ1 S => ?_)
    refine z_aload_n dL_isDone_209 rfl ?_
    refine z_iconst (v := 0) dL_isDone_210 (by decide) ?_
    refine z_iload dL_isDone_211 rfl ?_
    refine z_bipush (v := 6) dL_isDone_213 (by decide) ?_
    refine z_irem dL_isDone_215 (by decide) ?_
    rw [hrem]
    refine z_iconst (v := 0) dL_isDone_216 (by decide) ?_
    refine z_callH dL_isDone_217 ch_L_174 (w_sets_setWorkers hG hnx S) rfl rfl ⟨(Nat.le_of_ble_eq_true rfl), (Nat.le_of_ble_eq_true rfl)⟩ (Nat.le_of_ble_eq_true rfl) (Nat.le_of_ble_eq_true rfl) (Nat.le_of_ble_eq_true rfl) (fun v σ1 nx1 hx1 hq1 => ?_)
    obtain ⟨rfl, S⟩ := hq1.badA hzk S
    replace hnx := Nat.le_trans hnx hx1
    refine z_iload dL_isDone_220 rfl ?_
    refine z_bipush (v := 6) dL_isDone_222 (by decide) ?_
    refine z_irem dL_isDone_224 (by decide) ?_
    rw [hrem]
    refine z_if_le (tgt := 242) dL_isDone_225 (by decide) (fun q_9 => absurd q_9 (((show ¬ nI f ≤ nI 0 from nI_ge (by omega) (by omega))))) (fun _ => ?_)
    refine z_iload dL_isDone_228 rfl ?_
    refine z_bipush (v := 6) dL_isDone_230 (by decide) ?_
    refine z_irem dL_isDone_232 (by decide) ?_
    rw [hrem]
    refine z_iconst (v := 5) dL_isDone_233 (by decide) ?_
    refine z_icmp_ge (tgt := 242) dL_isDone_234 (by decide) (fun _ => ?_) (fun q_9 => absurd (((show nI 5 ≤ nI f from nI_le (by omega) (by omega)))) q_9)
    refine z_bipush (v := (-20)) dL_isDone_242 (by decide) ?_
    refine z_icmp_ne (tgt := 258) dL_isDone_244 (by decide) (fun q_9 => absurd ((rfl)) q_9) (fun _ => ?_)
    refine z_aload_n dL_isDone_247 rfl ?_
    refine z_callV dL_isDone_248 cv_L_153 (p_spilled S) rfl S.c rfl rfl ⟨(Nat.le_of_ble_eq_true rfl), (Nat.le_of_ble_eq_true rfl)⟩ (Nat.le_of_ble_eq_true rfl) (Nat.le_of_ble_eq_true rfl) (Nat.le_of_ble_eq_true rfl) (fun v σ1 nx1 hx1 hq1 => ?_)
    obtain ⟨rfl, S, rfl⟩ := hq1
    refine z_if_lt (tgt := 258) dL_isDone_251 (by decide) (fun q_9 => absurd q_9 (((nI_pos hsp)))) (fun _ => ?_)
    refine z_iconst (v := 1) dL_isDone_254 (by decide) ?_
    refine z_goto (tgt := 259) dL_isDone_255 (by decide) ?_
    exact z_zret dL_isDone_259 rfl rfl (Nat.le_of_ble_eq_true rfl) (Nat.le_of_ble_eq_true rfl) ⟨rfl, _, _, S, badR⟩
  have hzk := zkw0 (f := f) (by omega) (by omega)
  refine z_aload dL_isDone_172 rfl ?_
  refine z_iconst (v := 2) dL_isDone_174 (by decide) ?_
  refine z_gr dL_isDone_175 S (i := 2) (by decide) hg2 ?_
  refine z_istore dL_isDone_176 (by decide) ?_
  refine z_aload dL_isDone_178 rfl ?_
  refine z_iconst (v := 2) dL_isDone_180 (by decide) ?_
  refine z_iload dL_isDone_181 rfl ?_
  refine z_bipush (v := 6) dL_isDone_183 (by decide) ?_
  refine z_irem dL_isDone_185 (by decide) ?_
  rw [hrem]
  refine z_if_le (tgt := 206) dL_isDone_186 (by decide) (fun q_9 => absurd q_9 (((show ¬ nI f ≤ nI 0 from nI_ge (by omega) (by omega))))) (fun _ => ?_)
  refine z_iload dL_isDone_189 rfl ?_
  refine z_bipush (v := 6) dL_isDone_191 (by decide) ?_
  refine z_irem dL_isDone_193 (by decide) ?_
  rw [hrem]
  refine z_iconst (v := 5) dL_isDone_194 (by decide) ?_
  refine z_icmp_ge (tgt := 206) dL_isDone_195 (by decide) (fun q_9 => absurd q_9 (((show ¬ nI 5 ≤ nI f from nI_ge (by omega) (by decide))))) (fun _ => ?_)
  refine z_iload dL_isDone_198 rfl ?_
  refine z_bipush (v := 6) dL_isDone_200 (by decide) ?_
  refine z_irem dL_isDone_202 (by decide) ?_
  rw [hrem]
  refine z_goto (tgt := 208) dL_isDone_203 (by decide) ?_
  refine z_gs dL_isDone_208 S (i := 2) (by decide) (fun σ1 S => ?_)
  refine z_aload_n dL_isDone_209 rfl ?_
  refine z_iconst (v := 0) dL_isDone_210 (by decide) ?_
  refine z_iload dL_isDone_211 rfl ?_
  refine z_bipush (v := 6) dL_isDone_213 (by decide) ?_
  refine z_irem dL_isDone_215 (by decide) ?_
  rw [hrem]
  refine z_iconst (v := 0) dL_isDone_216 (by decide) ?_
  refine z_callH dL_isDone_217 ch_L_174 (w_sets_setWorkers hG hnx S) rfl rfl ⟨(Nat.le_of_ble_eq_true rfl), (Nat.le_of_ble_eq_true rfl)⟩ (Nat.le_of_ble_eq_true rfl) (Nat.le_of_ble_eq_true rfl) (Nat.le_of_ble_eq_true rfl) (fun v σ1 nx1 hx1 hq1 => ?_)
  obtain ⟨u', z, rfl, hP, hT, hF⟩ := hq1.good rfl hzk
  replace hnx := Nat.le_trans hnx hx1
  have ok' := o_setWorkers S.2.1 hzk hP hT
  obtain ⟨rfl, rfl⟩ := hP
  rw [nI_clamp (by omega)] at hT ok'
  have S' : zVs G σ1 b (nt, lim, mem, f, slow, r, L, A, tk, sp, cs) (zRu R 7 2 (nI f)) := ⟨hT, ok', S.2.2.fr hF⟩
  clear hT hF S hq1
  have S := S'
  have he' : zRe (nt, lim, mem, f, slow, r, L, A, tk, sp, cs) (zRu R 7 2 (nI f)) := zRe_g he (by decide) rfl rfl rfl rfl hsm
  refine z_iload dL_isDone_220 rfl ?_
  refine z_bipush (v := 6) dL_isDone_222 (by decide) ?_
  refine z_irem dL_isDone_224 (by decide) ?_
  rw [hrem]
  refine z_if_le (tgt := 242) dL_isDone_225 (by decide) (fun q_9 => absurd q_9 (((show ¬ nI f ≤ nI 0 from nI_ge (by omega) (by omega))))) (fun _ => ?_)
  refine z_iload dL_isDone_228 rfl ?_
  refine z_bipush (v := 6) dL_isDone_230 (by decide) ?_
  refine z_irem dL_isDone_232 (by decide) ?_
  rw [hrem]
  refine z_iconst (v := 5) dL_isDone_233 (by decide) ?_
  refine z_icmp_ge (tgt := 242) dL_isDone_234 (by decide) (fun q_9 => absurd q_9 (((show ¬ nI 5 ≤ nI f from nI_ge (by omega) (by decide))))) (fun _ => ?_)
  refine z_iload dL_isDone_237 rfl ?_
  refine z_goto (tgt := 244) dL_isDone_239 (by decide) ?_
  refine z_icmp_ne (tgt := 258) dL_isDone_244 (by decide) (fun q_9 => absurd ((rfl)) q_9) (fun _ => ?_)
  refine z_aload_n dL_isDone_247 rfl ?_
  refine z_callV dL_isDone_248 cv_L_153 (p_spilled S) rfl S.c rfl rfl ⟨(Nat.le_of_ble_eq_true rfl), (Nat.le_of_ble_eq_true rfl)⟩ (Nat.le_of_ble_eq_true rfl) (Nat.le_of_ble_eq_true rfl) (Nat.le_of_ble_eq_true rfl) (fun v σ1 nx1 hx1 hq1 => ?_)
  obtain ⟨rfl, S, rfl⟩ := hq1
  refine z_if_lt (tgt := 258) dL_isDone_251 (by decide) (fun q_9 => absurd q_9 (((nI_pos hsp)))) (fun _ => ?_)
  refine z_iconst (v := 1) dL_isDone_254 (by decide) ?_
  refine z_goto (tgt := 259) dL_isDone_255 (by decide) ?_
  exact z_zret dL_isDone_259 rfl rfl (Nat.le_of_ble_eq_true rfl) (Nat.le_of_ble_eq_true rfl) ⟨rfl, _, _, S, he'⟩
set_option maxRecDepth 100000 in
set_option maxHeartbeats 4000000 in
theorem l_dSlow (hG : zKap G) (hnx : b + 82 ≤ nx) (S : zVs G σ b (nt, lim, mem, wk, slow, r, L, A, tk, sp, cs) R) (he : zRe (nt, lim, mem, wk, slow, r, L, A, tk, sp, cs) R) (ho : o < 6000) (ht : t < 7000) : zWP G kL_isDone (zFM G kL_isDone.2.2.2.1 (zSt2 G b)) 267 (zDl G b s w o t h [l15, l16, l17]) [] σ nx 0 0 := by
  obtain ⟨f, hf⟩ : ∃ f, f = o % 4 := ⟨_, rfl⟩
  have hfb : f < 4 := by omega
  have hrf : nI o - nI o / 4 * 4 = nI f := by rw [hf]; exact pk_rem (d := 4) (by omega) (by decide) (by decide)
  obtain ⟨x, hx⟩ : ∃ x, x = t % 11 := ⟨_, rfl⟩
  have hxb : x < 11 := by omega
  have hrx : nI t - nI t / 11 * 11 = nI x := by rw [hx]; exact pk_rem (d := 11) (by omega) (by decide) (by decide)
  have hslow : 1 ≤ slow f ∧ slow f ≤ 9 := S.2.1.2.2.2.2.2.2.1 f hfb
  by_cases c1 : x = 0
  · have hzk := zks2 (t := x) hfb (Or.inl c1)
    refine z_aload_n dL_isDone_267 rfl ?_
    refine z_iconst (v := 1) dL_isDone_268 (by decide) ?_
    refine z_iload dL_isDone_269 rfl ?_
    refine z_iconst (v := 4) dL_isDone_271 (by decide) ?_
    refine z_irem dL_isDone_272 (by decide) ?_
    rw [hrf]
    refine z_iload dL_isDone_273 rfl ?_
    refine z_bipush (v := 11) dL_isDone_275 (by decide) ?_
    refine z_irem dL_isDone_277 (by decide) ?_
    rw [hrx]
    refine z_callH dL_isDone_278 ch_L_174 (w_sets_setSlowness hG hnx S) rfl rfl ⟨(Nat.le_of_ble_eq_true rfl), (Nat.le_of_ble_eq_true rfl)⟩ (Nat.le_of_ble_eq_true rfl) (Nat.le_of_ble_eq_true rfl) (Nat.le_of_ble_eq_true rfl) (fun v σ1 nx1 hx1 hq1 => ?_)
    obtain ⟨rfl, S⟩ := (hq1.bad2 S).2 hzk
    replace hnx := Nat.le_trans hnx hx1
    rw [zxc_A]
    refine z_istore dL_isDone_281 (by decide) ?_
    refine z_iload dL_isDone_283 rfl ?_
    refine z_bipush (v := 11) dL_isDone_285 (by decide) ?_
    refine z_irem dL_isDone_287 (by decide) ?_
    rw [hrx]
    refine z_if_le (tgt := 305) dL_isDone_288 (by decide) (fun _ => ?_) (fun q_9 => absurd (((show nI x ≤ nI 0 from nI_le (by omega) (by decide)))) q_9)
    refine z_iconst (v := 0) dL_isDone_305 (by decide) ?_
    refine z_istore dL_isDone_306 (by decide) ?_
    refine z_iload dL_isDone_308 rfl ?_
    refine z_if_eq (tgt := 355) dL_isDone_310 (by decide) (fun _ => ?_) (fun q_9 => absurd ((rfl)) q_9)
    refine z_iload dL_isDone_355 rfl ?_
    refine z_bipush (v := (-20)) dL_isDone_357 (by decide) ?_
    refine z_icmp_ne (tgt := 366) dL_isDone_359 (by decide) (fun q_9 => absurd ((rfl)) q_9) (fun _ => ?_)
    refine z_iconst (v := 1) dL_isDone_362 (by decide) ?_
    refine z_goto (tgt := 367) dL_isDone_363 (by decide) ?_
    exact z_zret dL_isDone_367 rfl rfl (Nat.le_of_ble_eq_true rfl) (Nat.le_of_ble_eq_true rfl) ⟨rfl, _, R, S, he⟩
  by_cases c2 : x = 10
  · have hzk := zks2 (t := x) hfb (Or.inr c2)
    refine z_aload_n dL_isDone_267 rfl ?_
    refine z_iconst (v := 1) dL_isDone_268 (by decide) ?_
    refine z_iload dL_isDone_269 rfl ?_
    refine z_iconst (v := 4) dL_isDone_271 (by decide) ?_
    refine z_irem dL_isDone_272 (by decide) ?_
    rw [hrf]
    refine z_iload dL_isDone_273 rfl ?_
    refine z_bipush (v := 11) dL_isDone_275 (by decide) ?_
    refine z_irem dL_isDone_277 (by decide) ?_
    rw [hrx]
    refine z_callH dL_isDone_278 ch_L_174 (w_sets_setSlowness hG hnx S) rfl rfl ⟨(Nat.le_of_ble_eq_true rfl), (Nat.le_of_ble_eq_true rfl)⟩ (Nat.le_of_ble_eq_true rfl) (Nat.le_of_ble_eq_true rfl) (Nat.le_of_ble_eq_true rfl) (fun v σ1 nx1 hx1 hq1 => ?_)
    obtain ⟨rfl, S⟩ := (hq1.bad2 S).2 hzk
    replace hnx := Nat.le_trans hnx hx1
    rw [zxc_A]
    refine z_istore dL_isDone_281 (by decide) ?_
    refine z_iload dL_isDone_283 rfl ?_
    refine z_bipush (v := 11) dL_isDone_285 (by decide) ?_
    refine z_irem dL_isDone_287 (by decide) ?_
    rw [hrx]
    refine z_if_le (tgt := 305) dL_isDone_288 (by decide) (fun q_9 => absurd q_9 (((show ¬ nI x ≤ nI 0 from nI_ge (by omega) (by omega))))) (fun _ => ?_)
    refine z_iload dL_isDone_291 rfl ?_
    refine z_bipush (v := 11) dL_isDone_293 (by decide) ?_
    refine z_irem dL_isDone_295 (by decide) ?_
    rw [hrx]
    refine z_bipush (v := 10) dL_isDone_296 (by decide) ?_
    refine z_icmp_ge (tgt := 305) dL_isDone_298 (by decide) (fun _ => ?_) (fun q_9 => absurd (((show nI 10 ≤ nI x from nI_le (by omega) (by omega)))) q_9)
    refine z_iconst (v := 0) dL_isDone_305 (by decide) ?_
    refine z_istore dL_isDone_306 (by decide) ?_
    refine z_iload dL_isDone_308 rfl ?_
    refine z_if_eq (tgt := 355) dL_isDone_310 (by decide) (fun _ => ?_) (fun q_9 => absurd ((rfl)) q_9)
    refine z_iload dL_isDone_355 rfl ?_
    refine z_bipush (v := (-20)) dL_isDone_357 (by decide) ?_
    refine z_icmp_ne (tgt := 366) dL_isDone_359 (by decide) (fun q_9 => absurd ((rfl)) q_9) (fun _ => ?_)
    refine z_iconst (v := 1) dL_isDone_362 (by decide) ?_
    refine z_goto (tgt := 367) dL_isDone_363 (by decide) ?_
    exact z_zret dL_isDone_367 rfl rfl (Nat.le_of_ble_eq_true rfl) (Nat.le_of_ble_eq_true rfl) ⟨rfl, _, R, S, he⟩
  have hzk := zks0 (t := x) hfb (by omega) (by omega)
  refine z_aload_n dL_isDone_267 rfl ?_
  refine z_iconst (v := 1) dL_isDone_268 (by decide) ?_
  refine z_iload dL_isDone_269 rfl ?_
  refine z_iconst (v := 4) dL_isDone_271 (by decide) ?_
  refine z_irem dL_isDone_272 (by decide) ?_
  rw [hrf]
  refine z_iload dL_isDone_273 rfl ?_
  refine z_bipush (v := 11) dL_isDone_275 (by decide) ?_
  refine z_irem dL_isDone_277 (by decide) ?_
  rw [hrx]
  refine z_callH dL_isDone_278 ch_L_174 (w_sets_setSlowness hG hnx S) rfl rfl ⟨(Nat.le_of_ble_eq_true rfl), (Nat.le_of_ble_eq_true rfl)⟩ (Nat.le_of_ble_eq_true rfl) (Nat.le_of_ble_eq_true rfl) (Nat.le_of_ble_eq_true rfl) (fun v σ1 nx1 hx1 hq1 => ?_)
  obtain ⟨u', z, rfl, hP, hT, hF⟩ := hq1.good rfl hzk
  replace hnx := Nat.le_trans hnx hx1
  have ok' := o_setSlowness S.2.1 hzk hP hT
  obtain ⟨rfl, rfl⟩ := hP
  rw [nI_clamp (show f < 2 ^ 31 by omega), nI_clamp (show x < 2 ^ 31 by omega)] at hT ok'
  have S' : zVs G σ1 b (nt, lim, mem, wk, zun slow f x, r, L, A, tk, sp, cs) R := ⟨hT, ok', S.2.2.fr hF⟩
  rw [nI_clamp (show f < 2 ^ 31 by omega)]
  clear hT hF S hq1
  have S := S'
  refine z_istore dL_isDone_281 (by decide) ?_
  refine z_iload dL_isDone_283 rfl ?_
  refine z_bipush (v := 11) dL_isDone_285 (by decide) ?_
  refine z_irem dL_isDone_287 (by decide) ?_
  rw [hrx]
  refine z_if_le (tgt := 305) dL_isDone_288 (by decide) (fun q_9 => absurd q_9 (((show ¬ nI x ≤ nI 0 from nI_ge (by omega) (by omega))))) (fun _ => ?_)
  refine z_iload dL_isDone_291 rfl ?_
  refine z_bipush (v := 11) dL_isDone_293 (by decide) ?_
  refine z_irem dL_isDone_295 (by decide) ?_
  rw [hrx]
  refine z_bipush (v := 10) dL_isDone_296 (by decide) ?_
  refine z_icmp_ge (tgt := 305) dL_isDone_298 (by decide) (fun q_9 => absurd q_9 (((show ¬ nI 10 ≤ nI x from nI_ge (by omega) (by decide))))) (fun _ => ?_)
  refine z_iconst (v := 1) dL_isDone_301 (by decide) ?_
  refine z_goto (tgt := 306) dL_isDone_302 (by decide) ?_
  refine z_istore dL_isDone_306 (by decide) ?_
  refine z_iload dL_isDone_308 rfl ?_
  refine z_if_eq (tgt := 355) dL_isDone_310 (by decide) (fun q_9 => absurd q_9 (((by decide)))) (fun _ => ?_)
  refine z_iload dL_isDone_313 rfl ?_
  refine z_if_le (tgt := 351) dL_isDone_315 (by decide) (fun q_9 => absurd q_9 (((show ¬ nI (slow f) ≤ nI 0 from nI_ge (by omega) (by omega))))) (fun _ => ?_)
  refine z_iload dL_isDone_318 rfl ?_
  refine z_bipush (v := 10) dL_isDone_320 (by decide) ?_
  refine z_icmp_ge (tgt := 351) dL_isDone_322 (by decide) (fun q_9 => absurd q_9 (((show ¬ nI 10 ≤ nI (slow f) from nI_ge (by omega) (by decide))))) (fun _ => ?_)
  refine z_aload_n dL_isDone_325 rfl ?_
  refine z_iconst (v := 1) dL_isDone_326 (by decide) ?_
  refine z_iload dL_isDone_327 rfl ?_
  refine z_iconst (v := 4) dL_isDone_329 (by decide) ?_
  refine z_irem dL_isDone_330 (by decide) ?_
  rw [hrf]
  refine z_iload dL_isDone_331 rfl ?_
  refine z_bipush (v := 11) dL_isDone_333 (by decide) ?_
  refine z_irem dL_isDone_335 (by decide) ?_
  rw [hrx]
  refine z_callH dL_isDone_336 ch_L_174 (w_sets_setSlowness hG hnx S) rfl rfl ⟨(Nat.le_of_ble_eq_true rfl), (Nat.le_of_ble_eq_true rfl)⟩ (Nat.le_of_ble_eq_true rfl) (Nat.le_of_ble_eq_true rfl) (Nat.le_of_ble_eq_true rfl) (fun v σ1 nx1 hx1 hq1 => ?_)
  obtain ⟨u', z, rfl, hP, hT, hF⟩ := hq1.good rfl hzk
  replace hnx := Nat.le_trans hnx hx1
  have ok2 := o_setSlowness S.2.1 hzk hP hT
  obtain ⟨rfl, rfl⟩ := hP
  have S2 := (⟨hT, ok2, S.2.2.fr hF⟩ : zVs G σ1 b _ R)
  rw [nI_clamp (show f < 2 ^ 31 by omega), show zun slow f x f = x from if_pos rfl]
  refine z_iload dL_isDone_339 rfl ?_
  refine z_bipush (v := 11) dL_isDone_341 (by decide) ?_
  refine z_irem dL_isDone_343 (by decide) ?_
  rw [hrx]
  refine z_icmp_ne (tgt := 351) dL_isDone_344 (by decide) (fun q_9 => absurd ((rfl)) q_9) (fun _ => ?_)
  refine z_iconst (v := 1) dL_isDone_347 (by decide) ?_
  refine z_goto (tgt := 367) dL_isDone_348 (by decide) ?_
  exact z_zret dL_isDone_367 rfl rfl (Nat.le_of_ble_eq_true rfl) (Nat.le_of_ble_eq_true rfl) ⟨rfl, _, R, S2, he⟩
set_option maxRecDepth 100000 in
set_option maxHeartbeats 4000000 in
theorem l_dMem (hG : zKap G) (hnx : b + 82 ≤ nx) (S : zVs G σ b (nt, lim, mem, wk, slow, r, L, A, tk, sp, cs) R) (he : zRe (nt, lim, mem, wk, slow, r, L, A, tk, sp, cs) R) (ht : t < 7000) : zWP G kL_isDone (zFM G kL_isDone.2.2.2.1 (zSt2 G b)) 375 (zDl G b s w o t h [l15, l16, l17]) [] σ nx 0 0 := by
  obtain ⟨hr, hg0, hlim, hg2, hg3, hg4, hsm, hsp, hmz⟩ := id he
  obtain ⟨x, hx⟩ : ∃ x, x = t % 40 := ⟨_, rfl⟩
  have hxb : x < 40 := by omega
  have hrx : nI t - nI t / 40 * 40 = nI x := by rw [hx]; exact pk_rem (d := 40) (by omega) (by decide) (by decide)
  have hzk := zk10 (t := x) (by omega)
  have hzb : zk_1000 1001 ≠ 0 := by decide
  refine z_aload dL_isDone_375 rfl ?_
  refine z_iconst (v := 3) dL_isDone_377 (by decide) ?_
  refine z_gr dL_isDone_378 S (i := 3) (by decide) hg3 ?_
  refine z_istore dL_isDone_379 (by decide) ?_
  refine z_aload dL_isDone_381 rfl ?_
  refine z_iconst (v := 3) dL_isDone_383 (by decide) ?_
  refine z_iload dL_isDone_384 rfl ?_
  refine z_bipush (v := 40) dL_isDone_386 (by decide) ?_
  refine z_irem dL_isDone_388 (by decide) ?_
  rw [hrx]
  refine z_gs dL_isDone_389 S (i := 3) (by decide) (fun σ1 S => ?_)
  refine z_aload_n dL_isDone_390 rfl ?_
  refine z_iconst (v := 2) dL_isDone_391 (by decide) ?_
  refine z_iload dL_isDone_392 rfl ?_
  refine z_bipush (v := 40) dL_isDone_394 (by decide) ?_
  refine z_irem dL_isDone_396 (by decide) ?_
  rw [hrx]
  refine z_iconst (v := 0) dL_isDone_397 (by decide) ?_
  refine z_callH dL_isDone_398 ch_L_174 (w_sets_setMemory hG hnx S) rfl rfl ⟨(Nat.le_of_ble_eq_true rfl), (Nat.le_of_ble_eq_true rfl)⟩ (Nat.le_of_ble_eq_true rfl) (Nat.le_of_ble_eq_true rfl) (Nat.le_of_ble_eq_true rfl) (fun v σ1 nx1 hx1 hq1 => ?_)
  obtain ⟨u', z, rfl, hP, hT, hF⟩ := hq1.good rfl hzk
  replace hnx := Nat.le_trans hnx hx1
  have ok' := o_setMemory S.2.1 hzk hP hT
  obtain ⟨rfl, rfl⟩ := hP
  rw [nI_clamp (by omega)] at hT ok'
  have S' : zVs G σ1 b (nt, lim, x, wk, slow, r, L, A, tk, sp, cs) (zRu R 7 3 (nI x)) := ⟨hT, ok', S.2.2.fr hF⟩
  clear hT hF S hq1
  have S := S'
  have he' : zRe (nt, lim, x, wk, slow, r, L, A, tk, sp, cs) (zRu R 7 3 (nI x)) := zRe_g he (by decide) rfl rfl rfl rfl hsm
  refine z_iload dL_isDone_401 rfl ?_
  refine z_icmp_ne (tgt := 424) dL_isDone_403 (by decide) (fun q_9 => absurd ((rfl)) q_9) (fun _ => ?_)
  refine z_aload_n dL_isDone_406 rfl ?_
  refine z_iconst (v := 2) dL_isDone_407 (by decide) ?_
  refine z_sipush (v := 1001) dL_isDone_408 (by decide) ?_
  refine z_iconst (v := 0) dL_isDone_411 (by decide) ?_
  refine z_callH dL_isDone_412 ch_L_174 (w_sets_setMemory hG hnx S) rfl rfl ⟨(Nat.le_of_ble_eq_true rfl), (Nat.le_of_ble_eq_true rfl)⟩ (Nat.le_of_ble_eq_true rfl) (Nat.le_of_ble_eq_true rfl) (Nat.le_of_ble_eq_true rfl) (fun v σ1 nx1 hx1 hq1 => ?_)
  obtain ⟨rfl, S⟩ := hq1.badA hzb S
  replace hnx := Nat.le_trans hnx hx1
  refine z_bipush (v := (-20)) dL_isDone_415 (by decide) ?_
  refine z_icmp_ne (tgt := 424) dL_isDone_417 (by decide) (fun q_9 => absurd ((rfl)) q_9) (fun _ => ?_)
  refine z_iconst (v := 1) dL_isDone_420 (by decide) ?_
  refine z_goto (tgt := 425) dL_isDone_421 (by decide) ?_
  exact z_zret dL_isDone_425 rfl rfl (Nat.le_of_ble_eq_true rfl) (Nat.le_of_ble_eq_true rfl) ⟨rfl, _, _, S, he'⟩
set_option maxRecDepth 100000 in
set_option maxHeartbeats 4000000 in
theorem l_dMark (hG : zKap G) (hnx : b + 82 ≤ nx) (S : zVs G σ b (nt, lim, mem, wk, slow, r, L, A, tk, sp, cs) R) (he : zRe (nt, lim, mem, wk, slow, r, L, A, tk, sp, cs) R) (ho : o < 6000) (ht : t < 7000) (h1 : 1 ≤ nt.length) : zWP G kL_isDone (zFM G kL_isDone.2.2.2.1 (zSt2 G b)) 658 (zDl G b s w o t h [l15, l16, l17]) [] σ nx 0 0 := by
  obtain ⟨hr, hg0, hlim, hg2, hg3, hg4, hsm, hsp, hmz⟩ := id he
  have h14 : nt.length ≤ 14 := S.2.1.2.2.1
  have hne : ¬ nI nt.length = 0 := fun y => absurd ((nI_eq (b := 0) (by omega) (by decide)).mp y) (by omega)
  obtain ⟨i, hi⟩ : ∃ i, i = o % nt.length := ⟨_, rfl⟩
  have hrem : nI o - nI o / nI nt.length * nI nt.length = nI i := by rw [hi]; exact pk_rem (by omega) (by omega) (by omega)
  have hil : i < nt.length := by rw [hi]; exact Nat.mod_lt _ (by omega)
  obtain ⟨x, hx⟩ : ∃ x, x = t % 3 := ⟨_, rfl⟩
  have hxb : x < 3 := by omega
  have hrx : nI t - nI t / 3 * 3 = nI x := by rw [hx]; exact pk_rem (d := 3) (by omega) (by decide) (by decide)
  have hzk : zk_node nt.length (nI i) = 0 := zk_node0 (by omega) hil
  have hold : (nt.getD i zdf).2.2.1 11 = R 6 i := by
    obtain ⟨-, -, -, d3, -⟩ := hr i _ (zget_of hil)
    exact d3.symm
  have fin : ∀ (y : Int32) (hy : y = 0 ∨ y = 1) (σ : zH) (nx : Nat) (u' : zUv) (z : Int32) (σ1 : zH) (S : zVs G σ b (nt, lim, mem, wk, slow, r, L, A, tk, sp, cs) (zRu R 6 i y)) (hP : zPq (zmark nt (nI i).toNatClampNeg y, lim, mem, wk, slow, r, L, A, tk, sp, cs) ((nt.getD (nI i).toNatClampNeg zdf).2.2.1 11) u' z) (hT : zTu G σ1 b (b + 82) u') (hF : zFh σ σ1 b (b + 82)) (hnx : b + 82 ≤ nx),
      zWP G kL_isDone (zFM G kL_isDone.2.2.2.1 (zSt2 G b)) 709 (zDl G b s w o t h [some (.int (nI i)), some (.int (R 6 i)), l17]) [.int z] σ1 nx 1 6 := by
    intro y hy σ nx u' z σ1 S hP hT hF hnx
    have ok' := o_mark hy S.2.1 hzk hP hT
    obtain ⟨rfl, rfl⟩ := hP
    rw [nI_clamp (by omega)] at hT ok'
    rw [nI_clamp (by omega), hold]
    have S' : zVs G σ1 b (zmark nt i y, lim, mem, wk, slow, r, L, A, tk, sp, cs) (zRu R 6 i y) := ⟨hT, ok', S.2.2.fr hF⟩
    clear hT hF S
    have S := S'
    have he' := zRe_m (y := y) he hil
    have hlen : (zmark nt i y).length = nt.length := by rw [zmark, List.length_set]
    have hzb : zk_node (zmark nt i y).length (nI nt.length) ≠ 0 := by
      rw [hlen, zk_node1 (Or.inr (nI_le (Nat.le_refl _) (by omega)))]
      decide
    have hg0' : zRu R 6 i y 7 0 = nI nt.length := by rw [zRu7 (by decide)]; exact hg0
    refine z_iload dL_isDone_709 rfl ?_
    refine z_icmp_ne (tgt := 732) dL_isDone_711 (by decide) (fun q_9 => absurd ((rfl)) q_9) (fun _ => ?_)
    refine z_aload_n dL_isDone_714 rfl ?_
    refine z_aload dL_isDone_715 rfl ?_
    refine z_iconst (v := 0) dL_isDone_717 (by decide) ?_
    refine z_gr dL_isDone_718 S (i := 0) (by decide) hg0' ?_
    refine z_iconst (v := 1) dL_isDone_719 (by decide) ?_
    refine z_callH dL_isDone_720 ch_L_196 (w_marked_mark hG hnx (Or.inr rfl) S) rfl rfl ⟨(Nat.le_of_ble_eq_true rfl), (Nat.le_of_ble_eq_true rfl)⟩ (Nat.le_of_ble_eq_true rfl) (Nat.le_of_ble_eq_true rfl) (Nat.le_of_ble_eq_true rfl) (fun v σ1 nx1 hx1 hq1 => ?_)
    obtain ⟨rfl, S⟩ := hq1.badI hzb S
    replace hnx := Nat.le_trans hnx hx1
    refine z_bipush (v := (-30)) dL_isDone_723 (by decide) ?_
    refine z_icmp_ne (tgt := 732) dL_isDone_725 (by decide) (fun q_9 => absurd ((rfl)) q_9) (fun _ => ?_)
    refine z_iconst (v := 1) dL_isDone_728 (by decide) ?_
    refine z_goto (tgt := 733) dL_isDone_729 (by decide) ?_
    exact z_zret dL_isDone_733 rfl rfl (Nat.le_of_ble_eq_true rfl) (Nat.le_of_ble_eq_true rfl) ⟨rfl, _, _, S, he'⟩
  by_cases c : x = 0
  · refine z_iload dL_isDone_658 rfl ?_
    refine z_aload dL_isDone_660 rfl ?_
    refine z_iconst (v := 0) dL_isDone_662 (by decide) ?_
    refine z_gr dL_isDone_663 S (i := 0) (by decide) hg0 ?_
    refine z_irem dL_isDone_664 hne ?_
    rw [hrem]
    refine z_istore dL_isDone_665 (by decide) ?_
    refine z_aload dL_isDone_667 rfl ?_
    refine z_iload dL_isDone_669 rfl ?_
    refine z_ar dL_isDone_671 S (by decide) (by omega) rfl ?_
    refine z_istore dL_isDone_672 (by decide) ?_
    refine z_aload dL_isDone_674 rfl ?_
    refine z_iload dL_isDone_676 rfl ?_
    refine z_iload dL_isDone_678 rfl ?_
    refine z_iconst (v := 3) dL_isDone_680 (by decide) ?_
    refine z_irem dL_isDone_681 (by decide) ?_
    rw [hrx]
    refine z_if_ne (tgt := 689) dL_isDone_682 (by decide) (fun q_9 => absurd (((by rw [c]; rfl))) q_9) (fun _ => ?_)
    refine z_iconst (v := 0) dL_isDone_685 (by decide) ?_
    refine z_goto (tgt := 690) dL_isDone_686 (by decide) ?_
    refine z_as dL_isDone_690 S (by decide) (by omega) (fun σ1 S => ?_)
    refine z_aload_n dL_isDone_691 rfl ?_
    refine z_iload dL_isDone_692 rfl ?_
    refine z_iload dL_isDone_694 rfl ?_
    refine z_iconst (v := 3) dL_isDone_696 (by decide) ?_
    refine z_irem dL_isDone_697 (by decide) ?_
    rw [hrx]
    refine z_if_le (tgt := 705) dL_isDone_698 (by decide) (fun _ => ?_) (fun q_9 => absurd (((show nI x ≤ nI 0 from nI_le (by omega) (by decide)))) q_9)
    refine z_iconst (v := 0) dL_isDone_705 (by decide) ?_
    refine z_callH dL_isDone_706 ch_L_196 (w_marked_mark hG hnx (Or.inl rfl) S) rfl rfl ⟨(Nat.le_of_ble_eq_true rfl), (Nat.le_of_ble_eq_true rfl)⟩ (Nat.le_of_ble_eq_true rfl) (Nat.le_of_ble_eq_true rfl) (Nat.le_of_ble_eq_true rfl) (fun v σ1 nx1 hx1 hq1 => ?_)
    obtain ⟨u', z, rfl, hP, hT, hF⟩ := hq1.good rfl hzk
    replace hnx := Nat.le_trans hnx hx1
    exact fin 0 (Or.inl rfl) _ _ _ _ _ S hP hT hF hnx
  · refine z_iload dL_isDone_658 rfl ?_
    refine z_aload dL_isDone_660 rfl ?_
    refine z_iconst (v := 0) dL_isDone_662 (by decide) ?_
    refine z_gr dL_isDone_663 S (i := 0) (by decide) hg0 ?_
    refine z_irem dL_isDone_664 hne ?_
    rw [hrem]
    refine z_istore dL_isDone_665 (by decide) ?_
    refine z_aload dL_isDone_667 rfl ?_
    refine z_iload dL_isDone_669 rfl ?_
    refine z_ar dL_isDone_671 S (by decide) (by omega) rfl ?_
    refine z_istore dL_isDone_672 (by decide) ?_
    refine z_aload dL_isDone_674 rfl ?_
    refine z_iload dL_isDone_676 rfl ?_
    refine z_iload dL_isDone_678 rfl ?_
    refine z_iconst (v := 3) dL_isDone_680 (by decide) ?_
    refine z_irem dL_isDone_681 (by decide) ?_
    rw [hrx]
    refine z_if_ne (tgt := 689) dL_isDone_682 (by decide) (fun _ => ?_) (fun q_9 => absurd q_9 (((fun y => c ((nI_eq (b := 0) (by omega) (by decide)).mp y)))))
    refine z_iconst (v := 1) dL_isDone_689 (by decide) ?_
    refine z_as dL_isDone_690 S (by decide) (by omega) (fun σ1 S => ?_)
    refine z_aload_n dL_isDone_691 rfl ?_
    refine z_iload dL_isDone_692 rfl ?_
    refine z_iload dL_isDone_694 rfl ?_
    refine z_iconst (v := 3) dL_isDone_696 (by decide) ?_
    refine z_irem dL_isDone_697 (by decide) ?_
    rw [hrx]
    refine z_if_le (tgt := 705) dL_isDone_698 (by decide) (fun q_9 => absurd q_9 (((show ¬ nI x ≤ nI 0 from nI_ge (by omega) (by omega))))) (fun _ => ?_)
    refine z_iconst (v := 1) dL_isDone_701 (by decide) ?_
    refine z_goto (tgt := 706) dL_isDone_702 (by decide) ?_
    refine z_callH dL_isDone_706 ch_L_196 (w_marked_mark hG hnx (Or.inr rfl) S) rfl rfl ⟨(Nat.le_of_ble_eq_true rfl), (Nat.le_of_ble_eq_true rfl)⟩ (Nat.le_of_ble_eq_true rfl) (Nat.le_of_ble_eq_true rfl) (Nat.le_of_ble_eq_true rfl) (fun v σ1 nx1 hx1 hq1 => ?_)
    obtain ⟨u', z, rfl, hP, hT, hF⟩ := hq1.good rfl hzk
    replace hnx := Nat.le_trans hnx hx1
    exact fin 1 (Or.inr rfl) _ _ _ _ _ S hP hT hF hnx
end
