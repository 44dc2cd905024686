/-! the law: all nodes -/
section
variable {G : zG} {σ : zH} {b nx : Nat} {R : Nat → Nat → Int32} {nt : zNT} {lim mem wk r tk sp cs : Nat} {slow : Nat → Nat} {L : zNS} {A : List zAE}
theorem p_nodes (S : zVs G σ b (nt, lim, mem, wk, slow, r, L, A, tk, sp, cs) R) : zM G yX11_nodes kX11_nodes [.ref b] σ nx (fun v σ' nx' => v = some (.int (nI nt.length)) ∧ zVs G σ' b (nt, lim, mem, wk, slow, r, L, A, tk, sp, cs) R ∧ nx' = nx) := q_nodes S
theorem p_ticks (S : zVs G σ b (nt, lim, mem, wk, slow, r, L, A, tk, sp, cs) R) : zM G yX11_ticks kX11_ticks [.ref b] σ nx (fun v σ' nx' => v = some (.int (nI tk)) ∧ zVs G σ' b (nt, lim, mem, wk, slow, r, L, A, tk, sp, cs) R ∧ nx' = nx) := q_ticks S
theorem p_spilled (S : zVs G σ b (nt, lim, mem, wk, slow, r, L, A, tk, sp, cs) R) : zM G yX11_spilled kX11_spilled [.ref b] σ nx (fun v σ' nx' => v = some (.int (nI sp)) ∧ zVs G σ' b (nt, lim, mem, wk, slow, r, L, A, tk, sp, cs) R ∧ nx' = nx) := q_spilled S
theorem p_attempts (S : zVs G σ b (nt, lim, mem, wk, slow, r, L, A, tk, sp, cs) R) : zM G yX11_attempts kX11_attempts [.ref b] σ nx (fun v σ' nx' => v = some (.int (nI A.length)) ∧ zVs G σ' b (nt, lim, mem, wk, slow, r, L, A, tk, sp, cs) R ∧ nx' = nx) := q_attempts S
theorem zkn_bad {n : Nat} {x : Int32} (h : x < 0 ∨ nI n ≤ x) : zk_node n x ≠ 0 := by rw [zk_node1 h]; decide
theorem zko_bad {nt : zNT} {lim i : Nat} {C : Nat → Bool} {y : Int32} (hi : i < 2 ^ 31) (h : y < 0 ∨ nI (zcn (zdraw lim nt C i).2.1 14) ≤ y) : zk_out lim nt C (nI i) y ≠ 0 := by
  unfold zk_out
  rw [nI_clamp hi, if_pos (Or.inr (znob_no h))]
  decide
set_option maxRecDepth 100000 in
set_option maxHeartbeats 8000000 in
theorem l_areNodes (hG : zKap G) (hnx : b + 82 ≤ nx) (S : zVs G σ b (nt, lim, mem, wk, slow, r, L, A, tk, sp, cs) R) (he : zRe (nt, lim, mem, wk, slow, r, L, A, tk, sp, cs) R) : zM G yL_areNodes kL_areNodes [.ref b, .ref (b + 74 + 0), .ref (b + 74 + 1), .ref (b + 74 + 2), .ref (b + 74 + 3), .ref (b + 74 + 4), .ref (b + 74 + 5), .ref (b + 81)] σ nx (fun v σ' nx' => v = some (.int 1) ∧ zVs G σ' b (nt, lim, mem, wk, slow, r, L, A, tk, sp, cs) R) := by
  refine zM.of (ls := [some (.ref b), some (.ref (b + 74 + 0)), some (.ref (b + 74 + 1)), some (.ref (b + 74 + 2)), some (.ref (b + 74 + 3)), some (.ref (b + 74 + 4)), some (.ref (b + 74 + 5)), some (.ref (b + 81)), none, none, none, none, none]) (by decide +kernel) ⟨rfl, rfl, rfl⟩ (Nat.le_of_ble_eq_true rfl) (fun _ h => h) ?_
  have h14 : nt.length ≤ 14 := S.2.1.2.2.1
  have hw : zWf nt := S.2.1.1
  obtain ⟨hr, hg0, hlim, -, -, hg4, hsm, -⟩ := he
  have hr1000 : r ≤ 1000 := S.2.1.2.2.2.2.2.2.2.1
  have hsz : ∀ q ∈ L, q.2 = (zct lim nt q.1).flatten.length := fun q hq => by
    obtain ⟨k, hk⟩ := List.getElem?_of_mem hq
    exact (S.2.1.2.2.2.2.2.2.2.2.2.1 k q hk).2
  have hcs : ∀ n, zcsm lim nt L n ≤ r := fun n => Nat.le_trans (zcsm_le n L hsz) hsm
  have outer : ∀ (d j : Nat) (σ2 : zH) (nx2 c s9 : Nat) (x11 x12 : Option Value), j + d = nt.length → b + 82 ≤ nx2 → c ≤ 8 + 63 * j → s9 ≤ 48 + 378 * j → zVs G σ2 b (nt, lim, mem, wk, slow, r, L, A, tk, sp, cs) R →
      zWP G kL_areNodes (zFM G kL_areNodes.2.2.2.1 (fun v σ' nx' => v = some (.int 1) ∧ zVs G σ' b (nt, lim, mem, wk, slow, r, L, A, tk, sp, cs) R)) 66 [some (.ref b), some (.ref (b + 74 + 0)), some (.ref (b + 74 + 1)), some (.ref (b + 74 + 2)), some (.ref (b + 74 + 3)), some (.ref (b + 74 + 4)), some (.ref (b + 74 + 5)), some (.ref (b + 81)), some (.int 1), some (.int (nI (zcsm lim nt L j))), some (.int (nI j)), x11, x12] [] σ2 nx2 c s9 := by
    intro d
    induction d with
    | zero =>
      intro j σ2 nx2 c s9 x11 x12 hj hnx hc hs9 S
      have ej : j = nt.length := by omega
      refine z_widen (ca' := 1000) (sl' := 6000) (by omega) (by omega) ?_
      refine z_iload dL_areNodes_66 rfl ?_
      refine z_aload dL_areNodes_68 rfl ?_
      refine z_iconst (v := 0) dL_areNodes_70 (by decide) ?_
      refine z_gr dL_areNodes_71 S (i := 0) (by decide) hg0 ?_
      refine z_icmp_ge (tgt := 269) dL_areNodes_72 (by decide) (fun _ => ?_) (fun q_9 => absurd ((nI_le (by omega) (by omega))) q_9)
      refine z_iload dL_areNodes_269 rfl ?_
      refine z_if_eq (tgt := 287) dL_areNodes_271 (by decide) (fun q_9 => absurd q_9 (((by decide)))) (fun _ => ?_)
      refine z_iload dL_areNodes_274 rfl ?_
      refine z_aload dL_areNodes_276 rfl ?_
      refine z_iconst (v := 4) dL_areNodes_278 (by decide) ?_
      refine z_gr dL_areNodes_279 S (i := 4) (by decide) hg4 ?_
      refine z_icmp_gt (tgt := 287) dL_areNodes_280 (by decide) (fun q_9 => absurd q_9 (((nI_nlt (hcs j) (by omega))))) (fun _ => ?_)
      refine z_iconst (v := 1) dL_areNodes_283 (by decide) ?_
      refine z_goto (tgt := 288) dL_areNodes_284 (by decide) ?_
      exact z_zret dL_areNodes_288 rfl rfl (Nat.le_of_ble_eq_true rfl) (Nat.le_of_ble_eq_true rfl) ⟨rfl, S⟩
    | succ d ih =>
      intro j σ2 nx2 c s9 x11 x12 hj hnx hc hs9 S
      have hjl : j < nt.length := by omega
      have hN := zcn_le (zdraw lim nt (zcd L) j).2.1 14
      have nxt := ih (j + 1)
      rw [zcsm] at nxt
      cases hC : zcd L j with
      | true =>
        have e0 : zcn (zdraw lim nt (zcd L) j).2.1 14 = 0 := by rw [zdraw_c hC]; exact zcn_nil 14
        rw [hC, if_pos rfl, ← nI_add] at nxt
        refine z_iload dL_areNodes_66 rfl ?_
        refine z_aload dL_areNodes_68 rfl ?_
        refine z_iconst (v := 0) dL_areNodes_70 (by decide) ?_
        refine z_gr dL_areNodes_71 S (i := 0) (by decide) hg0 ?_
        refine z_icmp_ge (tgt := 269) dL_areNodes_72 (by decide) (fun q_9 => absurd q_9 ((nI_ge hjl (by omega)))) (fun _ => ?_)
        refine z_iload dL_areNodes_75 rfl ?_
        refine z_if_eq (tgt := 269) dL_areNodes_77 (by decide) (fun q_9 => absurd q_9 (((by decide)))) (fun _ => ?_)
        refine z_aload_n dL_areNodes_80 rfl ?_
        refine z_aload_n dL_areNodes_81 rfl ?_
        refine z_aload_n dL_areNodes_82 rfl ?_
        refine z_aload_n dL_areNodes_83 rfl ?_
        refine z_aload dL_areNodes_84 rfl ?_
        refine z_aload dL_areNodes_86 rfl ?_
        refine z_aload dL_areNodes_88 rfl ?_
        refine z_aload dL_areNodes_90 rfl ?_
        refine z_iload dL_areNodes_92 rfl ?_
        refine z_callS dL_areNodes_94 cv_L_143 (l_isNode hG hnx S hr hlim hjl) rfl rfl ⟨(Nat.le_of_ble_eq_true rfl), (Nat.le_of_ble_eq_true rfl)⟩ (show c + 60 ≤ 1000 by omega) (show s9 + 360 ≤ 6000 by omega) (Nat.le_of_ble_eq_true rfl) (fun v σ1 nx1 hx1 hq1 => ?_)
        obtain ⟨rfl, S⟩ := hq1
        replace hnx := Nat.le_trans hnx hx1
        refine z_if_eq (tgt := 147) dL_areNodes_97 (by decide) (fun q_9 => absurd q_9 (((by decide)))) (fun _ => ?_)
        refine z_aload_n dL_areNodes_100 rfl ?_
        refine z_iload dL_areNodes_101 rfl ?_
        refine z_callV dL_areNodes_103 cv0_L_76 (q_stages hG S hjl) rfl S.c rfl rfl ⟨(Nat.le_of_ble_eq_true rfl), (Nat.le_of_ble_eq_true rfl)⟩ (show c + 60 + 0 ≤ 1000 by omega) (show s9 + 360 + 0 ≤ 6000 by omega) (Nat.le_of_ble_eq_true rfl) (fun v σ1 nx1 hx1 hq1 => ?_)
        obtain ⟨rfl, S, rfl⟩ := hq1
        rw [e0]
        refine z_if_ne (tgt := 113) dL_areNodes_106 (by decide) (fun q_9 => absurd ((rfl)) q_9) (fun _ => ?_)
        refine z_iconst (v := 1) dL_areNodes_109 (by decide) ?_
        refine z_goto (tgt := 114) dL_areNodes_110 (by decide) ?_
        refine z_aload_n dL_areNodes_114 rfl ?_
        refine z_iload dL_areNodes_115 rfl ?_
        refine z_callV dL_areNodes_117 cv0_L_88 (q_isCached hG S hjl) rfl S.c rfl rfl ⟨(Nat.le_of_ble_eq_true rfl), (Nat.le_of_ble_eq_true rfl)⟩ (show c + 60 + 0 ≤ 1000 by omega) (show s9 + 360 + 0 ≤ 6000 by omega) (Nat.le_of_ble_eq_true rfl) (fun v σ1 nx1 hx1 hq1 => ?_)
        obtain ⟨rfl, S, rfl⟩ := hq1
        rw [hC, if_pos rfl]
        refine z_icmp_ne (tgt := 147) dL_areNodes_120 (by decide) (fun q_9 => absurd ((rfl)) q_9) (fun _ => ?_)
        refine z_aload_n dL_areNodes_123 rfl ?_
        refine z_bipush (v := 7) dL_areNodes_124 (by decide) ?_
        refine z_iload dL_areNodes_126 rfl ?_
        refine z_aload_n dL_areNodes_128 rfl ?_
        refine z_iload dL_areNodes_129 rfl ?_
        refine z_callV dL_areNodes_131 cv0_L_76 (q_stages hG S hjl) rfl S.c rfl rfl ⟨(Nat.le_of_ble_eq_true rfl), (Nat.le_of_ble_eq_true rfl)⟩ (show c + 60 + 0 ≤ 1000 by omega) (show s9 + 360 + 0 ≤ 6000 by omega) (Nat.le_of_ble_eq_true rfl) (fun v σ1 nx1 hx1 hq1 => ?_)
        obtain ⟨rfl, S, rfl⟩ := hq1
        refine z_iconst (v := 0) dL_areNodes_134 (by decide) ?_
        refine z_callH dL_areNodes_135 ch_L_102 (w_asks_outputOf hG hnx S) rfl rfl ⟨(Nat.le_of_ble_eq_true rfl), (Nat.le_of_ble_eq_true rfl)⟩ (show c + 60 + 3 ≤ 1000 by omega) (show s9 + 360 + 18 ≤ 6000 by omega) (Nat.le_of_ble_eq_true rfl) (fun v σ1 nx1 hx1 hq1 => ?_)
        obtain ⟨rfl, S⟩ := hq1.badI (zko_bad (by omega) (Or.inr (Int32.le_refl _))) S
        replace hnx := Nat.le_trans hnx hx1
        refine z_bipush (v := (-30)) dL_areNodes_138 (by decide) ?_
        refine z_icmp_ne (tgt := 147) dL_areNodes_140 (by decide) (fun q_9 => absurd ((rfl)) q_9) (fun _ => ?_)
        refine z_iconst (v := 1) dL_areNodes_143 (by decide) ?_
        refine z_goto (tgt := 148) dL_areNodes_144 (by decide) ?_
        refine z_istore dL_areNodes_148 (by decide) ?_
        refine z_iload dL_areNodes_150 rfl ?_
        refine z_aload_n dL_areNodes_152 rfl ?_
        refine z_iload dL_areNodes_153 rfl ?_
        refine z_callV dL_areNodes_155 cv0_L_88 (q_isCached hG S hjl) rfl S.c rfl rfl ⟨(Nat.le_of_ble_eq_true rfl), (Nat.le_of_ble_eq_true rfl)⟩ (show c + 63 + 0 ≤ 1000 by omega) (show s9 + 378 + 0 ≤ 6000 by omega) (Nat.le_of_ble_eq_true rfl) (fun v σ1 nx1 hx1 hq1 => ?_)
        obtain ⟨rfl, S, rfl⟩ := hq1
        rw [hC, if_pos rfl]
        refine z_if_eq (tgt := 170) dL_areNodes_158 (by decide) (fun q_9 => absurd q_9 (((by decide)))) (fun _ => ?_)
        refine z_aload_n dL_areNodes_161 rfl ?_
        refine z_iload dL_areNodes_162 rfl ?_
        refine z_callV dL_areNodes_164 cv0_L_64 (q_rows hG S hjl) rfl S.c rfl rfl ⟨(Nat.le_of_ble_eq_true rfl), (Nat.le_of_ble_eq_true rfl)⟩ (show c + 63 + 0 ≤ 1000 by omega) (show s9 + 378 + 0 ≤ 6000 by omega) (Nat.le_of_ble_eq_true rfl) (fun v σ1 nx1 hx1 hq1 => ?_)
        obtain ⟨rfl, S, rfl⟩ := hq1
        refine z_goto (tgt := 171) dL_areNodes_167 (by decide) ?_
        refine z_iadd dL_areNodes_171 ?_
        refine z_istore dL_areNodes_172 (by decide) ?_
        refine z_iconst (v := 0) dL_areNodes_174 (by decide) ?_
        refine z_istore dL_areNodes_175 (by decide) ?_
        refine z_iload dL_areNodes_177 rfl ?_
        refine z_aload_n dL_areNodes_179 rfl ?_
        refine z_iload dL_areNodes_180 rfl ?_
        refine z_callV dL_areNodes_182 cv0_L_76 (q_stages hG S hjl) rfl S.c rfl rfl ⟨(Nat.le_of_ble_eq_true rfl), (Nat.le_of_ble_eq_true rfl)⟩ (show c + 63 + 0 ≤ 1000 by omega) (show s9 + 378 + 0 ≤ 6000 by omega) (Nat.le_of_ble_eq_true rfl) (fun v σ1 nx1 hx1 hq1 => ?_)
        obtain ⟨rfl, S, rfl⟩ := hq1
        rw [e0]
        refine z_icmp_ge (tgt := 263) dL_areNodes_185 (by decide) (fun _ => ?_) (fun q_9 => absurd (((Int32.le_refl _))) q_9)
        refine z_inc1 dL_areNodes_263 rfl (by decide) ?_
        rw [nI_1]
        refine z_goto (tgt := 66) dL_areNodes_266 (by decide) ?_
        exact nxt _ _ (c + 63) (s9 + 378) _ _ (by omega) hnx (by omega) (by omega) S
      | false =>
        obtain ⟨n0, ntop, nall⟩ := zstages (lim := lim) hw h14 hjl hC
        obtain ⟨s, hs⟩ : ∃ s, s = (zdraw lim nt (zcd L) j).2.1 := ⟨_, rfl⟩
        rw [← hs] at n0 ntop nall hN
        rw [hC, if_neg (by decide), Nat.add_zero] at nxt
        obtain ⟨N, hNe⟩ : ∃ N, zcn s 14 = N + 1 := ⟨zcn s 14 - 1, by omega⟩
        have inner : ∀ (e9 n : Nat) (σ2 : zH) (nx2 : Nat) (x12 : Option Value), n + e9 = zcn s 14 → b + 82 ≤ nx2 → zVs G σ2 b (nt, lim, mem, wk, slow, r, L, A, tk, sp, cs) R →
            zWP G kL_areNodes (zFM G kL_areNodes.2.2.2.1 (fun v σ' nx' => v = some (.int 1) ∧ zVs G σ' b (nt, lim, mem, wk, slow, r, L, A, tk, sp, cs) R)) 177 [some (.ref b), some (.ref (b + 74 + 0)), some (.ref (b + 74 + 1)), some (.ref (b + 74 + 2)), some (.ref (b + 74 + 3)), some (.ref (b + 74 + 4)), some (.ref (b + 74 + 5)), some (.ref (b + 81)), some (.int 1), some (.int (nI (zcsm lim nt L j))), some (.int (nI j)), some (.int (nI n)), x12] [] σ2 nx2 (c + 63) (s9 + 378) := by
          intro e9
          induction e9 with
          | zero =>
            intro n σ2 nx2 x12 hn hnx S
            refine z_iload dL_areNodes_177 rfl ?_
            refine z_aload_n dL_areNodes_179 rfl ?_
            refine z_iload dL_areNodes_180 rfl ?_
            refine z_callV dL_areNodes_182 cv0_L_76 (q_stages hG S hjl) rfl S.c rfl rfl ⟨(Nat.le_of_ble_eq_true rfl), (Nat.le_of_ble_eq_true rfl)⟩ (show c + 63 + 0 ≤ 1000 by omega) (show s9 + 378 + 0 ≤ 6000 by omega) (Nat.le_of_ble_eq_true rfl) (fun v σ1 nx1 hx1 hq1 => ?_)
            obtain ⟨rfl, S, rfl⟩ := hq1
            rw [← hs]
            refine z_icmp_ge (tgt := 263) dL_areNodes_185 (by decide) (fun _ => ?_) (fun q_9 => absurd ((nI_le (by omega) (by omega))) q_9)
            refine z_inc1 dL_areNodes_263 rfl (by decide) ?_
            rw [nI_1]
            refine z_goto (tgt := 66) dL_areNodes_266 (by decide) ?_
            exact nxt _ _ (c + 63) (s9 + 378) _ _ (by omega) hnx (by omega) (by omega) S
          | succ e9 ie =>
            intro n σ2 nx2 x12 hn hnx S
            have hnl : n < zcn s 14 := by omega
            obtain ⟨o1, o2⟩ := nall n hnl
            refine z_iload dL_areNodes_177 rfl ?_
            refine z_aload_n dL_areNodes_179 rfl ?_
            refine z_iload dL_areNodes_180 rfl ?_
            refine z_callV dL_areNodes_182 cv0_L_76 (q_stages hG S hjl) rfl S.c rfl rfl ⟨(Nat.le_of_ble_eq_true rfl), (Nat.le_of_ble_eq_true rfl)⟩ (show c + 63 + 0 ≤ 1000 by omega) (show s9 + 378 + 0 ≤ 6000 by omega) (Nat.le_of_ble_eq_true rfl) (fun v σ1 nx1 hx1 hq1 => ?_)
            obtain ⟨rfl, S, rfl⟩ := hq1
            rw [← hs]
            refine z_icmp_ge (tgt := 263) dL_areNodes_185 (by decide) (fun q_9 => absurd q_9 ((nI_ge hnl (by omega)))) (fun _ => ?_)
            refine z_iload dL_areNodes_188 rfl ?_
            refine z_if_eq (tgt := 263) dL_areNodes_190 (by decide) (fun q_9 => absurd q_9 (((by decide)))) (fun _ => ?_)
            refine z_aload_n dL_areNodes_193 rfl ?_
            refine z_iload dL_areNodes_194 rfl ?_
            refine z_iload dL_areNodes_196 rfl ?_
            refine z_callV dL_areNodes_198 cv0_L_79 (q_outputOf hG S hjl (by rw [← hs]; exact hnl)) rfl S.c rfl rfl ⟨(Nat.le_of_ble_eq_true rfl), (Nat.le_of_ble_eq_true rfl)⟩ (show c + 63 + 0 ≤ 1000 by omega) (show s9 + 378 + 0 ≤ 6000 by omega) (Nat.le_of_ble_eq_true rfl) (fun v σ1 nx1 hx1 hq1 => ?_)
            obtain ⟨rfl, S, rfl⟩ := hq1
            rw [← hs]
            refine z_istore dL_areNodes_201 (by decide) ?_
            refine z_aload_n dL_areNodes_203 rfl ?_
            refine z_iload dL_areNodes_204 rfl ?_
            refine z_callV dL_areNodes_206 cv0_L_88 (q_isCached hG S o1) rfl S.c rfl rfl ⟨(Nat.le_of_ble_eq_true rfl), (Nat.le_of_ble_eq_true rfl)⟩ (show c + 63 + 0 ≤ 1000 by omega) (show s9 + 378 + 0 ≤ 6000 by omega) (Nat.le_of_ble_eq_true rfl) (fun v σ1 nx1 hx1 hq1 => ?_)
            obtain ⟨rfl, S, rfl⟩ := hq1
            rw [o2, if_neg (by decide)]
            refine z_if_ne (tgt := 254) dL_areNodes_209 (by decide) (fun q_9 => absurd ((rfl)) q_9) (fun _ => ?_)
            refine z_iload dL_areNodes_212 rfl ?_
            refine z_aload_n dL_areNodes_214 rfl ?_
            refine z_iload dL_areNodes_215 rfl ?_
            refine z_callV dL_areNodes_217 cv0_L_76 (q_stages hG S hjl) rfl S.c rfl rfl ⟨(Nat.le_of_ble_eq_true rfl), (Nat.le_of_ble_eq_true rfl)⟩ (show c + 63 + 0 ≤ 1000 by omega) (show s9 + 378 + 0 ≤ 6000 by omega) (Nat.le_of_ble_eq_true rfl) (fun v σ1 nx1 hx1 hq1 => ?_)
            obtain ⟨rfl, S, rfl⟩ := hq1
            rw [← hs, hNe]
            refine z_iconst (v := 1) dL_areNodes_220 (by decide) ?_
            refine z_isub dL_areNodes_221 ?_
            rw [zsub1 (by omega)]
            by_cases hlast : n = N
            · refine z_icmp_ne (tgt := 235) dL_areNodes_222 (by decide) (fun q_9 => absurd (((by rw [hlast]))) q_9) (fun _ => ?_)
              refine z_iload dL_areNodes_225 rfl ?_
              refine z_iload dL_areNodes_227 rfl ?_
              refine z_icmp_ne (tgt := 254) dL_areNodes_229 (by decide) (fun q_9 => absurd (((by rw [hlast, ← ntop, hNe, Nat.add_sub_cancel]))) q_9) (fun _ => ?_)
              refine z_goto (tgt := 250) dL_areNodes_232 (by decide) ?_
              refine z_iconst (v := 1) dL_areNodes_250 (by decide) ?_
              refine z_goto (tgt := 255) dL_areNodes_251 (by decide) ?_
              refine z_istore dL_areNodes_255 (by decide) ?_
              refine z_inc1 dL_areNodes_257 rfl (by decide) ?_
              rw [nI_1]
              refine z_goto (tgt := 177) dL_areNodes_260 (by decide) ?_
              exact ie (n + 1) _ _ _ (by omega) hnx S
            · refine z_icmp_ne (tgt := 235) dL_areNodes_222 (by decide) (fun _ => ?_) (fun q_9 => absurd q_9 (((fun w => hlast ((nI_eq (by omega) (by omega)).mp w)))))
              refine z_iload dL_areNodes_235 rfl ?_
              refine z_aload_n dL_areNodes_237 rfl ?_
              refine z_iload dL_areNodes_238 rfl ?_
              refine z_iload dL_areNodes_240 rfl ?_
              refine z_iconst (v := 1) dL_areNodes_242 (by decide) ?_
              refine z_iadd dL_areNodes_243 ?_
              rw [nI_1]
              refine z_callV dL_areNodes_244 cv0_L_79 (q_outputOf hG S hjl (by rw [← hs]; omega)) rfl S.c rfl rfl ⟨(Nat.le_of_ble_eq_true rfl), (Nat.le_of_ble_eq_true rfl)⟩ (show c + 63 + 0 ≤ 1000 by omega) (show s9 + 378 + 0 ≤ 6000 by omega) (Nat.le_of_ble_eq_true rfl) (fun v σ1 nx1 hx1 hq1 => ?_)
              obtain ⟨rfl, S, rfl⟩ := hq1
              rw [← hs]
              refine z_icmp_ge (tgt := 254) dL_areNodes_247 (by decide) (fun q_9 => absurd q_9 ((nI_ge (znu_lt (by omega) (Nat.lt_succ_self n)) (by have := (znu_spec (show n + 1 < zcn s 14 by omega)).1; omega)))) (fun _ => ?_)
              refine z_iconst (v := 1) dL_areNodes_250 (by decide) ?_
              refine z_goto (tgt := 255) dL_areNodes_251 (by decide) ?_
              refine z_istore dL_areNodes_255 (by decide) ?_
              refine z_inc1 dL_areNodes_257 rfl (by decide) ?_
              rw [nI_1]
              refine z_goto (tgt := 177) dL_areNodes_260 (by decide) ?_
              exact ie (n + 1) _ _ _ (by omega) hnx S
        refine z_iload dL_areNodes_66 rfl ?_
        refine z_aload dL_areNodes_68 rfl ?_
        refine z_iconst (v := 0) dL_areNodes_70 (by decide) ?_
        refine z_gr dL_areNodes_71 S (i := 0) (by decide) hg0 ?_
        refine z_icmp_ge (tgt := 269) dL_areNodes_72 (by decide) (fun q_9 => absurd q_9 ((nI_ge hjl (by omega)))) (fun _ => ?_)
        refine z_iload dL_areNodes_75 rfl ?_
        refine z_if_eq (tgt := 269) dL_areNodes_77 (by decide) (fun q_9 => absurd q_9 (((by decide)))) (fun _ => ?_)
        refine z_aload_n dL_areNodes_80 rfl ?_
        refine z_aload_n dL_areNodes_81 rfl ?_
        refine z_aload_n dL_areNodes_82 rfl ?_
        refine z_aload_n dL_areNodes_83 rfl ?_
        refine z_aload dL_areNodes_84 rfl ?_
        refine z_aload dL_areNodes_86 rfl ?_
        refine z_aload dL_areNodes_88 rfl ?_
        refine z_aload dL_areNodes_90 rfl ?_
        refine z_iload dL_areNodes_92 rfl ?_
        refine z_callS dL_areNodes_94 cv_L_143 (l_isNode hG hnx S hr hlim hjl) rfl rfl ⟨(Nat.le_of_ble_eq_true rfl), (Nat.le_of_ble_eq_true rfl)⟩ (show c + 60 ≤ 1000 by omega) (show s9 + 360 ≤ 6000 by omega) (Nat.le_of_ble_eq_true rfl) (fun v σ1 nx1 hx1 hq1 => ?_)
        obtain ⟨rfl, S⟩ := hq1
        replace hnx := Nat.le_trans hnx hx1
        refine z_if_eq (tgt := 147) dL_areNodes_97 (by decide) (fun q_9 => absurd q_9 (((by decide)))) (fun _ => ?_)
        refine z_aload_n dL_areNodes_100 rfl ?_
        refine z_iload dL_areNodes_101 rfl ?_
        refine z_callV dL_areNodes_103 cv0_L_76 (q_stages hG S hjl) rfl S.c rfl rfl ⟨(Nat.le_of_ble_eq_true rfl), (Nat.le_of_ble_eq_true rfl)⟩ (show c + 60 + 0 ≤ 1000 by omega) (show s9 + 360 + 0 ≤ 6000 by omega) (Nat.le_of_ble_eq_true rfl) (fun v σ1 nx1 hx1 hq1 => ?_)
        obtain ⟨rfl, S, rfl⟩ := hq1
        rw [← hs]
        refine z_if_ne (tgt := 113) dL_areNodes_106 (by decide) (fun _ => ?_) (fun q_9 => absurd q_9 (((fun w => absurd ((nI_eq (b := 0) (by omega) (by decide)).mp w) (by omega)))))
        refine z_iconst (v := 0) dL_areNodes_113 (by decide) ?_
        refine z_aload_n dL_areNodes_114 rfl ?_
        refine z_iload dL_areNodes_115 rfl ?_
        refine z_callV dL_areNodes_117 cv0_L_88 (q_isCached hG S hjl) rfl S.c rfl rfl ⟨(Nat.le_of_ble_eq_true rfl), (Nat.le_of_ble_eq_true rfl)⟩ (show c + 60 + 0 ≤ 1000 by omega) (show s9 + 360 + 0 ≤ 6000 by omega) (Nat.le_of_ble_eq_true rfl) (fun v σ1 nx1 hx1 hq1 => ?_)
        obtain ⟨rfl, S, rfl⟩ := hq1
        rw [hC, if_neg (by decide)]
        refine z_icmp_ne (tgt := 147) dL_areNodes_120 (by decide) (fun q_9 => absurd ((rfl)) q_9) (fun _ => ?_)
        refine z_aload_n dL_areNodes_123 rfl ?_
        refine z_bipush (v := 7) dL_areNodes_124 (by decide) ?_
        refine z_iload dL_areNodes_126 rfl ?_
        refine z_aload_n dL_areNodes_128 rfl ?_
        refine z_iload dL_areNodes_129 rfl ?_
        refine z_callV dL_areNodes_131 cv0_L_76 (q_stages hG S hjl) rfl S.c rfl rfl ⟨(Nat.le_of_ble_eq_true rfl), (Nat.le_of_ble_eq_true rfl)⟩ (show c + 60 + 0 ≤ 1000 by omega) (show s9 + 360 + 0 ≤ 6000 by omega) (Nat.le_of_ble_eq_true rfl) (fun v σ1 nx1 hx1 hq1 => ?_)
        obtain ⟨rfl, S, rfl⟩ := hq1
        refine z_iconst (v := 0) dL_areNodes_134 (by decide) ?_
        refine z_callH dL_areNodes_135 ch_L_102 (w_asks_outputOf hG hnx S) rfl rfl ⟨(Nat.le_of_ble_eq_true rfl), (Nat.le_of_ble_eq_true rfl)⟩ (show c + 60 + 3 ≤ 1000 by omega) (show s9 + 360 + 18 ≤ 6000 by omega) (Nat.le_of_ble_eq_true rfl) (fun v σ1 nx1 hx1 hq1 => ?_)
        obtain ⟨rfl, S⟩ := hq1.badI (zko_bad (by omega) (Or.inr (Int32.le_refl _))) S
        replace hnx := Nat.le_trans hnx hx1
        refine z_bipush (v := (-30)) dL_areNodes_138 (by decide) ?_
        refine z_icmp_ne (tgt := 147) dL_areNodes_140 (by decide) (fun q_9 => absurd ((rfl)) q_9) (fun _ => ?_)
        refine z_iconst (v := 1) dL_areNodes_143 (by decide) ?_
        refine z_goto (tgt := 148) dL_areNodes_144 (by decide) ?_
        refine z_istore dL_areNodes_148 (by decide) ?_
        refine z_iload dL_areNodes_150 rfl ?_
        refine z_aload_n dL_areNodes_152 rfl ?_
        refine z_iload dL_areNodes_153 rfl ?_
        refine z_callV dL_areNodes_155 cv0_L_88 (q_isCached hG S hjl) rfl S.c rfl rfl ⟨(Nat.le_of_ble_eq_true rfl), (Nat.le_of_ble_eq_true rfl)⟩ (show c + 63 + 0 ≤ 1000 by omega) (show s9 + 378 + 0 ≤ 6000 by omega) (Nat.le_of_ble_eq_true rfl) (fun v σ1 nx1 hx1 hq1 => ?_)
        obtain ⟨rfl, S, rfl⟩ := hq1
        rw [hC, if_neg (by decide)]
        refine z_if_eq (tgt := 170) dL_areNodes_158 (by decide) (fun _ => ?_) (fun q_9 => absurd ((rfl)) q_9)
        refine z_iconst (v := 0) dL_areNodes_170 (by decide) ?_
        refine z_iadd dL_areNodes_171 ?_
        rw [Int32.add_zero]
        refine z_istore dL_areNodes_172 (by decide) ?_
        refine z_iconst (v := 0) dL_areNodes_174 (by decide) ?_
        refine z_istore dL_areNodes_175 (by decide) ?_
        exact inner _ 0 _ _ _ (Nat.zero_add _) hnx S
  have z0 : zcsm lim nt L 0 = 0 := rfl
  refine z_aload_n dL_areNodes_0 rfl ?_
  refine z_callV dL_areNodes_1 cv_L_139 (p_nodes S) rfl S.c rfl rfl ⟨(Nat.le_of_ble_eq_true rfl), (Nat.le_of_ble_eq_true rfl)⟩ (Nat.le_of_ble_eq_true rfl) (Nat.le_of_ble_eq_true rfl) (Nat.le_of_ble_eq_true rfl) (fun v σ1 nx1 hx1 hq1 => ?_)
  obtain ⟨rfl, S, rfl⟩ := hq1
  refine z_aload dL_areNodes_4 rfl ?_
  refine z_iconst (v := 0) dL_areNodes_6 (by decide) ?_
  refine z_gr dL_areNodes_7 S (i := 0) (by decide) hg0 ?_
  refine z_icmp_ne (tgt := 57) dL_areNodes_8 (by decide) (fun q_9 => absurd ((rfl)) q_9) (fun _ => ?_)
  refine z_aload_n dL_areNodes_11 rfl ?_
  refine z_iconst (v := 0) dL_areNodes_12 (by decide) ?_
  refine z_aload dL_areNodes_13 rfl ?_
  refine z_iconst (v := 0) dL_areNodes_15 (by decide) ?_
  refine z_gr dL_areNodes_16 S (i := 0) (by decide) hg0 ?_
  refine z_iconst (v := 0) dL_areNodes_17 (by decide) ?_
  refine z_iconst (v := 0) dL_areNodes_18 (by decide) ?_
  refine z_callH dL_areNodes_19 ch_L_102 (w_asks_partitions hG hnx S) rfl rfl ⟨(Nat.le_of_ble_eq_true rfl), (Nat.le_of_ble_eq_true rfl)⟩ (Nat.le_of_ble_eq_true rfl) (Nat.le_of_ble_eq_true rfl) (Nat.le_of_ble_eq_true rfl) (fun v σ1 nx1 hx1 hq1 => ?_)
  obtain ⟨rfl, S⟩ := hq1.badI (zkn_bad (Or.inr (Int32.le_refl _))) S
  replace hnx := Nat.le_trans hnx hx1
  refine z_bipush (v := (-30)) dL_areNodes_22 (by decide) ?_
  refine z_icmp_ne (tgt := 57) dL_areNodes_24 (by decide) (fun q_9 => absurd ((rfl)) q_9) (fun _ => ?_)
  refine z_aload_n dL_areNodes_27 rfl ?_
  refine z_iconst (v := 5) dL_areNodes_28 (by decide) ?_
  refine z_iconst (v := (-1)) dL_areNodes_29 (by decide) ?_
  refine z_iconst (v := 0) dL_areNodes_30 (by decide) ?_
  refine z_iconst (v := 0) dL_areNodes_31 (by decide) ?_
  refine z_callH dL_areNodes_32 ch_L_102 (w_asks_digest hG hnx S) rfl rfl ⟨(Nat.le_of_ble_eq_true rfl), (Nat.le_of_ble_eq_true rfl)⟩ (Nat.le_of_ble_eq_true rfl) (Nat.le_of_ble_eq_true rfl) (Nat.le_of_ble_eq_true rfl) (fun v σ1 nx1 hx1 hq1 => ?_)
  obtain ⟨rfl, S⟩ := hq1.badI (zkn_bad (Or.inl (by decide))) S
  replace hnx := Nat.le_trans hnx hx1
  refine z_bipush (v := (-30)) dL_areNodes_35 (by decide) ?_
  refine z_icmp_ne (tgt := 57) dL_areNodes_37 (by decide) (fun q_9 => absurd ((rfl)) q_9) (fun _ => ?_)
  refine z_aload_n dL_areNodes_40 rfl ?_
  refine z_aload dL_areNodes_41 rfl ?_
  refine z_iconst (v := 0) dL_areNodes_43 (by decide) ?_
  refine z_gr dL_areNodes_44 S (i := 0) (by decide) hg0 ?_
  refine z_callH dL_areNodes_45 ch_L_119 (w_broad_isBroad hG hnx S) rfl rfl ⟨(Nat.le_of_ble_eq_true rfl), (Nat.le_of_ble_eq_true rfl)⟩ (Nat.le_of_ble_eq_true rfl) (Nat.le_of_ble_eq_true rfl) (Nat.le_of_ble_eq_true rfl) (fun v σ1 nx1 hx1 hq1 => ?_)
  obtain ⟨rfl, S⟩ := (hq1.bad2 S).1 (by unfold zk_join5; rw [if_pos (znob_no (Or.inr (Int32.le_refl _)))])
  replace hnx := Nat.le_trans hnx hx1
  rw [zxc_I]
  refine z_bipush (v := (-30)) dL_areNodes_48 (by decide) ?_
  refine z_icmp_ne (tgt := 57) dL_areNodes_50 (by decide) (fun q_9 => absurd ((rfl)) q_9) (fun _ => ?_)
  refine z_iconst (v := 1) dL_areNodes_53 (by decide) ?_
  refine z_goto (tgt := 58) dL_areNodes_54 (by decide) ?_
  refine z_istore dL_areNodes_58 (by decide) ?_
  refine z_iconst (v := 0) dL_areNodes_60 (by decide) ?_
  refine z_istore dL_areNodes_61 (by decide) ?_
  refine z_iconst (v := 0) dL_areNodes_63 (by decide) ?_
  refine z_istore dL_areNodes_64 (by decide) ?_
  exact outer _ 0 _ _ _ _ _ _ (Nat.zero_add _) hnx (Nat.le_of_ble_eq_true rfl) (Nat.le_of_ble_eq_true rfl) S
end
