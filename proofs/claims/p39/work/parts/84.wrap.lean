/-! the law: its methods that catch -/
abbrev k0L_asks : zK := (RL, cL_asks, 6, ⟨9, 0, 0, 206⟩, (some .int), "asks", [(0, 168, 169, 34)])
abbrev k0L_broad : zK := (RL, cL_broad, 3, ⟨8, 0, 0, 176⟩, (some .int), "broad", [(0, 13, 14, 34), (0, 13, 18, 38)])
theorem cv0_L_85 : zLv RL 85 yX11_startOf k0X11_startOf 1 := cv_L_85
theorem cv0_L_156 : zLv RL 156 yX11_endOf k0X11_endOf 1 := cv_L_156
theorem cv0_L_159 : zLv RL 159 yX11_workerOf k0X11_workerOf 1 := cv_L_159
theorem cv0_L_162 : zLv RL 162 yX11_partitionOf k0X11_partitionOf 1 := cv_L_162
theorem cv0_L_82 : zLv RL 82 yX11_nodeOf k0X11_nodeOf 1 := cv_L_82
theorem cv0_L_58 : zLv RL 58 yX11_partitions k0X11_partitions 1 := cv_L_58
theorem cv0_L_165 : zLv RL 165 yX11_isCopy k0X11_isCopy 1 := cv_L_165
theorem cv0_L_76 : zLv RL 76 yX11_stages k0X11_stages 1 := cv_L_76
theorem cv0_L_88 : zLv RL 88 yX11_isCached k0X11_isCached 1 := cv_L_88
theorem cv0_L_64 : zLv RL 64 yX11_rows k0X11_rows 1 := cv_L_64
theorem cv0_L_79 : zLv RL 79 yX11_outputOf k0X11_outputOf 2 := cv_L_79
theorem cv0_L_61 : zLv RL 61 yX11_rowsIn k0X11_rowsIn 2 := cv_L_61
theorem cv0_L_67 : zLv RL 67 yX11_keyAt k0X11_keyAt 3 := cv_L_67
theorem cv0_L_70 : zLv RL 70 yX11_valueAt k0X11_valueAt 3 := cv_L_70
theorem cv0_L_73 : zLv RL 73 yX11_digest k0X11_digest 1 := cv_L_73
theorem cv0_L_92 : zLv RL 92 yX11_digestInPlace k0X11_digestInPlace 1 := cv_L_92
theorem cv0_L_95 : zLv RL 95 yX11_isBroad k0X11_isBroad 1 := cv_L_95
theorem ch0_L_102 : zLh RL 102 yL_asks k0L_asks 5 := ch_L_102
theorem ch0_L_119 : zLh RL 119 yL_broad k0L_broad 2 := ch_L_119
theorem zmk01 {nt : zNT} {lim mem wk r tk sp cs : Nat} {slow : Nat → Nat} {L : zNS} {A : List zAE} {x w : Int32} {u0 u' : zUv} (ok : zOk (nt, lim, mem, wk, slow, r, L, A, tk, sp, cs)) (hc : zk_node nt.length x = 0) (h : zPq u0 ((nt.getD x.toNatClampNeg zdf).2.2.1 11) u' w) : w = 0 ∨ w = 1 := by
  obtain ⟨-, -, h14, -, -, -, -, -, -, -, -, -, h01⟩ := ok
  obtain ⟨i, hi, rfl⟩ := zk_node_at (by omega) hc
  rw [h.2, nI_clamp (by omega)]
  exact h01 i _ (zget_of hi)
def zxc (E : String) : Int32 := if E = zEI then -30 else if E = zEA then -20 else -10
theorem zxc_I : zxc zEI = -30 := if_pos rfl
theorem zxc_A : zxc zEA = -20 := by decide
theorem zxc_S : zxc zES = -10 := by decide
/-- what a call of the law's methods answers that catch -/
def zW1 (G : zG) (σ σ' : zH) (b hi : Nat) (P : zUv → Int32 → Prop) (c : Nat) (u : zUv) (l : List (String × Nat)) (v : Option Value) : Prop := zA1 G σ σ' b hi P c v ∨ ∃ E, zA2 G σ σ' b hi u c E l ∧ v = some (.int (zxc E))
section
variable {G : zG} {σ : zH} {b nx : Nat} {R : Nat → Nat → Int32} {nt : zNT} {lim mem wk r tk sp cs : Nat} {slow : Nat → Nat} {L : zNS} {A : List zAE} {x y z : Int32}
set_option maxRecDepth 100000 in
set_option maxHeartbeats 1000000 in
theorem w_makes_source (hG : zKap G) (hnx : b + 82 ≤ nx) (S : zVs G σ b (nt, lim, mem, wk, slow, r, L, A, tk, sp, cs) R) : zMW G yL_makes kL_makes [.ref b, .int 0, .int x, .int y, .int z] σ nx (fun v σ' nx' => zW1 G σ σ' b (b + 82) (zPn nt lim mem wk slow r L A tk sp cs 0 (upd (upd (zD0 (-1) (-1) 12 x) 6 x) 12 (zLW nt b (-1) (-1)))) (zk_source nt.length x) (nt, lim, mem, wk, slow, r, L, A, tk, sp, cs) [(zEA, 1), (zES, 2)] v) := by
  refine zMW.of (ls := [some (.ref b), some (.int 0), some (.int x), some (.int y), some (.int z), none]) (by decide +kernel) ⟨rfl, rfl⟩ (Nat.le_of_ble_eq_true rfl) (fun _ h => h) ?_
  refine z_iload_n dL_makes_0 rfl ?_
  refine z_if_ne (tgt := 12) dL_makes_1 (by decide) (fun q => absurd ((by decide)) q) (fun _ => ?_)
  refine z_aload_n dL_makes_4 rfl ?_
  refine z_iload_n dL_makes_5 rfl ?_
  refine z_callVH dL_makes_6 cv_L_8 (a_source hG hnx S.2.1 S.tg) rfl S.c rfl rfl ⟨(Nat.le_of_ble_eq_true rfl), (Nat.le_of_ble_eq_true rfl)⟩ (Nat.le_of_ble_eq_true rfl) (Nat.le_of_ble_eq_true rfl) (Nat.le_of_ble_eq_true rfl) (fun E s1 n1 q hx1 hq1 => ?_) (fun v s1 n1 hx1 hq1 => ?_)
  · obtain ⟨h1, h2, hE⟩ := hq1
    have hE0 := hE
    simp only [List.mem_cons, List.mem_nil_iff, or_false, Prod.mk.injEq] at hE
    rcases hE with ⟨rfl, -⟩ | ⟨rfl, -⟩
    · refine ⟨104, hL_makes_6_2, ?_⟩
      refine z_astore dL_makes_104 (by decide) ?_
      refine z_bipush (v := (-20)) dL_makes_106 (by decide) ?_
      exact z_iret dL_makes_108 rfl (Nat.le_of_ble_eq_true rfl) (Nat.le_of_ble_eq_true rfl) (Or.inr ⟨_, ⟨h1, h2, hE0⟩, by rw [zxc_A]⟩)
    · refine ⟨109, hL_makes_6_3, ?_⟩
      refine z_astore dL_makes_109 (by decide) ?_
      refine z_bipush (v := (-10)) dL_makes_111 (by decide) ?_
      exact z_iret dL_makes_113 rfl (Nat.le_of_ble_eq_true rfl) (Nat.le_of_ble_eq_true rfl) (Or.inr ⟨_, ⟨h1, h2, hE0⟩, by rw [zxc_S]⟩)
  · have hq0 := hq1
    obtain ⟨hc, u', w, rfl, hP, h1, h2⟩ := hq1
    refine z_goto (tgt := 98) dL_makes_9 (by decide) ?_
    exact z_iret dL_makes_98 rfl (Nat.le_of_ble_eq_true rfl) (Nat.le_of_ble_eq_true rfl) (Or.inl hq0)
set_option maxRecDepth 100000 in
set_option maxHeartbeats 1000000 in
theorem w_makes_map (hG : zKap G) (hnx : b + 82 ≤ nx) (S : zVs G σ b (nt, lim, mem, wk, slow, r, L, A, tk, sp, cs) R) : zMW G yL_makes kL_makes [.ref b, .int 1, .int x, .int y, .int z] σ nx (fun v σ' nx' => zW1 G σ σ' b (b + 82) (zPn nt lim mem wk slow r L A tk sp cs 1 (upd (upd (upd (zD0 x (-1) ((nt.getD x.toNatClampNeg zdf).2.2.1 3) ((nt.getD x.toNatClampNeg zdf).2.2.1 4)) 7 y) 8 z) 12 (zLW nt b x (-1)))) (zk_map nt.length x y z) (nt, lim, mem, wk, slow, r, L, A, tk, sp, cs) [(zEI, 1), (zEA, 2), (zES, 3)] v) := by
  refine zMW.of (ls := [some (.ref b), some (.int 1), some (.int x), some (.int y), some (.int z), none]) (by decide +kernel) ⟨rfl, rfl⟩ (Nat.le_of_ble_eq_true rfl) (fun _ h => h) ?_
  refine z_iload_n dL_makes_0 rfl ?_
  refine z_if_ne (tgt := 12) dL_makes_1 (by decide) (fun _ => ?_) (fun q => absurd q ((by decide)))
  refine z_iload_n dL_makes_12 rfl ?_
  refine z_iconst (v := 1) dL_makes_13 (by decide) ?_
  refine z_icmp_ne (tgt := 28) dL_makes_14 (by decide) (fun q => absurd ((by decide)) q) (fun _ => ?_)
  refine z_aload_n dL_makes_17 rfl ?_
  refine z_iload_n dL_makes_18 rfl ?_
  refine z_iload_n dL_makes_19 rfl ?_
  refine z_iload dL_makes_20 rfl ?_
  refine z_callVH dL_makes_22 cv_L_14 (a_map hG hnx S.2.1 S.tg) rfl S.c rfl rfl ⟨(Nat.le_of_ble_eq_true rfl), (Nat.le_of_ble_eq_true rfl)⟩ (Nat.le_of_ble_eq_true rfl) (Nat.le_of_ble_eq_true rfl) (Nat.le_of_ble_eq_true rfl) (fun E s1 n1 q hx1 hq1 => ?_) (fun v s1 n1 hx1 hq1 => ?_)
  · obtain ⟨h1, h2, hE⟩ := hq1
    have hE0 := hE
    simp only [List.mem_cons, List.mem_nil_iff, or_false, Prod.mk.injEq] at hE
    rcases hE with ⟨rfl, -⟩ | ⟨rfl, -⟩ | ⟨rfl, -⟩
    · refine ⟨99, hL_makes_22_1, ?_⟩
      refine z_astore dL_makes_99 (by decide) ?_
      refine z_bipush (v := (-30)) dL_makes_101 (by decide) ?_
      exact z_iret dL_makes_103 rfl (Nat.le_of_ble_eq_true rfl) (Nat.le_of_ble_eq_true rfl) (Or.inr ⟨_, ⟨h1, h2, hE0⟩, by rw [zxc_I]⟩)
    · refine ⟨104, hL_makes_22_2, ?_⟩
      refine z_astore dL_makes_104 (by decide) ?_
      refine z_bipush (v := (-20)) dL_makes_106 (by decide) ?_
      exact z_iret dL_makes_108 rfl (Nat.le_of_ble_eq_true rfl) (Nat.le_of_ble_eq_true rfl) (Or.inr ⟨_, ⟨h1, h2, hE0⟩, by rw [zxc_A]⟩)
    · refine ⟨109, hL_makes_22_3, ?_⟩
      refine z_astore dL_makes_109 (by decide) ?_
      refine z_bipush (v := (-10)) dL_makes_111 (by decide) ?_
      exact z_iret dL_makes_113 rfl (Nat.le_of_ble_eq_true rfl) (Nat.le_of_ble_eq_true rfl) (Or.inr ⟨_, ⟨h1, h2, hE0⟩, by rw [zxc_S]⟩)
  · have hq0 := hq1
    obtain ⟨hc, u', w, rfl, hP, h1, h2⟩ := hq1
    refine z_goto (tgt := 98) dL_makes_25 (by decide) ?_
    exact z_iret dL_makes_98 rfl (Nat.le_of_ble_eq_true rfl) (Nat.le_of_ble_eq_true rfl) (Or.inl hq0)
set_option maxRecDepth 100000 in
set_option maxHeartbeats 1000000 in
theorem w_makes_filter (hG : zKap G) (hnx : b + 82 ≤ nx) (S : zVs G σ b (nt, lim, mem, wk, slow, r, L, A, tk, sp, cs) R) : zMW G yL_makes kL_makes [.ref b, .int 2, .int x, .int y, .int z] σ nx (fun v σ' nx' => zW1 G σ σ' b (b + 82) (zPn nt lim mem wk slow r L A tk sp cs 2 (upd (upd (upd (zD0 x (-1) ((nt.getD x.toNatClampNeg zdf).2.2.1 3) ((nt.getD x.toNatClampNeg zdf).2.2.1 4)) 9 y) 10 z) 12 (zLW nt b x (-1)))) (zk_filter nt.length x) (nt, lim, mem, wk, slow, r, L, A, tk, sp, cs) [(zEI, 1), (zES, 2)] v) := by
  refine zMW.of (ls := [some (.ref b), some (.int 2), some (.int x), some (.int y), some (.int z), none]) (by decide +kernel) ⟨rfl, rfl⟩ (Nat.le_of_ble_eq_true rfl) (fun _ h => h) ?_
  refine z_iload_n dL_makes_0 rfl ?_
  refine z_if_ne (tgt := 12) dL_makes_1 (by decide) (fun _ => ?_) (fun q => absurd q ((by decide)))
  refine z_iload_n dL_makes_12 rfl ?_
  refine z_iconst (v := 1) dL_makes_13 (by decide) ?_
  refine z_icmp_ne (tgt := 28) dL_makes_14 (by decide) (fun _ => ?_) (fun q => absurd q ((by decide)))
  refine z_iload_n dL_makes_28 rfl ?_
  refine z_iconst (v := 2) dL_makes_29 (by decide) ?_
  refine z_icmp_ne (tgt := 44) dL_makes_30 (by decide) (fun q => absurd ((by decide)) q) (fun _ => ?_)
  refine z_aload_n dL_makes_33 rfl ?_
  refine z_iload_n dL_makes_34 rfl ?_
  refine z_iload_n dL_makes_35 rfl ?_
  refine z_iload dL_makes_36 rfl ?_
  refine z_callVH dL_makes_38 cv_L_18 (a_filter hG hnx S.2.1 S.tg) rfl S.c rfl rfl ⟨(Nat.le_of_ble_eq_true rfl), (Nat.le_of_ble_eq_true rfl)⟩ (Nat.le_of_ble_eq_true rfl) (Nat.le_of_ble_eq_true rfl) (Nat.le_of_ble_eq_true rfl) (fun E s1 n1 q hx1 hq1 => ?_) (fun v s1 n1 hx1 hq1 => ?_)
  · obtain ⟨h1, h2, hE⟩ := hq1
    have hE0 := hE
    simp only [List.mem_cons, List.mem_nil_iff, or_false, Prod.mk.injEq] at hE
    rcases hE with ⟨rfl, -⟩ | ⟨rfl, -⟩
    · refine ⟨99, hL_makes_38_1, ?_⟩
      refine z_astore dL_makes_99 (by decide) ?_
      refine z_bipush (v := (-30)) dL_makes_101 (by decide) ?_
      exact z_iret dL_makes_103 rfl (Nat.le_of_ble_eq_true rfl) (Nat.le_of_ble_eq_true rfl) (Or.inr ⟨_, ⟨h1, h2, hE0⟩, by rw [zxc_I]⟩)
    · refine ⟨109, hL_makes_38_3, ?_⟩
      refine z_astore dL_makes_109 (by decide) ?_
      refine z_bipush (v := (-10)) dL_makes_111 (by decide) ?_
      exact z_iret dL_makes_113 rfl (Nat.le_of_ble_eq_true rfl) (Nat.le_of_ble_eq_true rfl) (Or.inr ⟨_, ⟨h1, h2, hE0⟩, by rw [zxc_S]⟩)
  · have hq0 := hq1
    obtain ⟨hc, u', w, rfl, hP, h1, h2⟩ := hq1
    refine z_goto (tgt := 98) dL_makes_41 (by decide) ?_
    exact z_iret dL_makes_98 rfl (Nat.le_of_ble_eq_true rfl) (Nat.le_of_ble_eq_true rfl) (Or.inl hq0)
set_option maxRecDepth 100000 in
set_option maxHeartbeats 1000000 in
theorem w_makes_union (hG : zKap G) (hnx : b + 82 ≤ nx) (S : zVs G σ b (nt, lim, mem, wk, slow, r, L, A, tk, sp, cs) R) : zMW G yL_makes kL_makes [.ref b, .int 3, .int x, .int y, .int z] σ nx (fun v σ' nx' => zW1 G σ σ' b (b + 82) (zPn nt lim mem wk slow r L A tk sp cs 3 (upd (zD0 x y ((nt.getD x.toNatClampNeg zdf).2.2.1 3 + (nt.getD y.toNatClampNeg zdf).2.2.1 3) ((nt.getD x.toNatClampNeg zdf).2.2.1 4 + (nt.getD y.toNatClampNeg zdf).2.2.1 4)) 12 (zLW nt b x y))) (zk_union nt x y) (nt, lim, mem, wk, slow, r, L, A, tk, sp, cs) [(zEI, 1), (zES, 2)] v) := by
  refine zMW.of (ls := [some (.ref b), some (.int 3), some (.int x), some (.int y), some (.int z), none]) (by decide +kernel) ⟨rfl, rfl⟩ (Nat.le_of_ble_eq_true rfl) (fun _ h => h) ?_
  refine z_iload_n dL_makes_0 rfl ?_
  refine z_if_ne (tgt := 12) dL_makes_1 (by decide) (fun _ => ?_) (fun q => absurd q ((by decide)))
  refine z_iload_n dL_makes_12 rfl ?_
  refine z_iconst (v := 1) dL_makes_13 (by decide) ?_
  refine z_icmp_ne (tgt := 28) dL_makes_14 (by decide) (fun _ => ?_) (fun q => absurd q ((by decide)))
  refine z_iload_n dL_makes_28 rfl ?_
  refine z_iconst (v := 2) dL_makes_29 (by decide) ?_
  refine z_icmp_ne (tgt := 44) dL_makes_30 (by decide) (fun _ => ?_) (fun q => absurd q ((by decide)))
  refine z_iload_n dL_makes_44 rfl ?_
  refine z_iconst (v := 3) dL_makes_45 (by decide) ?_
  refine z_icmp_ne (tgt := 58) dL_makes_46 (by decide) (fun q => absurd ((by decide)) q) (fun _ => ?_)
  refine z_aload_n dL_makes_49 rfl ?_
  refine z_iload_n dL_makes_50 rfl ?_
  refine z_iload_n dL_makes_51 rfl ?_
  refine z_callVH dL_makes_52 cv_L_21 (a_union hG hnx S.2.1 S.tg) rfl S.c rfl rfl ⟨(Nat.le_of_ble_eq_true rfl), (Nat.le_of_ble_eq_true rfl)⟩ (Nat.le_of_ble_eq_true rfl) (Nat.le_of_ble_eq_true rfl) (Nat.le_of_ble_eq_true rfl) (fun E s1 n1 q hx1 hq1 => ?_) (fun v s1 n1 hx1 hq1 => ?_)
  · obtain ⟨h1, h2, hE⟩ := hq1
    have hE0 := hE
    simp only [List.mem_cons, List.mem_nil_iff, or_false, Prod.mk.injEq] at hE
    rcases hE with ⟨rfl, -⟩ | ⟨rfl, -⟩
    · refine ⟨99, hL_makes_52_1, ?_⟩
      refine z_astore dL_makes_99 (by decide) ?_
      refine z_bipush (v := (-30)) dL_makes_101 (by decide) ?_
      exact z_iret dL_makes_103 rfl (Nat.le_of_ble_eq_true rfl) (Nat.le_of_ble_eq_true rfl) (Or.inr ⟨_, ⟨h1, h2, hE0⟩, by rw [zxc_I]⟩)
    · refine ⟨109, hL_makes_52_3, ?_⟩
      refine z_astore dL_makes_109 (by decide) ?_
      refine z_bipush (v := (-10)) dL_makes_111 (by decide) ?_
      exact z_iret dL_makes_113 rfl (Nat.le_of_ble_eq_true rfl) (Nat.le_of_ble_eq_true rfl) (Or.inr ⟨_, ⟨h1, h2, hE0⟩, by rw [zxc_S]⟩)
  · have hq0 := hq1
    obtain ⟨hc, u', w, rfl, hP, h1, h2⟩ := hq1
    refine z_goto (tgt := 98) dL_makes_55 (by decide) ?_
    exact z_iret dL_makes_98 rfl (Nat.le_of_ble_eq_true rfl) (Nat.le_of_ble_eq_true rfl) (Or.inl hq0)
set_option maxRecDepth 100000 in
set_option maxHeartbeats 1000000 in
theorem w_makes_group (hG : zKap G) (hnx : b + 82 ≤ nx) (S : zVs G σ b (nt, lim, mem, wk, slow, r, L, A, tk, sp, cs) R) : zMW G yL_makes kL_makes [.ref b, .int 4, .int x, .int y, .int z] σ nx (fun v σ' nx' => zW1 G σ σ' b (b + 82) (zPn nt lim mem wk slow r L A tk sp cs 4 (upd (upd (upd (zD0 x (-1) ((nt.getD x.toNatClampNeg zdf).2.2.1 3) z) 7 y) 6 z) 12 (zLW nt b x (-1)))) (zk_group nt.length x y z) (nt, lim, mem, wk, slow, r, L, A, tk, sp, cs) [(zEI, 1), (zEA, 2), (zES, 3)] v) := by
  refine zMW.of (ls := [some (.ref b), some (.int 4), some (.int x), some (.int y), some (.int z), none]) (by decide +kernel) ⟨rfl, rfl⟩ (Nat.le_of_ble_eq_true rfl) (fun _ h => h) ?_
  refine z_iload_n dL_makes_0 rfl ?_
  refine z_if_ne (tgt := 12) dL_makes_1 (by decide) (fun _ => ?_) (fun q => absurd q ((by decide)))
  refine z_iload_n dL_makes_12 rfl ?_
  refine z_iconst (v := 1) dL_makes_13 (by decide) ?_
  refine z_icmp_ne (tgt := 28) dL_makes_14 (by decide) (fun _ => ?_) (fun q => absurd q ((by decide)))
  refine z_iload_n dL_makes_28 rfl ?_
  refine z_iconst (v := 2) dL_makes_29 (by decide) ?_
  refine z_icmp_ne (tgt := 44) dL_makes_30 (by decide) (fun _ => ?_) (fun q => absurd q ((by decide)))
  refine z_iload_n dL_makes_44 rfl ?_
  refine z_iconst (v := 3) dL_makes_45 (by decide) ?_
  refine z_icmp_ne (tgt := 58) dL_makes_46 (by decide) (fun _ => ?_) (fun q => absurd q ((by decide)))
  refine z_iload_n dL_makes_58 rfl ?_
  refine z_iconst (v := 4) dL_makes_59 (by decide) ?_
  refine z_icmp_ne (tgt := 74) dL_makes_60 (by decide) (fun q => absurd ((by decide)) q) (fun _ => ?_)
  refine z_aload_n dL_makes_63 rfl ?_
  refine z_iload_n dL_makes_64 rfl ?_
  refine z_iload_n dL_makes_65 rfl ?_
  refine z_iload dL_makes_66 rfl ?_
  refine z_callVH dL_makes_68 cv_L_25 (a_group hG hnx S.2.1 S.tg) rfl S.c rfl rfl ⟨(Nat.le_of_ble_eq_true rfl), (Nat.le_of_ble_eq_true rfl)⟩ (Nat.le_of_ble_eq_true rfl) (Nat.le_of_ble_eq_true rfl) (Nat.le_of_ble_eq_true rfl) (fun E s1 n1 q hx1 hq1 => ?_) (fun v s1 n1 hx1 hq1 => ?_)
  · obtain ⟨h1, h2, hE⟩ := hq1
    have hE0 := hE
    simp only [List.mem_cons, List.mem_nil_iff, or_false, Prod.mk.injEq] at hE
    rcases hE with ⟨rfl, -⟩ | ⟨rfl, -⟩ | ⟨rfl, -⟩
    · refine ⟨99, hL_makes_68_1, ?_⟩
      refine z_astore dL_makes_99 (by decide) ?_
      refine z_bipush (v := (-30)) dL_makes_101 (by decide) ?_
      exact z_iret dL_makes_103 rfl (Nat.le_of_ble_eq_true rfl) (Nat.le_of_ble_eq_true rfl) (Or.inr ⟨_, ⟨h1, h2, hE0⟩, by rw [zxc_I]⟩)
    · refine ⟨104, hL_makes_68_2, ?_⟩
      refine z_astore dL_makes_104 (by decide) ?_
      refine z_bipush (v := (-20)) dL_makes_106 (by decide) ?_
      exact z_iret dL_makes_108 rfl (Nat.le_of_ble_eq_true rfl) (Nat.le_of_ble_eq_true rfl) (Or.inr ⟨_, ⟨h1, h2, hE0⟩, by rw [zxc_A]⟩)
    · refine ⟨109, hL_makes_68_3, ?_⟩
      refine z_astore dL_makes_109 (by decide) ?_
      refine z_bipush (v := (-10)) dL_makes_111 (by decide) ?_
      exact z_iret dL_makes_113 rfl (Nat.le_of_ble_eq_true rfl) (Nat.le_of_ble_eq_true rfl) (Or.inr ⟨_, ⟨h1, h2, hE0⟩, by rw [zxc_S]⟩)
  · have hq0 := hq1
    obtain ⟨hc, u', w, rfl, hP, h1, h2⟩ := hq1
    refine z_goto (tgt := 98) dL_makes_71 (by decide) ?_
    exact z_iret dL_makes_98 rfl (Nat.le_of_ble_eq_true rfl) (Nat.le_of_ble_eq_true rfl) (Or.inl hq0)
set_option maxRecDepth 100000 in
set_option maxHeartbeats 1000000 in
theorem w_makes_join (hG : zKap G) (hnx : b + 82 ≤ nx) (S : zVs G σ b (nt, lim, mem, wk, slow, r, L, A, tk, sp, cs) R) : zMW G yL_makes kL_makes [.ref b, .int 5, .int x, .int y, .int z] σ nx (fun v σ' nx' => zW1 G σ σ' b (b + 82) (zPn nt lim mem wk slow r L A tk sp cs 5 (upd (upd (zD0 x y ((nt.getD x.toNatClampNeg zdf).2.2.1 3 * (nt.getD y.toNatClampNeg zdf).2.2.1 3) (if z < (nt.getD x.toNatClampNeg zdf).2.2.1 4 then (nt.getD x.toNatClampNeg zdf).2.2.1 4 else z)) 6 z) 12 (zLW nt b x y))) (zk_join nt x y z) (nt, lim, mem, wk, slow, r, L, A, tk, sp, cs) [(zEI, 1), (zEA, 2), (zES, 3)] v) := by
  refine zMW.of (ls := [some (.ref b), some (.int 5), some (.int x), some (.int y), some (.int z), none]) (by decide +kernel) ⟨rfl, rfl⟩ (Nat.le_of_ble_eq_true rfl) (fun _ h => h) ?_
  refine z_iload_n dL_makes_0 rfl ?_
  refine z_if_ne (tgt := 12) dL_makes_1 (by decide) (fun _ => ?_) (fun q => absurd q ((by decide)))
  refine z_iload_n dL_makes_12 rfl ?_
  refine z_iconst (v := 1) dL_makes_13 (by decide) ?_
  refine z_icmp_ne (tgt := 28) dL_makes_14 (by decide) (fun _ => ?_) (fun q => absurd q ((by decide)))
  refine z_iload_n dL_makes_28 rfl ?_
  refine z_iconst (v := 2) dL_makes_29 (by decide) ?_
  refine z_icmp_ne (tgt := 44) dL_makes_30 (by decide) (fun _ => ?_) (fun q => absurd q ((by decide)))
  refine z_iload_n dL_makes_44 rfl ?_
  refine z_iconst (v := 3) dL_makes_45 (by decide) ?_
  refine z_icmp_ne (tgt := 58) dL_makes_46 (by decide) (fun _ => ?_) (fun q => absurd q ((by decide)))
  refine z_iload_n dL_makes_58 rfl ?_
  refine z_iconst (v := 4) dL_makes_59 (by decide) ?_
  refine z_icmp_ne (tgt := 74) dL_makes_60 (by decide) (fun _ => ?_) (fun q => absurd q ((by decide)))
  refine z_iload_n dL_makes_74 rfl ?_
  refine z_iconst (v := 5) dL_makes_75 (by decide) ?_
  refine z_icmp_ne (tgt := 90) dL_makes_76 (by decide) (fun q => absurd ((by decide)) q) (fun _ => ?_)
  refine z_aload_n dL_makes_79 rfl ?_
  refine z_iload_n dL_makes_80 rfl ?_
  refine z_iload_n dL_makes_81 rfl ?_
  refine z_iload dL_makes_82 rfl ?_
  refine z_callVH dL_makes_84 cv_L_28 (a_join hG hnx S.2.1 S.tg) rfl S.c rfl rfl ⟨(Nat.le_of_ble_eq_true rfl), (Nat.le_of_ble_eq_true rfl)⟩ (Nat.le_of_ble_eq_true rfl) (Nat.le_of_ble_eq_true rfl) (Nat.le_of_ble_eq_true rfl) (fun E s1 n1 q hx1 hq1 => ?_) (fun v s1 n1 hx1 hq1 => ?_)
  · obtain ⟨h1, h2, hE⟩ := hq1
    have hE0 := hE
    simp only [List.mem_cons, List.mem_nil_iff, or_false, Prod.mk.injEq] at hE
    rcases hE with ⟨rfl, -⟩ | ⟨rfl, -⟩ | ⟨rfl, -⟩
    · refine ⟨99, hL_makes_84_1, ?_⟩
      refine z_astore dL_makes_99 (by decide) ?_
      refine z_bipush (v := (-30)) dL_makes_101 (by decide) ?_
      exact z_iret dL_makes_103 rfl (Nat.le_of_ble_eq_true rfl) (Nat.le_of_ble_eq_true rfl) (Or.inr ⟨_, ⟨h1, h2, hE0⟩, by rw [zxc_I]⟩)
    · refine ⟨104, hL_makes_84_2, ?_⟩
      refine z_astore dL_makes_104 (by decide) ?_
      refine z_bipush (v := (-20)) dL_makes_106 (by decide) ?_
      exact z_iret dL_makes_108 rfl (Nat.le_of_ble_eq_true rfl) (Nat.le_of_ble_eq_true rfl) (Or.inr ⟨_, ⟨h1, h2, hE0⟩, by rw [zxc_A]⟩)
    · refine ⟨109, hL_makes_84_3, ?_⟩
      refine z_astore dL_makes_109 (by decide) ?_
      refine z_bipush (v := (-10)) dL_makes_111 (by decide) ?_
      exact z_iret dL_makes_113 rfl (Nat.le_of_ble_eq_true rfl) (Nat.le_of_ble_eq_true rfl) (Or.inr ⟨_, ⟨h1, h2, hE0⟩, by rw [zxc_S]⟩)
  · have hq0 := hq1
    obtain ⟨hc, u', w, rfl, hP, h1, h2⟩ := hq1
    refine z_goto (tgt := 98) dL_makes_87 (by decide) ?_
    exact z_iret dL_makes_98 rfl (Nat.le_of_ble_eq_true rfl) (Nat.le_of_ble_eq_true rfl) (Or.inl hq0)
set_option maxRecDepth 100000 in
set_option maxHeartbeats 1000000 in
theorem w_makes_put (hG : zKap G) (hnx : b + 82 ≤ nx) (S : zVs G σ b (nt, lim, mem, wk, slow, r, L, A, tk, sp, cs) R) : zMW G yL_makes kL_makes [.ref b, .int 6, .int x, .int y, .int z] σ nx (fun v σ' nx' => zW1 G σ σ' b (b + 82) (zPq (zput nt x.toNatClampNeg (y, z), lim, mem, wk, slow, r, [], A, tk, sp, cs) (nI ((nt.getD x.toNatClampNeg zdf).2.2.2.length + 1))) (zk_put nt x) (nt, lim, mem, wk, slow, r, L, A, tk, sp, cs) [(zEI, 1), (zES, 2)] v) := by
  refine zMW.of (ls := [some (.ref b), some (.int 6), some (.int x), some (.int y), some (.int z), none]) (by decide +kernel) ⟨rfl, rfl⟩ (Nat.le_of_ble_eq_true rfl) (fun _ h => h) ?_
  refine z_iload_n dL_makes_0 rfl ?_
  refine z_if_ne (tgt := 12) dL_makes_1 (by decide) (fun _ => ?_) (fun q => absurd q ((by decide)))
  refine z_iload_n dL_makes_12 rfl ?_
  refine z_iconst (v := 1) dL_makes_13 (by decide) ?_
  refine z_icmp_ne (tgt := 28) dL_makes_14 (by decide) (fun _ => ?_) (fun q => absurd q ((by decide)))
  refine z_iload_n dL_makes_28 rfl ?_
  refine z_iconst (v := 2) dL_makes_29 (by decide) ?_
  refine z_icmp_ne (tgt := 44) dL_makes_30 (by decide) (fun _ => ?_) (fun q => absurd q ((by decide)))
  refine z_iload_n dL_makes_44 rfl ?_
  refine z_iconst (v := 3) dL_makes_45 (by decide) ?_
  refine z_icmp_ne (tgt := 58) dL_makes_46 (by decide) (fun _ => ?_) (fun q => absurd q ((by decide)))
  refine z_iload_n dL_makes_58 rfl ?_
  refine z_iconst (v := 4) dL_makes_59 (by decide) ?_
  refine z_icmp_ne (tgt := 74) dL_makes_60 (by decide) (fun _ => ?_) (fun q => absurd q ((by decide)))
  refine z_iload_n dL_makes_74 rfl ?_
  refine z_iconst (v := 5) dL_makes_75 (by decide) ?_
  refine z_icmp_ne (tgt := 90) dL_makes_76 (by decide) (fun _ => ?_) (fun q => absurd q ((by decide)))
  refine z_aload_n dL_makes_90 rfl ?_
  refine z_iload_n dL_makes_91 rfl ?_
  refine z_iload_n dL_makes_92 rfl ?_
  refine z_iload dL_makes_93 rfl ?_
  refine z_callVH dL_makes_95 cv_L_31 (a_put hG hnx S.2.1 S.tg) rfl S.c rfl rfl ⟨(Nat.le_of_ble_eq_true rfl), (Nat.le_of_ble_eq_true rfl)⟩ (Nat.le_of_ble_eq_true rfl) (Nat.le_of_ble_eq_true rfl) (Nat.le_of_ble_eq_true rfl) (fun E s1 n1 q hx1 hq1 => ?_) (fun v s1 n1 hx1 hq1 => ?_)
  · obtain ⟨h1, h2, hE⟩ := hq1
    have hE0 := hE
    simp only [List.mem_cons, List.mem_nil_iff, or_false, Prod.mk.injEq] at hE
    rcases hE with ⟨rfl, -⟩ | ⟨rfl, -⟩
    · refine ⟨99, hL_makes_95_1, ?_⟩
      refine z_astore dL_makes_99 (by decide) ?_
      refine z_bipush (v := (-30)) dL_makes_101 (by decide) ?_
      exact z_iret dL_makes_103 rfl (Nat.le_of_ble_eq_true rfl) (Nat.le_of_ble_eq_true rfl) (Or.inr ⟨_, ⟨h1, h2, hE0⟩, by rw [zxc_I]⟩)
    · refine ⟨109, hL_makes_95_3, ?_⟩
      refine z_astore dL_makes_109 (by decide) ?_
      refine z_bipush (v := (-10)) dL_makes_111 (by decide) ?_
      exact z_iret dL_makes_113 rfl (Nat.le_of_ble_eq_true rfl) (Nat.le_of_ble_eq_true rfl) (Or.inr ⟨_, ⟨h1, h2, hE0⟩, by rw [zxc_S]⟩)
  · have hq0 := hq1
    obtain ⟨hc, u', w, rfl, hP, h1, h2⟩ := hq1
    exact z_iret dL_makes_98 rfl (Nat.le_of_ble_eq_true rfl) (Nat.le_of_ble_eq_true rfl) (Or.inl hq0)
set_option maxRecDepth 100000 in
set_option maxHeartbeats 1000000 in
theorem w_sets_setWorkers (hG : zKap G) (hnx : b + 82 ≤ nx) (S : zVs G σ b (nt, lim, mem, wk, slow, r, L, A, tk, sp, cs) R) : zMW G yL_sets kL_sets [.ref b, .int 0, .int x, .int y] σ nx (fun v σ' nx' => zW1 G σ σ' b (b + 82) (zPq (nt, lim, mem, x.toNatClampNeg, slow, r, L, A, tk, sp, cs) (nI wk)) (zk_work x) (nt, lim, mem, wk, slow, r, L, A, tk, sp, cs) [(zEA, 1)] v) := by
  refine zMW.of (ls := [some (.ref b), some (.int 0), some (.int x), some (.int y), none]) (by decide +kernel) ⟨rfl, rfl⟩ (Nat.le_of_ble_eq_true rfl) (fun _ h => h) ?_
  refine z_iload_n dL_sets_0 rfl ?_
  refine z_if_ne (tgt := 12) dL_sets_1 (by decide) (fun q => absurd ((by decide)) q) (fun _ => ?_)
  refine z_aload_n dL_sets_4 rfl ?_
  refine z_iload_n dL_sets_5 rfl ?_
  refine z_callVH dL_sets_6 cv_L_40 (a_setWorkers hG hnx S.2.1 S.tg) rfl S.c rfl rfl ⟨(Nat.le_of_ble_eq_true rfl), (Nat.le_of_ble_eq_true rfl)⟩ (Nat.le_of_ble_eq_true rfl) (Nat.le_of_ble_eq_true rfl) (Nat.le_of_ble_eq_true rfl) (fun E s1 n1 q hx1 hq1 => ?_) (fun v s1 n1 hx1 hq1 => ?_)
  · obtain ⟨h1, h2, hE⟩ := hq1
    have hE0 := hE
    simp only [List.mem_cons, List.mem_nil_iff, or_false, Prod.mk.injEq] at hE
    rcases hE with ⟨rfl, -⟩
    · refine ⟨76, hL_sets_6_2, ?_⟩
      refine z_astore dL_sets_76 (by decide) ?_
      refine z_bipush (v := (-20)) dL_sets_78 (by decide) ?_
      exact z_iret dL_sets_80 rfl (Nat.le_of_ble_eq_true rfl) (Nat.le_of_ble_eq_true rfl) (Or.inr ⟨_, ⟨h1, h2, hE0⟩, by rw [zxc_A]⟩)
  · have hq0 := hq1
    obtain ⟨hc, u', w, rfl, hP, h1, h2⟩ := hq1
    refine z_goto (tgt := 70) dL_sets_9 (by decide) ?_
    exact z_iret dL_sets_70 rfl (Nat.le_of_ble_eq_true rfl) (Nat.le_of_ble_eq_true rfl) (Or.inl hq0)
set_option maxRecDepth 100000 in
set_option maxHeartbeats 1000000 in
theorem w_sets_setSlowness (hG : zKap G) (hnx : b + 82 ≤ nx) (S : zVs G σ b (nt, lim, mem, wk, slow, r, L, A, tk, sp, cs) R) : zMW G yL_sets kL_sets [.ref b, .int 1, .int x, .int y] σ nx (fun v σ' nx' => zW1 G σ σ' b (b + 82) (zPq (nt, lim, mem, wk, zun slow x.toNatClampNeg y.toNatClampNeg, r, L, A, tk, sp, cs) (nI (slow x.toNatClampNeg))) (zk_slow x y) (nt, lim, mem, wk, slow, r, L, A, tk, sp, cs) [(zEI, 1), (zEA, 2)] v) := by
  refine zMW.of (ls := [some (.ref b), some (.int 1), some (.int x), some (.int y), none]) (by decide +kernel) ⟨rfl, rfl⟩ (Nat.le_of_ble_eq_true rfl) (fun _ h => h) ?_
  refine z_iload_n dL_sets_0 rfl ?_
  refine z_if_ne (tgt := 12) dL_sets_1 (by decide) (fun _ => ?_) (fun q => absurd q ((by decide)))
  refine z_iload_n dL_sets_12 rfl ?_
  refine z_iconst (v := 1) dL_sets_13 (by decide) ?_
  refine z_icmp_ne (tgt := 26) dL_sets_14 (by decide) (fun q => absurd ((by decide)) q) (fun _ => ?_)
  refine z_aload_n dL_sets_17 rfl ?_
  refine z_iload_n dL_sets_18 rfl ?_
  refine z_iload_n dL_sets_19 rfl ?_
  refine z_callVH dL_sets_20 cv_L_43 (a_setSlowness hG hnx S.2.1 S.tg) rfl S.c rfl rfl ⟨(Nat.le_of_ble_eq_true rfl), (Nat.le_of_ble_eq_true rfl)⟩ (Nat.le_of_ble_eq_true rfl) (Nat.le_of_ble_eq_true rfl) (Nat.le_of_ble_eq_true rfl) (fun E s1 n1 q hx1 hq1 => ?_) (fun v s1 n1 hx1 hq1 => ?_)
  · obtain ⟨h1, h2, hE⟩ := hq1
    have hE0 := hE
    simp only [List.mem_cons, List.mem_nil_iff, or_false, Prod.mk.injEq] at hE
    rcases hE with ⟨rfl, -⟩ | ⟨rfl, -⟩
    · refine ⟨71, hL_sets_20_1, ?_⟩
      refine z_astore dL_sets_71 (by decide) ?_
      refine z_bipush (v := (-30)) dL_sets_73 (by decide) ?_
      exact z_iret dL_sets_75 rfl (Nat.le_of_ble_eq_true rfl) (Nat.le_of_ble_eq_true rfl) (Or.inr ⟨_, ⟨h1, h2, hE0⟩, by rw [zxc_I]⟩)
    · refine ⟨76, hL_sets_20_2, ?_⟩
      refine z_astore dL_sets_76 (by decide) ?_
      refine z_bipush (v := (-20)) dL_sets_78 (by decide) ?_
      exact z_iret dL_sets_80 rfl (Nat.le_of_ble_eq_true rfl) (Nat.le_of_ble_eq_true rfl) (Or.inr ⟨_, ⟨h1, h2, hE0⟩, by rw [zxc_A]⟩)
  · have hq0 := hq1
    obtain ⟨hc, u', w, rfl, hP, h1, h2⟩ := hq1
    refine z_goto (tgt := 70) dL_sets_23 (by decide) ?_
    exact z_iret dL_sets_70 rfl (Nat.le_of_ble_eq_true rfl) (Nat.le_of_ble_eq_true rfl) (Or.inl hq0)
set_option maxRecDepth 100000 in
set_option maxHeartbeats 1000000 in
theorem w_sets_setMemory (hG : zKap G) (hnx : b + 82 ≤ nx) (S : zVs G σ b (nt, lim, mem, wk, slow, r, L, A, tk, sp, cs) R) : zMW G yL_sets kL_sets [.ref b, .int 2, .int x, .int y] σ nx (fun v σ' nx' => zW1 G σ σ' b (b + 82) (zPq (nt, lim, x.toNatClampNeg, wk, slow, r, L, A, tk, sp, cs) (nI mem)) (zk_1000 x) (nt, lim, mem, wk, slow, r, L, A, tk, sp, cs) [(zEA, 1)] v) := by
  refine zMW.of (ls := [some (.ref b), some (.int 2), some (.int x), some (.int y), none]) (by decide +kernel) ⟨rfl, rfl⟩ (Nat.le_of_ble_eq_true rfl) (fun _ h => h) ?_
  refine z_iload_n dL_sets_0 rfl ?_
  refine z_if_ne (tgt := 12) dL_sets_1 (by decide) (fun _ => ?_) (fun q => absurd q ((by decide)))
  refine z_iload_n dL_sets_12 rfl ?_
  refine z_iconst (v := 1) dL_sets_13 (by decide) ?_
  refine z_icmp_ne (tgt := 26) dL_sets_14 (by decide) (fun _ => ?_) (fun q => absurd q ((by decide)))
  refine z_iload_n dL_sets_26 rfl ?_
  refine z_iconst (v := 2) dL_sets_27 (by decide) ?_
  refine z_icmp_ne (tgt := 39) dL_sets_28 (by decide) (fun q => absurd ((by decide)) q) (fun _ => ?_)
  refine z_aload_n dL_sets_31 rfl ?_
  refine z_iload_n dL_sets_32 rfl ?_
  refine z_callVH dL_sets_33 cv_L_46 (a_setMemory hG hnx S.2.1 S.tg) rfl S.c rfl rfl ⟨(Nat.le_of_ble_eq_true rfl), (Nat.le_of_ble_eq_true rfl)⟩ (Nat.le_of_ble_eq_true rfl) (Nat.le_of_ble_eq_true rfl) (Nat.le_of_ble_eq_true rfl) (fun E s1 n1 q hx1 hq1 => ?_) (fun v s1 n1 hx1 hq1 => ?_)
  · obtain ⟨h1, h2, hE⟩ := hq1
    have hE0 := hE
    simp only [List.mem_cons, List.mem_nil_iff, or_false, Prod.mk.injEq] at hE
    rcases hE with ⟨rfl, -⟩
    · refine ⟨76, hL_sets_33_2, ?_⟩
      refine z_astore dL_sets_76 (by decide) ?_
      refine z_bipush (v := (-20)) dL_sets_78 (by decide) ?_
      exact z_iret dL_sets_80 rfl (Nat.le_of_ble_eq_true rfl) (Nat.le_of_ble_eq_true rfl) (Or.inr ⟨_, ⟨h1, h2, hE0⟩, by rw [zxc_A]⟩)
  · have hq0 := hq1
    obtain ⟨hc, u', w, rfl, hP, h1, h2⟩ := hq1
    refine z_goto (tgt := 70) dL_sets_36 (by decide) ?_
    exact z_iret dL_sets_70 rfl (Nat.le_of_ble_eq_true rfl) (Nat.le_of_ble_eq_true rfl) (Or.inl hq0)
set_option maxRecDepth 100000 in
set_option maxHeartbeats 1000000 in
theorem w_sets_setLimit (hG : zKap G) (hnx : b + 82 ≤ nx) (S : zVs G σ b (nt, lim, mem, wk, slow, r, L, A, tk, sp, cs) R) : zMW G yL_sets kL_sets [.ref b, .int 3, .int x, .int y] σ nx (fun v σ' nx' => zW1 G σ σ' b (b + 82) (zPq (nt, x.toNatClampNeg, mem, wk, slow, r, [], A, tk, sp, cs) (nI lim)) (zk_1000 x) (nt, lim, mem, wk, slow, r, L, A, tk, sp, cs) [(zEA, 1)] v) := by
  refine zMW.of (ls := [some (.ref b), some (.int 3), some (.int x), some (.int y), none]) (by decide +kernel) ⟨rfl, rfl⟩ (Nat.le_of_ble_eq_true rfl) (fun _ h => h) ?_
  refine z_iload_n dL_sets_0 rfl ?_
  refine z_if_ne (tgt := 12) dL_sets_1 (by decide) (fun _ => ?_) (fun q => absurd q ((by decide)))
  refine z_iload_n dL_sets_12 rfl ?_
  refine z_iconst (v := 1) dL_sets_13 (by decide) ?_
  refine z_icmp_ne (tgt := 26) dL_sets_14 (by decide) (fun _ => ?_) (fun q => absurd q ((by decide)))
  refine z_iload_n dL_sets_26 rfl ?_
  refine z_iconst (v := 2) dL_sets_27 (by decide) ?_
  refine z_icmp_ne (tgt := 39) dL_sets_28 (by decide) (fun _ => ?_) (fun q => absurd q ((by decide)))
  refine z_iload_n dL_sets_39 rfl ?_
  refine z_iconst (v := 3) dL_sets_40 (by decide) ?_
  refine z_icmp_ne (tgt := 52) dL_sets_41 (by decide) (fun q => absurd ((by decide)) q) (fun _ => ?_)
  refine z_aload_n dL_sets_44 rfl ?_
  refine z_iload_n dL_sets_45 rfl ?_
  refine z_callVH dL_sets_46 cv_L_49 (a_setLimit hG hnx S.2.1 S.tg) rfl S.c rfl rfl ⟨(Nat.le_of_ble_eq_true rfl), (Nat.le_of_ble_eq_true rfl)⟩ (Nat.le_of_ble_eq_true rfl) (Nat.le_of_ble_eq_true rfl) (Nat.le_of_ble_eq_true rfl) (fun E s1 n1 q hx1 hq1 => ?_) (fun v s1 n1 hx1 hq1 => ?_)
  · obtain ⟨h1, h2, hE⟩ := hq1
    have hE0 := hE
    simp only [List.mem_cons, List.mem_nil_iff, or_false, Prod.mk.injEq] at hE
    rcases hE with ⟨rfl, -⟩
    · refine ⟨76, hL_sets_46_2, ?_⟩
      refine z_astore dL_sets_76 (by decide) ?_
      refine z_bipush (v := (-20)) dL_sets_78 (by decide) ?_
      exact z_iret dL_sets_80 rfl (Nat.le_of_ble_eq_true rfl) (Nat.le_of_ble_eq_true rfl) (Or.inr ⟨_, ⟨h1, h2, hE0⟩, by rw [zxc_A]⟩)
  · have hq0 := hq1
    obtain ⟨hc, u', w, rfl, hP, h1, h2⟩ := hq1
    refine z_goto (tgt := 70) dL_sets_49 (by decide) ?_
    exact z_iret dL_sets_70 rfl (Nat.le_of_ble_eq_true rfl) (Nat.le_of_ble_eq_true rfl) (Or.inl hq0)
set_option maxRecDepth 100000 in
set_option maxHeartbeats 1000000 in
theorem w_sets_setRoom (hG : zKap G) (hnx : b + 82 ≤ nx) (S : zVs G σ b (nt, lim, mem, wk, slow, r, L, A, tk, sp, cs) R) : zMW G yL_sets kL_sets [.ref b, .int 4, .int x, .int y] σ nx (fun v σ' nx' => zW1 G σ σ' b (b + 82) (zPq (nt, lim, mem, wk, slow, x.toNatClampNeg, zmkr x.toNatClampNeg 0 L, A, tk, sp, cs) (nI (L.length - (zmkr x.toNatClampNeg 0 L).length))) (zk_1000 x) (nt, lim, mem, wk, slow, r, L, A, tk, sp, cs) [(zEA, 1)] v) := by
  refine zMW.of (ls := [some (.ref b), some (.int 4), some (.int x), some (.int y), none]) (by decide +kernel) ⟨rfl, rfl⟩ (Nat.le_of_ble_eq_true rfl) (fun _ h => h) ?_
  refine z_iload_n dL_sets_0 rfl ?_
  refine z_if_ne (tgt := 12) dL_sets_1 (by decide) (fun _ => ?_) (fun q => absurd q ((by decide)))
  refine z_iload_n dL_sets_12 rfl ?_
  refine z_iconst (v := 1) dL_sets_13 (by decide) ?_
  refine z_icmp_ne (tgt := 26) dL_sets_14 (by decide) (fun _ => ?_) (fun q => absurd q ((by decide)))
  refine z_iload_n dL_sets_26 rfl ?_
  refine z_iconst (v := 2) dL_sets_27 (by decide) ?_
  refine z_icmp_ne (tgt := 39) dL_sets_28 (by decide) (fun _ => ?_) (fun q => absurd q ((by decide)))
  refine z_iload_n dL_sets_39 rfl ?_
  refine z_iconst (v := 3) dL_sets_40 (by decide) ?_
  refine z_icmp_ne (tgt := 52) dL_sets_41 (by decide) (fun _ => ?_) (fun q => absurd q ((by decide)))
  refine z_iload_n dL_sets_52 rfl ?_
  refine z_iconst (v := 4) dL_sets_53 (by decide) ?_
  refine z_icmp_ne (tgt := 65) dL_sets_54 (by decide) (fun q => absurd ((by decide)) q) (fun _ => ?_)
  refine z_aload_n dL_sets_57 rfl ?_
  refine z_iload_n dL_sets_58 rfl ?_
  refine z_callVH dL_sets_59 cv_L_52 (a_setRoom hG hnx S.2.1 S.tg) rfl S.c rfl rfl ⟨(Nat.le_of_ble_eq_true rfl), (Nat.le_of_ble_eq_true rfl)⟩ (Nat.le_of_ble_eq_true rfl) (Nat.le_of_ble_eq_true rfl) (Nat.le_of_ble_eq_true rfl) (fun E s1 n1 q hx1 hq1 => ?_) (fun v s1 n1 hx1 hq1 => ?_)
  · obtain ⟨h1, h2, hE⟩ := hq1
    have hE0 := hE
    simp only [List.mem_cons, List.mem_nil_iff, or_false, Prod.mk.injEq] at hE
    rcases hE with ⟨rfl, -⟩
    · refine ⟨76, hL_sets_59_2, ?_⟩
      refine z_astore dL_sets_76 (by decide) ?_
      refine z_bipush (v := (-20)) dL_sets_78 (by decide) ?_
      exact z_iret dL_sets_80 rfl (Nat.le_of_ble_eq_true rfl) (Nat.le_of_ble_eq_true rfl) (Or.inr ⟨_, ⟨h1, h2, hE0⟩, by rw [zxc_A]⟩)
  · have hq0 := hq1
    obtain ⟨hc, u', w, rfl, hP, h1, h2⟩ := hq1
    refine z_goto (tgt := 70) dL_sets_62 (by decide) ?_
    exact z_iret dL_sets_70 rfl (Nat.le_of_ble_eq_true rfl) (Nat.le_of_ble_eq_true rfl) (Or.inl hq0)
set_option maxRecDepth 100000 in
set_option maxHeartbeats 1000000 in
theorem w_sets_run (hG : zKap G) (hnx : b + 82 ≤ nx) (S : zVs G σ b (nt, lim, mem, wk, slow, r, L, A, tk, sp, cs) R) : zMW G yL_sets kL_sets [.ref b, .int 5, .int x, .int y] σ nx (fun v σ' nx' => zW1 G σ σ' b (b + 82) (zPq (nt, lim, mem, wk, slow, r, zren2 lim nt (zdraw lim nt (zcd L) x.toNatClampNeg).2.2 r (zren1 (zdraw lim nt (zcd L) x.toNatClampNeg).1 L 14) 14, (zrn lim nt (zcd L) mem slow wk (zdraw lim nt (zcd L) x.toNatClampNeg).2.1 14).2.1, (zrn lim nt (zcd L) mem slow wk (zdraw lim nt (zcd L) x.toNatClampNeg).2.1 14).1, (zrn lim nt (zcd L) mem slow wk (zdraw lim nt (zcd L) x.toNatClampNeg).2.1 14).2.2, wk) (nI (zrn lim nt (zcd L) mem slow wk (zdraw lim nt (zcd L) x.toNatClampNeg).2.1 14).1)) (zk_node nt.length x) (nt, lim, mem, wk, slow, r, L, A, tk, sp, cs) [(zEI, 1)] v) := by
  refine zMW.of (ls := [some (.ref b), some (.int 5), some (.int x), some (.int y), none]) (by decide +kernel) ⟨rfl, rfl⟩ (Nat.le_of_ble_eq_true rfl) (fun _ h => h) ?_
  refine z_iload_n dL_sets_0 rfl ?_
  refine z_if_ne (tgt := 12) dL_sets_1 (by decide) (fun _ => ?_) (fun q => absurd q ((by decide)))
  refine z_iload_n dL_sets_12 rfl ?_
  refine z_iconst (v := 1) dL_sets_13 (by decide) ?_
  refine z_icmp_ne (tgt := 26) dL_sets_14 (by decide) (fun _ => ?_) (fun q => absurd q ((by decide)))
  refine z_iload_n dL_sets_26 rfl ?_
  refine z_iconst (v := 2) dL_sets_27 (by decide) ?_
  refine z_icmp_ne (tgt := 39) dL_sets_28 (by decide) (fun _ => ?_) (fun q => absurd q ((by decide)))
  refine z_iload_n dL_sets_39 rfl ?_
  refine z_iconst (v := 3) dL_sets_40 (by decide) ?_
  refine z_icmp_ne (tgt := 52) dL_sets_41 (by decide) (fun _ => ?_) (fun q => absurd q ((by decide)))
  refine z_iload_n dL_sets_52 rfl ?_
  refine z_iconst (v := 4) dL_sets_53 (by decide) ?_
  refine z_icmp_ne (tgt := 65) dL_sets_54 (by decide) (fun _ => ?_) (fun q => absurd q ((by decide)))
  refine z_aload_n dL_sets_65 rfl ?_
  refine z_iload_n dL_sets_66 rfl ?_
  refine z_callVH dL_sets_67 cv_L_55 (a_run hG hnx S.2.1 S.tg) rfl S.c rfl rfl ⟨(Nat.le_of_ble_eq_true rfl), (Nat.le_of_ble_eq_true rfl)⟩ (Nat.le_of_ble_eq_true rfl) (Nat.le_of_ble_eq_true rfl) (Nat.le_of_ble_eq_true rfl) (fun E s1 n1 q hx1 hq1 => ?_) (fun v s1 n1 hx1 hq1 => ?_)
  · obtain ⟨h1, h2, hE⟩ := hq1
    have hE0 := hE
    simp only [List.mem_cons, List.mem_nil_iff, or_false, Prod.mk.injEq] at hE
    rcases hE with ⟨rfl, -⟩
    · refine ⟨71, hL_sets_67_1, ?_⟩
      refine z_astore dL_sets_71 (by decide) ?_
      refine z_bipush (v := (-30)) dL_sets_73 (by decide) ?_
      exact z_iret dL_sets_75 rfl (Nat.le_of_ble_eq_true rfl) (Nat.le_of_ble_eq_true rfl) (Or.inr ⟨_, ⟨h1, h2, hE0⟩, by rw [zxc_I]⟩)
  · have hq0 := hq1
    obtain ⟨hc, u', w, rfl, hP, h1, h2⟩ := hq1
    exact z_iret dL_sets_70 rfl (Nat.le_of_ble_eq_true rfl) (Nat.le_of_ble_eq_true rfl) (Or.inl hq0)
set_option maxRecDepth 100000 in
set_option maxHeartbeats 1000000 in
theorem w_asks_partitions (hG : zKap G) (hnx : b + 82 ≤ nx) (S : zVs G σ b (nt, lim, mem, wk, slow, r, L, A, tk, sp, cs) R) : zMW G yL_asks kL_asks [.ref b, .int 0, .int x, .int y, .int z] σ nx (fun v σ' nx' => zW1 G σ σ' b (b + 82) (zPq (nt, lim, mem, wk, slow, r, L, A, tk, sp, cs) (nI (zct lim nt x.toNatClampNeg).length)) (zk_node nt.length x) (nt, lim, mem, wk, slow, r, L, A, tk, sp, cs) [(zEI, 1)] v) := by
  refine zMW.of (ls := [some (.ref b), some (.int 0), some (.int x), some (.int y), some (.int z), none]) (by decide +kernel) ⟨rfl, rfl⟩ (Nat.le_of_ble_eq_true rfl) (fun _ h => h) ?_
  refine z_iload_n dL_asks_0 rfl ?_
  refine z_if_ne (tgt := 12) dL_asks_1 (by decide) (fun q => absurd ((by decide)) q) (fun _ => ?_)
  refine z_aload_n dL_asks_4 rfl ?_
  refine z_iload_n dL_asks_5 rfl ?_
  refine z_callVH dL_asks_6 cv_L_58 (a_partitions hG hnx S.2.1 S.tg) rfl S.c rfl rfl ⟨(Nat.le_of_ble_eq_true rfl), (Nat.le_of_ble_eq_true rfl)⟩ (Nat.le_of_ble_eq_true rfl) (Nat.le_of_ble_eq_true rfl) (Nat.le_of_ble_eq_true rfl) (fun E s1 n1 q hx1 hq1 => ?_) (fun v s1 n1 hx1 hq1 => ?_)
  · obtain ⟨h1, h2, hE⟩ := hq1
    have hE0 := hE
    simp only [List.mem_cons, List.mem_nil_iff, or_false, Prod.mk.injEq] at hE
    rcases hE with ⟨rfl, -⟩
    · refine ⟨169, hL_asks_6_1, ?_⟩
      refine z_astore dL_asks_169 (by decide) ?_
      refine z_bipush (v := (-30)) dL_asks_171 (by decide) ?_
      exact z_iret dL_asks_173 rfl (Nat.le_of_ble_eq_true rfl) (Nat.le_of_ble_eq_true rfl) (Or.inr ⟨_, ⟨h1, h2, hE0⟩, by rw [zxc_I]⟩)
  · have hq0 := hq1
    obtain ⟨hc, u', w, rfl, hP, h1, h2⟩ := hq1
    refine z_goto (tgt := 168) dL_asks_9 (by decide) ?_
    exact z_iret dL_asks_168 rfl (Nat.le_of_ble_eq_true rfl) (Nat.le_of_ble_eq_true rfl) (Or.inl hq0)
set_option maxRecDepth 100000 in
set_option maxHeartbeats 1000000 in
theorem w_asks_rowsIn (hG : zKap G) (hnx : b + 82 ≤ nx) (S : zVs G σ b (nt, lim, mem, wk, slow, r, L, A, tk, sp, cs) R) : zMW G yL_asks kL_asks [.ref b, .int 1, .int x, .int y, .int z] σ nx (fun v σ' nx' => zW1 G σ σ' b (b + 82) (zPq (nt, lim, mem, wk, slow, r, L, A, tk, sp, cs) (nI (zsz (zct lim nt x.toNatClampNeg) y.toNatClampNeg))) (zk_part lim nt x y) (nt, lim, mem, wk, slow, r, L, A, tk, sp, cs) [(zEI, 1)] v) := by
  refine zMW.of (ls := [some (.ref b), some (.int 1), some (.int x), some (.int y), some (.int z), none]) (by decide +kernel) ⟨rfl, rfl⟩ (Nat.le_of_ble_eq_true rfl) (fun _ h => h) ?_
  refine z_iload_n dL_asks_0 rfl ?_
  refine z_if_ne (tgt := 12) dL_asks_1 (by decide) (fun _ => ?_) (fun q => absurd q ((by decide)))
  refine z_iload_n dL_asks_12 rfl ?_
  refine z_iconst (v := 1) dL_asks_13 (by decide) ?_
  refine z_icmp_ne (tgt := 26) dL_asks_14 (by decide) (fun q => absurd ((by decide)) q) (fun _ => ?_)
  refine z_aload_n dL_asks_17 rfl ?_
  refine z_iload_n dL_asks_18 rfl ?_
  refine z_iload_n dL_asks_19 rfl ?_
  refine z_callVH dL_asks_20 cv_L_61 (a_rowsIn hG hnx S.2.1 S.tg) rfl S.c rfl rfl ⟨(Nat.le_of_ble_eq_true rfl), (Nat.le_of_ble_eq_true rfl)⟩ (Nat.le_of_ble_eq_true rfl) (Nat.le_of_ble_eq_true rfl) (Nat.le_of_ble_eq_true rfl) (fun E s1 n1 q hx1 hq1 => ?_) (fun v s1 n1 hx1 hq1 => ?_)
  · obtain ⟨h1, h2, hE⟩ := hq1
    have hE0 := hE
    simp only [List.mem_cons, List.mem_nil_iff, or_false, Prod.mk.injEq] at hE
    rcases hE with ⟨rfl, -⟩
    · refine ⟨169, hL_asks_20_1, ?_⟩
      refine z_astore dL_asks_169 (by decide) ?_
      refine z_bipush (v := (-30)) dL_asks_171 (by decide) ?_
      exact z_iret dL_asks_173 rfl (Nat.le_of_ble_eq_true rfl) (Nat.le_of_ble_eq_true rfl) (Or.inr ⟨_, ⟨h1, h2, hE0⟩, by rw [zxc_I]⟩)
  · have hq0 := hq1
    obtain ⟨hc, u', w, rfl, hP, h1, h2⟩ := hq1
    refine z_goto (tgt := 168) dL_asks_23 (by decide) ?_
    exact z_iret dL_asks_168 rfl (Nat.le_of_ble_eq_true rfl) (Nat.le_of_ble_eq_true rfl) (Or.inl hq0)
set_option maxRecDepth 100000 in
set_option maxHeartbeats 1000000 in
theorem w_asks_rows (hG : zKap G) (hnx : b + 82 ≤ nx) (S : zVs G σ b (nt, lim, mem, wk, slow, r, L, A, tk, sp, cs) R) : zMW G yL_asks kL_asks [.ref b, .int 2, .int x, .int y, .int z] σ nx (fun v σ' nx' => zW1 G σ σ' b (b + 82) (zPq (nt, lim, mem, wk, slow, r, L, A, tk, sp, cs) (nI (zct lim nt x.toNatClampNeg).flatten.length)) (zk_node nt.length x) (nt, lim, mem, wk, slow, r, L, A, tk, sp, cs) [(zEI, 1)] v) := by
  refine zMW.of (ls := [some (.ref b), some (.int 2), some (.int x), some (.int y), some (.int z), none]) (by decide +kernel) ⟨rfl, rfl⟩ (Nat.le_of_ble_eq_true rfl) (fun _ h => h) ?_
  refine z_iload_n dL_asks_0 rfl ?_
  refine z_if_ne (tgt := 12) dL_asks_1 (by decide) (fun _ => ?_) (fun q => absurd q ((by decide)))
  refine z_iload_n dL_asks_12 rfl ?_
  refine z_iconst (v := 1) dL_asks_13 (by decide) ?_
  refine z_icmp_ne (tgt := 26) dL_asks_14 (by decide) (fun _ => ?_) (fun q => absurd q ((by decide)))
  refine z_iload_n dL_asks_26 rfl ?_
  refine z_iconst (v := 2) dL_asks_27 (by decide) ?_
  refine z_icmp_ne (tgt := 39) dL_asks_28 (by decide) (fun q => absurd ((by decide)) q) (fun _ => ?_)
  refine z_aload_n dL_asks_31 rfl ?_
  refine z_iload_n dL_asks_32 rfl ?_
  refine z_callVH dL_asks_33 cv_L_64 (a_rows hG hnx S.2.1 S.tg) rfl S.c rfl rfl ⟨(Nat.le_of_ble_eq_true rfl), (Nat.le_of_ble_eq_true rfl)⟩ (Nat.le_of_ble_eq_true rfl) (Nat.le_of_ble_eq_true rfl) (Nat.le_of_ble_eq_true rfl) (fun E s1 n1 q hx1 hq1 => ?_) (fun v s1 n1 hx1 hq1 => ?_)
  · obtain ⟨h1, h2, hE⟩ := hq1
    have hE0 := hE
    simp only [List.mem_cons, List.mem_nil_iff, or_false, Prod.mk.injEq] at hE
    rcases hE with ⟨rfl, -⟩
    · refine ⟨169, hL_asks_33_1, ?_⟩
      refine z_astore dL_asks_169 (by decide) ?_
      refine z_bipush (v := (-30)) dL_asks_171 (by decide) ?_
      exact z_iret dL_asks_173 rfl (Nat.le_of_ble_eq_true rfl) (Nat.le_of_ble_eq_true rfl) (Or.inr ⟨_, ⟨h1, h2, hE0⟩, by rw [zxc_I]⟩)
  · have hq0 := hq1
    obtain ⟨hc, u', w, rfl, hP, h1, h2⟩ := hq1
    refine z_goto (tgt := 168) dL_asks_36 (by decide) ?_
    exact z_iret dL_asks_168 rfl (Nat.le_of_ble_eq_true rfl) (Nat.le_of_ble_eq_true rfl) (Or.inl hq0)
set_option maxRecDepth 100000 in
set_option maxHeartbeats 1000000 in
theorem w_asks_keyAt (hG : zKap G) (hnx : b + 82 ≤ nx) (S : zVs G σ b (nt, lim, mem, wk, slow, r, L, A, tk, sp, cs) R) : zMW G yL_asks kL_asks [.ref b, .int 3, .int x, .int y, .int z] σ nx (fun v σ' nx' => zW1 G σ σ' b (b + 82) (zPq (nt, lim, mem, wk, slow, r, L, A, tk, sp, cs) ((zrw (zct lim nt x.toNatClampNeg) y.toNatClampNeg z.toNatClampNeg).1)) (zk_place lim nt x y z) (nt, lim, mem, wk, slow, r, L, A, tk, sp, cs) [(zEI, 1)] v) := by
  refine zMW.of (ls := [some (.ref b), some (.int 3), some (.int x), some (.int y), some (.int z), none]) (by decide +kernel) ⟨rfl, rfl⟩ (Nat.le_of_ble_eq_true rfl) (fun _ h => h) ?_
  refine z_iload_n dL_asks_0 rfl ?_
  refine z_if_ne (tgt := 12) dL_asks_1 (by decide) (fun _ => ?_) (fun q => absurd q ((by decide)))
  refine z_iload_n dL_asks_12 rfl ?_
  refine z_iconst (v := 1) dL_asks_13 (by decide) ?_
  refine z_icmp_ne (tgt := 26) dL_asks_14 (by decide) (fun _ => ?_) (fun q => absurd q ((by decide)))
  refine z_iload_n dL_asks_26 rfl ?_
  refine z_iconst (v := 2) dL_asks_27 (by decide) ?_
  refine z_icmp_ne (tgt := 39) dL_asks_28 (by decide) (fun _ => ?_) (fun q => absurd q ((by decide)))
  refine z_iload_n dL_asks_39 rfl ?_
  refine z_iconst (v := 3) dL_asks_40 (by decide) ?_
  refine z_icmp_ne (tgt := 55) dL_asks_41 (by decide) (fun q => absurd ((by decide)) q) (fun _ => ?_)
  refine z_aload_n dL_asks_44 rfl ?_
  refine z_iload_n dL_asks_45 rfl ?_
  refine z_iload_n dL_asks_46 rfl ?_
  refine z_iload dL_asks_47 rfl ?_
  refine z_callVH dL_asks_49 cv_L_67 (a_keyAt hG hnx S.2.1 S.tg) rfl S.c rfl rfl ⟨(Nat.le_of_ble_eq_true rfl), (Nat.le_of_ble_eq_true rfl)⟩ (Nat.le_of_ble_eq_true rfl) (Nat.le_of_ble_eq_true rfl) (Nat.le_of_ble_eq_true rfl) (fun E s1 n1 q hx1 hq1 => ?_) (fun v s1 n1 hx1 hq1 => ?_)
  · obtain ⟨h1, h2, hE⟩ := hq1
    have hE0 := hE
    simp only [List.mem_cons, List.mem_nil_iff, or_false, Prod.mk.injEq] at hE
    rcases hE with ⟨rfl, -⟩
    · refine ⟨169, hL_asks_49_1, ?_⟩
      refine z_astore dL_asks_169 (by decide) ?_
      refine z_bipush (v := (-30)) dL_asks_171 (by decide) ?_
      exact z_iret dL_asks_173 rfl (Nat.le_of_ble_eq_true rfl) (Nat.le_of_ble_eq_true rfl) (Or.inr ⟨_, ⟨h1, h2, hE0⟩, by rw [zxc_I]⟩)
  · have hq0 := hq1
    obtain ⟨hc, u', w, rfl, hP, h1, h2⟩ := hq1
    refine z_goto (tgt := 168) dL_asks_52 (by decide) ?_
    exact z_iret dL_asks_168 rfl (Nat.le_of_ble_eq_true rfl) (Nat.le_of_ble_eq_true rfl) (Or.inl hq0)
set_option maxRecDepth 100000 in
set_option maxHeartbeats 1000000 in
theorem w_asks_valueAt (hG : zKap G) (hnx : b + 82 ≤ nx) (S : zVs G σ b (nt, lim, mem, wk, slow, r, L, A, tk, sp, cs) R) : zMW G yL_asks kL_asks [.ref b, .int 4, .int x, .int y, .int z] σ nx (fun v σ' nx' => zW1 G σ σ' b (b + 82) (zPq (nt, lim, mem, wk, slow, r, L, A, tk, sp, cs) ((zrw (zct lim nt x.toNatClampNeg) y.toNatClampNeg z.toNatClampNeg).2)) (zk_place lim nt x y z) (nt, lim, mem, wk, slow, r, L, A, tk, sp, cs) [(zEI, 1)] v) := by
  refine zMW.of (ls := [some (.ref b), some (.int 4), some (.int x), some (.int y), some (.int z), none]) (by decide +kernel) ⟨rfl, rfl⟩ (Nat.le_of_ble_eq_true rfl) (fun _ h => h) ?_
  refine z_iload_n dL_asks_0 rfl ?_
  refine z_if_ne (tgt := 12) dL_asks_1 (by decide) (fun _ => ?_) (fun q => absurd q ((by decide)))
  refine z_iload_n dL_asks_12 rfl ?_
  refine z_iconst (v := 1) dL_asks_13 (by decide) ?_
  refine z_icmp_ne (tgt := 26) dL_asks_14 (by decide) (fun _ => ?_) (fun q => absurd q ((by decide)))
  refine z_iload_n dL_asks_26 rfl ?_
  refine z_iconst (v := 2) dL_asks_27 (by decide) ?_
  refine z_icmp_ne (tgt := 39) dL_asks_28 (by decide) (fun _ => ?_) (fun q => absurd q ((by decide)))
  refine z_iload_n dL_asks_39 rfl ?_
  refine z_iconst (v := 3) dL_asks_40 (by decide) ?_
  refine z_icmp_ne (tgt := 55) dL_asks_41 (by decide) (fun _ => ?_) (fun q => absurd q ((by decide)))
  refine z_iload_n dL_asks_55 rfl ?_
  refine z_iconst (v := 4) dL_asks_56 (by decide) ?_
  refine z_icmp_ne (tgt := 71) dL_asks_57 (by decide) (fun q => absurd ((by decide)) q) (fun _ => ?_)
  refine z_aload_n dL_asks_60 rfl ?_
  refine z_iload_n dL_asks_61 rfl ?_
  refine z_iload_n dL_asks_62 rfl ?_
  refine z_iload dL_asks_63 rfl ?_
  refine z_callVH dL_asks_65 cv_L_70 (a_valueAt hG hnx S.2.1 S.tg) rfl S.c rfl rfl ⟨(Nat.le_of_ble_eq_true rfl), (Nat.le_of_ble_eq_true rfl)⟩ (Nat.le_of_ble_eq_true rfl) (Nat.le_of_ble_eq_true rfl) (Nat.le_of_ble_eq_true rfl) (fun E s1 n1 q hx1 hq1 => ?_) (fun v s1 n1 hx1 hq1 => ?_)
  · obtain ⟨h1, h2, hE⟩ := hq1
    have hE0 := hE
    simp only [List.mem_cons, List.mem_nil_iff, or_false, Prod.mk.injEq] at hE
    rcases hE with ⟨rfl, -⟩
    · refine ⟨169, hL_asks_65_1, ?_⟩
      refine z_astore dL_asks_169 (by decide) ?_
      refine z_bipush (v := (-30)) dL_asks_171 (by decide) ?_
      exact z_iret dL_asks_173 rfl (Nat.le_of_ble_eq_true rfl) (Nat.le_of_ble_eq_true rfl) (Or.inr ⟨_, ⟨h1, h2, hE0⟩, by rw [zxc_I]⟩)
  · have hq0 := hq1
    obtain ⟨hc, u', w, rfl, hP, h1, h2⟩ := hq1
    refine z_goto (tgt := 168) dL_asks_68 (by decide) ?_
    exact z_iret dL_asks_168 rfl (Nat.le_of_ble_eq_true rfl) (Nat.le_of_ble_eq_true rfl) (Or.inl hq0)
set_option maxRecDepth 100000 in
set_option maxHeartbeats 1000000 in
theorem w_asks_digest (hG : zKap G) (hnx : b + 82 ≤ nx) (S : zVs G σ b (nt, lim, mem, wk, slow, r, L, A, tk, sp, cs) R) : zMW G yL_asks kL_asks [.ref b, .int 5, .int x, .int y, .int z] σ nx (fun v σ' nx' => zW1 G σ σ' b (b + 82) (zPq (nt, lim, mem, wk, slow, r, L, A, tk, sp, cs) (zsq (zct lim nt x.toNatClampNeg).flatten)) (zk_node nt.length x) (nt, lim, mem, wk, slow, r, L, A, tk, sp, cs) [(zEI, 1)] v) := by
  refine zMW.of (ls := [some (.ref b), some (.int 5), some (.int x), some (.int y), some (.int z), none]) (by decide +kernel) ⟨rfl, rfl⟩ (Nat.le_of_ble_eq_true rfl) (fun _ h => h) ?_
  refine z_iload_n dL_asks_0 rfl ?_
  refine z_if_ne (tgt := 12) dL_asks_1 (by decide) (fun _ => ?_) (fun q => absurd q ((by decide)))
  refine z_iload_n dL_asks_12 rfl ?_
  refine z_iconst (v := 1) dL_asks_13 (by decide) ?_
  refine z_icmp_ne (tgt := 26) dL_asks_14 (by decide) (fun _ => ?_) (fun q => absurd q ((by decide)))
  refine z_iload_n dL_asks_26 rfl ?_
  refine z_iconst (v := 2) dL_asks_27 (by decide) ?_
  refine z_icmp_ne (tgt := 39) dL_asks_28 (by decide) (fun _ => ?_) (fun q => absurd q ((by decide)))
  refine z_iload_n dL_asks_39 rfl ?_
  refine z_iconst (v := 3) dL_asks_40 (by decide) ?_
  refine z_icmp_ne (tgt := 55) dL_asks_41 (by decide) (fun _ => ?_) (fun q => absurd q ((by decide)))
  refine z_iload_n dL_asks_55 rfl ?_
  refine z_iconst (v := 4) dL_asks_56 (by decide) ?_
  refine z_icmp_ne (tgt := 71) dL_asks_57 (by decide) (fun _ => ?_) (fun q => absurd q ((by decide)))
  refine z_iload_n dL_asks_71 rfl ?_
  refine z_iconst (v := 5) dL_asks_72 (by decide) ?_
  refine z_icmp_ne (tgt := 84) dL_asks_73 (by decide) (fun q => absurd ((by decide)) q) (fun _ => ?_)
  refine z_aload_n dL_asks_76 rfl ?_
  refine z_iload_n dL_asks_77 rfl ?_
  refine z_callVH dL_asks_78 cv_L_73 (a_digest hG hnx S.2.1 S.tg) rfl S.c rfl rfl ⟨(Nat.le_of_ble_eq_true rfl), (Nat.le_of_ble_eq_true rfl)⟩ (Nat.le_of_ble_eq_true rfl) (Nat.le_of_ble_eq_true rfl) (Nat.le_of_ble_eq_true rfl) (fun E s1 n1 q hx1 hq1 => ?_) (fun v s1 n1 hx1 hq1 => ?_)
  · obtain ⟨h1, h2, hE⟩ := hq1
    have hE0 := hE
    simp only [List.mem_cons, List.mem_nil_iff, or_false, Prod.mk.injEq] at hE
    rcases hE with ⟨rfl, -⟩
    · refine ⟨169, hL_asks_78_1, ?_⟩
      refine z_astore dL_asks_169 (by decide) ?_
      refine z_bipush (v := (-30)) dL_asks_171 (by decide) ?_
      exact z_iret dL_asks_173 rfl (Nat.le_of_ble_eq_true rfl) (Nat.le_of_ble_eq_true rfl) (Or.inr ⟨_, ⟨h1, h2, hE0⟩, by rw [zxc_I]⟩)
  · have hq0 := hq1
    obtain ⟨hc, u', w, rfl, hP, h1, h2⟩ := hq1
    refine z_goto (tgt := 168) dL_asks_81 (by decide) ?_
    exact z_iret dL_asks_168 rfl (Nat.le_of_ble_eq_true rfl) (Nat.le_of_ble_eq_true rfl) (Or.inl hq0)
set_option maxRecDepth 100000 in
set_option maxHeartbeats 1000000 in
theorem w_asks_stages (hG : zKap G) (hnx : b + 82 ≤ nx) (S : zVs G σ b (nt, lim, mem, wk, slow, r, L, A, tk, sp, cs) R) : zMW G yL_asks kL_asks [.ref b, .int 6, .int x, .int y, .int z] σ nx (fun v σ' nx' => zW1 G σ σ' b (b + 82) (zPq (nt, lim, mem, wk, slow, r, L, A, tk, sp, cs) (nI (zcn (zdraw lim nt (zcd L) x.toNatClampNeg).2.1 14))) (zk_node nt.length x) (nt, lim, mem, wk, slow, r, L, A, tk, sp, cs) [(zEI, 1)] v) := by
  refine zMW.of (ls := [some (.ref b), some (.int 6), some (.int x), some (.int y), some (.int z), none]) (by decide +kernel) ⟨rfl, rfl⟩ (Nat.le_of_ble_eq_true rfl) (fun _ h => h) ?_
  refine z_iload_n dL_asks_0 rfl ?_
  refine z_if_ne (tgt := 12) dL_asks_1 (by decide) (fun _ => ?_) (fun q => absurd q ((by decide)))
  refine z_iload_n dL_asks_12 rfl ?_
  refine z_iconst (v := 1) dL_asks_13 (by decide) ?_
  refine z_icmp_ne (tgt := 26) dL_asks_14 (by decide) (fun _ => ?_) (fun q => absurd q ((by decide)))
  refine z_iload_n dL_asks_26 rfl ?_
  refine z_iconst (v := 2) dL_asks_27 (by decide) ?_
  refine z_icmp_ne (tgt := 39) dL_asks_28 (by decide) (fun _ => ?_) (fun q => absurd q ((by decide)))
  refine z_iload_n dL_asks_39 rfl ?_
  refine z_iconst (v := 3) dL_asks_40 (by decide) ?_
  refine z_icmp_ne (tgt := 55) dL_asks_41 (by decide) (fun _ => ?_) (fun q => absurd q ((by decide)))
  refine z_iload_n dL_asks_55 rfl ?_
  refine z_iconst (v := 4) dL_asks_56 (by decide) ?_
  refine z_icmp_ne (tgt := 71) dL_asks_57 (by decide) (fun _ => ?_) (fun q => absurd q ((by decide)))
  refine z_iload_n dL_asks_71 rfl ?_
  refine z_iconst (v := 5) dL_asks_72 (by decide) ?_
  refine z_icmp_ne (tgt := 84) dL_asks_73 (by decide) (fun _ => ?_) (fun q => absurd q ((by decide)))
  refine z_iload_n dL_asks_84 rfl ?_
  refine z_bipush (v := 6) dL_asks_85 (by decide) ?_
  refine z_icmp_ne (tgt := 98) dL_asks_87 (by decide) (fun q => absurd ((by decide)) q) (fun _ => ?_)
  refine z_aload_n dL_asks_90 rfl ?_
  refine z_iload_n dL_asks_91 rfl ?_
  refine z_callVH dL_asks_92 cv_L_76 (a_stages hG hnx S.2.1 S.tg) rfl S.c rfl rfl ⟨(Nat.le_of_ble_eq_true rfl), (Nat.le_of_ble_eq_true rfl)⟩ (Nat.le_of_ble_eq_true rfl) (Nat.le_of_ble_eq_true rfl) (Nat.le_of_ble_eq_true rfl) (fun E s1 n1 q hx1 hq1 => ?_) (fun v s1 n1 hx1 hq1 => ?_)
  · obtain ⟨h1, h2, hE⟩ := hq1
    have hE0 := hE
    simp only [List.mem_cons, List.mem_nil_iff, or_false, Prod.mk.injEq] at hE
    rcases hE with ⟨rfl, -⟩
    · refine ⟨169, hL_asks_92_1, ?_⟩
      refine z_astore dL_asks_169 (by decide) ?_
      refine z_bipush (v := (-30)) dL_asks_171 (by decide) ?_
      exact z_iret dL_asks_173 rfl (Nat.le_of_ble_eq_true rfl) (Nat.le_of_ble_eq_true rfl) (Or.inr ⟨_, ⟨h1, h2, hE0⟩, by rw [zxc_I]⟩)
  · have hq0 := hq1
    obtain ⟨hc, u', w, rfl, hP, h1, h2⟩ := hq1
    refine z_goto (tgt := 168) dL_asks_95 (by decide) ?_
    exact z_iret dL_asks_168 rfl (Nat.le_of_ble_eq_true rfl) (Nat.le_of_ble_eq_true rfl) (Or.inl hq0)
set_option maxRecDepth 100000 in
set_option maxHeartbeats 1000000 in
theorem w_asks_outputOf (hG : zKap G) (hnx : b + 82 ≤ nx) (S : zVs G σ b (nt, lim, mem, wk, slow, r, L, A, tk, sp, cs) R) : zMW G yL_asks kL_asks [.ref b, .int 7, .int x, .int y, .int z] σ nx (fun v σ' nx' => zW1 G σ σ' b (b + 82) (zPq (nt, lim, mem, wk, slow, r, L, A, tk, sp, cs) (nI (znu (zdraw lim nt (zcd L) x.toNatClampNeg).2.1 y.toNatClampNeg))) (zk_out lim nt (zcd L) x y) (nt, lim, mem, wk, slow, r, L, A, tk, sp, cs) [(zEI, 1)] v) := by
  refine zMW.of (ls := [some (.ref b), some (.int 7), some (.int x), some (.int y), some (.int z), none]) (by decide +kernel) ⟨rfl, rfl⟩ (Nat.le_of_ble_eq_true rfl) (fun _ h => h) ?_
  refine z_iload_n dL_asks_0 rfl ?_
  refine z_if_ne (tgt := 12) dL_asks_1 (by decide) (fun _ => ?_) (fun q => absurd q ((by decide)))
  refine z_iload_n dL_asks_12 rfl ?_
  refine z_iconst (v := 1) dL_asks_13 (by decide) ?_
  refine z_icmp_ne (tgt := 26) dL_asks_14 (by decide) (fun _ => ?_) (fun q => absurd q ((by decide)))
  refine z_iload_n dL_asks_26 rfl ?_
  refine z_iconst (v := 2) dL_asks_27 (by decide) ?_
  refine z_icmp_ne (tgt := 39) dL_asks_28 (by decide) (fun _ => ?_) (fun q => absurd q ((by decide)))
  refine z_iload_n dL_asks_39 rfl ?_
  refine z_iconst (v := 3) dL_asks_40 (by decide) ?_
  refine z_icmp_ne (tgt := 55) dL_asks_41 (by decide) (fun _ => ?_) (fun q => absurd q ((by decide)))
  refine z_iload_n dL_asks_55 rfl ?_
  refine z_iconst (v := 4) dL_asks_56 (by decide) ?_
  refine z_icmp_ne (tgt := 71) dL_asks_57 (by decide) (fun _ => ?_) (fun q => absurd q ((by decide)))
  refine z_iload_n dL_asks_71 rfl ?_
  refine z_iconst (v := 5) dL_asks_72 (by decide) ?_
  refine z_icmp_ne (tgt := 84) dL_asks_73 (by decide) (fun _ => ?_) (fun q => absurd q ((by decide)))
  refine z_iload_n dL_asks_84 rfl ?_
  refine z_bipush (v := 6) dL_asks_85 (by decide) ?_
  refine z_icmp_ne (tgt := 98) dL_asks_87 (by decide) (fun _ => ?_) (fun q => absurd q ((by decide)))
  refine z_iload_n dL_asks_98 rfl ?_
  refine z_bipush (v := 7) dL_asks_99 (by decide) ?_
  refine z_icmp_ne (tgt := 113) dL_asks_101 (by decide) (fun q => absurd ((by decide)) q) (fun _ => ?_)
  refine z_aload_n dL_asks_104 rfl ?_
  refine z_iload_n dL_asks_105 rfl ?_
  refine z_iload_n dL_asks_106 rfl ?_
  refine z_callVH dL_asks_107 cv_L_79 (a_outputOf hG hnx S.2.1 S.tg) rfl S.c rfl rfl ⟨(Nat.le_of_ble_eq_true rfl), (Nat.le_of_ble_eq_true rfl)⟩ (Nat.le_of_ble_eq_true rfl) (Nat.le_of_ble_eq_true rfl) (Nat.le_of_ble_eq_true rfl) (fun E s1 n1 q hx1 hq1 => ?_) (fun v s1 n1 hx1 hq1 => ?_)
  · obtain ⟨h1, h2, hE⟩ := hq1
    have hE0 := hE
    simp only [List.mem_cons, List.mem_nil_iff, or_false, Prod.mk.injEq] at hE
    rcases hE with ⟨rfl, -⟩
    · refine ⟨169, hL_asks_107_1, ?_⟩
      refine z_astore dL_asks_169 (by decide) ?_
      refine z_bipush (v := (-30)) dL_asks_171 (by decide) ?_
      exact z_iret dL_asks_173 rfl (Nat.le_of_ble_eq_true rfl) (Nat.le_of_ble_eq_true rfl) (Or.inr ⟨_, ⟨h1, h2, hE0⟩, by rw [zxc_I]⟩)
  · have hq0 := hq1
    obtain ⟨hc, u', w, rfl, hP, h1, h2⟩ := hq1
    refine z_goto (tgt := 168) dL_asks_110 (by decide) ?_
    exact z_iret dL_asks_168 rfl (Nat.le_of_ble_eq_true rfl) (Nat.le_of_ble_eq_true rfl) (Or.inl hq0)
set_option maxRecDepth 100000 in
set_option maxHeartbeats 1000000 in
theorem w_asks_nodeOf (hG : zKap G) (hnx : b + 82 ≤ nx) (S : zVs G σ b (nt, lim, mem, wk, slow, r, L, A, tk, sp, cs) R) : zMW G yL_asks kL_asks [.ref b, .int 8, .int x, .int y, .int z] σ nx (fun v σ' nx' => zW1 G σ σ' b (b + 82) (zPq (nt, lim, mem, wk, slow, r, L, A, tk, sp, cs) (zAc (A.getD x.toNatClampNeg (0, 0, 0, 0, 0, false)) 0)) (zk_node A.length x) (nt, lim, mem, wk, slow, r, L, A, tk, sp, cs) [(zEI, 1)] v) := by
  refine zMW.of (ls := [some (.ref b), some (.int 8), some (.int x), some (.int y), some (.int z), none]) (by decide +kernel) ⟨rfl, rfl⟩ (Nat.le_of_ble_eq_true rfl) (fun _ h => h) ?_
  refine z_iload_n dL_asks_0 rfl ?_
  refine z_if_ne (tgt := 12) dL_asks_1 (by decide) (fun _ => ?_) (fun q => absurd q ((by decide)))
  refine z_iload_n dL_asks_12 rfl ?_
  refine z_iconst (v := 1) dL_asks_13 (by decide) ?_
  refine z_icmp_ne (tgt := 26) dL_asks_14 (by decide) (fun _ => ?_) (fun q => absurd q ((by decide)))
  refine z_iload_n dL_asks_26 rfl ?_
  refine z_iconst (v := 2) dL_asks_27 (by decide) ?_
  refine z_icmp_ne (tgt := 39) dL_asks_28 (by decide) (fun _ => ?_) (fun q => absurd q ((by decide)))
  refine z_iload_n dL_asks_39 rfl ?_
  refine z_iconst (v := 3) dL_asks_40 (by decide) ?_
  refine z_icmp_ne (tgt := 55) dL_asks_41 (by decide) (fun _ => ?_) (fun q => absurd q ((by decide)))
  refine z_iload_n dL_asks_55 rfl ?_
  refine z_iconst (v := 4) dL_asks_56 (by decide) ?_
  refine z_icmp_ne (tgt := 71) dL_asks_57 (by decide) (fun _ => ?_) (fun q => absurd q ((by decide)))
  refine z_iload_n dL_asks_71 rfl ?_
  refine z_iconst (v := 5) dL_asks_72 (by decide) ?_
  refine z_icmp_ne (tgt := 84) dL_asks_73 (by decide) (fun _ => ?_) (fun q => absurd q ((by decide)))
  refine z_iload_n dL_asks_84 rfl ?_
  refine z_bipush (v := 6) dL_asks_85 (by decide) ?_
  refine z_icmp_ne (tgt := 98) dL_asks_87 (by decide) (fun _ => ?_) (fun q => absurd q ((by decide)))
  refine z_iload_n dL_asks_98 rfl ?_
  refine z_bipush (v := 7) dL_asks_99 (by decide) ?_
  refine z_icmp_ne (tgt := 113) dL_asks_101 (by decide) (fun _ => ?_) (fun q => absurd q ((by decide)))
  refine z_iload_n dL_asks_113 rfl ?_
  refine z_bipush (v := 8) dL_asks_114 (by decide) ?_
  refine z_icmp_ne (tgt := 127) dL_asks_116 (by decide) (fun q => absurd ((by decide)) q) (fun _ => ?_)
  refine z_aload_n dL_asks_119 rfl ?_
  refine z_iload_n dL_asks_120 rfl ?_
  refine z_callVH dL_asks_121 cv_L_82 (a_nodeOf hG hnx S.2.1 S.tg) rfl S.c rfl rfl ⟨(Nat.le_of_ble_eq_true rfl), (Nat.le_of_ble_eq_true rfl)⟩ (Nat.le_of_ble_eq_true rfl) (Nat.le_of_ble_eq_true rfl) (Nat.le_of_ble_eq_true rfl) (fun E s1 n1 q hx1 hq1 => ?_) (fun v s1 n1 hx1 hq1 => ?_)
  · obtain ⟨h1, h2, hE⟩ := hq1
    have hE0 := hE
    simp only [List.mem_cons, List.mem_nil_iff, or_false, Prod.mk.injEq] at hE
    rcases hE with ⟨rfl, -⟩
    · refine ⟨169, hL_asks_121_1, ?_⟩
      refine z_astore dL_asks_169 (by decide) ?_
      refine z_bipush (v := (-30)) dL_asks_171 (by decide) ?_
      exact z_iret dL_asks_173 rfl (Nat.le_of_ble_eq_true rfl) (Nat.le_of_ble_eq_true rfl) (Or.inr ⟨_, ⟨h1, h2, hE0⟩, by rw [zxc_I]⟩)
  · have hq0 := hq1
    obtain ⟨hc, u', w, rfl, hP, h1, h2⟩ := hq1
    refine z_goto (tgt := 168) dL_asks_124 (by decide) ?_
    exact z_iret dL_asks_168 rfl (Nat.le_of_ble_eq_true rfl) (Nat.le_of_ble_eq_true rfl) (Or.inl hq0)
set_option maxRecDepth 100000 in
set_option maxHeartbeats 1000000 in
theorem w_asks_startOf (hG : zKap G) (hnx : b + 82 ≤ nx) (S : zVs G σ b (nt, lim, mem, wk, slow, r, L, A, tk, sp, cs) R) : zMW G yL_asks kL_asks [.ref b, .int 9, .int x, .int y, .int z] σ nx (fun v σ' nx' => zW1 G σ σ' b (b + 82) (zPq (nt, lim, mem, wk, slow, r, L, A, tk, sp, cs) (zAc (A.getD x.toNatClampNeg (0, 0, 0, 0, 0, false)) 3)) (zk_node A.length x) (nt, lim, mem, wk, slow, r, L, A, tk, sp, cs) [(zEI, 1)] v) := by
  refine zMW.of (ls := [some (.ref b), some (.int 9), some (.int x), some (.int y), some (.int z), none]) (by decide +kernel) ⟨rfl, rfl⟩ (Nat.le_of_ble_eq_true rfl) (fun _ h => h) ?_
  refine z_iload_n dL_asks_0 rfl ?_
  refine z_if_ne (tgt := 12) dL_asks_1 (by decide) (fun _ => ?_) (fun q => absurd q ((by decide)))
  refine z_iload_n dL_asks_12 rfl ?_
  refine z_iconst (v := 1) dL_asks_13 (by decide) ?_
  refine z_icmp_ne (tgt := 26) dL_asks_14 (by decide) (fun _ => ?_) (fun q => absurd q ((by decide)))
  refine z_iload_n dL_asks_26 rfl ?_
  refine z_iconst (v := 2) dL_asks_27 (by decide) ?_
  refine z_icmp_ne (tgt := 39) dL_asks_28 (by decide) (fun _ => ?_) (fun q => absurd q ((by decide)))
  refine z_iload_n dL_asks_39 rfl ?_
  refine z_iconst (v := 3) dL_asks_40 (by decide) ?_
  refine z_icmp_ne (tgt := 55) dL_asks_41 (by decide) (fun _ => ?_) (fun q => absurd q ((by decide)))
  refine z_iload_n dL_asks_55 rfl ?_
  refine z_iconst (v := 4) dL_asks_56 (by decide) ?_
  refine z_icmp_ne (tgt := 71) dL_asks_57 (by decide) (fun _ => ?_) (fun q => absurd q ((by decide)))
  refine z_iload_n dL_asks_71 rfl ?_
  refine z_iconst (v := 5) dL_asks_72 (by decide) ?_
  refine z_icmp_ne (tgt := 84) dL_asks_73 (by decide) (fun _ => ?_) (fun q => absurd q ((by decide)))
  refine z_iload_n dL_asks_84 rfl ?_
  refine z_bipush (v := 6) dL_asks_85 (by decide) ?_
  refine z_icmp_ne (tgt := 98) dL_asks_87 (by decide) (fun _ => ?_) (fun q => absurd q ((by decide)))
  refine z_iload_n dL_asks_98 rfl ?_
  refine z_bipush (v := 7) dL_asks_99 (by decide) ?_
  refine z_icmp_ne (tgt := 113) dL_asks_101 (by decide) (fun _ => ?_) (fun q => absurd q ((by decide)))
  refine z_iload_n dL_asks_113 rfl ?_
  refine z_bipush (v := 8) dL_asks_114 (by decide) ?_
  refine z_icmp_ne (tgt := 127) dL_asks_116 (by decide) (fun _ => ?_) (fun q => absurd q ((by decide)))
  refine z_iload_n dL_asks_127 rfl ?_
  refine z_bipush (v := 9) dL_asks_128 (by decide) ?_
  refine z_icmp_ne (tgt := 141) dL_asks_130 (by decide) (fun q => absurd ((by decide)) q) (fun _ => ?_)
  refine z_aload_n dL_asks_133 rfl ?_
  refine z_iload_n dL_asks_134 rfl ?_
  refine z_callVH dL_asks_135 cv_L_85 (a_startOf hG hnx S.2.1 S.tg) rfl S.c rfl rfl ⟨(Nat.le_of_ble_eq_true rfl), (Nat.le_of_ble_eq_true rfl)⟩ (Nat.le_of_ble_eq_true rfl) (Nat.le_of_ble_eq_true rfl) (Nat.le_of_ble_eq_true rfl) (fun E s1 n1 q hx1 hq1 => ?_) (fun v s1 n1 hx1 hq1 => ?_)
  · obtain ⟨h1, h2, hE⟩ := hq1
    have hE0 := hE
    simp only [List.mem_cons, List.mem_nil_iff, or_false, Prod.mk.injEq] at hE
    rcases hE with ⟨rfl, -⟩
    · refine ⟨169, hL_asks_135_1, ?_⟩
      refine z_astore dL_asks_169 (by decide) ?_
      refine z_bipush (v := (-30)) dL_asks_171 (by decide) ?_
      exact z_iret dL_asks_173 rfl (Nat.le_of_ble_eq_true rfl) (Nat.le_of_ble_eq_true rfl) (Or.inr ⟨_, ⟨h1, h2, hE0⟩, by rw [zxc_I]⟩)
  · have hq0 := hq1
    obtain ⟨hc, u', w, rfl, hP, h1, h2⟩ := hq1
    refine z_goto (tgt := 168) dL_asks_138 (by decide) ?_
    exact z_iret dL_asks_168 rfl (Nat.le_of_ble_eq_true rfl) (Nat.le_of_ble_eq_true rfl) (Or.inl hq0)
set_option maxRecDepth 100000 in
set_option maxHeartbeats 1000000 in
theorem w_asks_isCached (hG : zKap G) (hnx : b + 82 ≤ nx) (S : zVs G σ b (nt, lim, mem, wk, slow, r, L, A, tk, sp, cs) R) : zMW G yL_asks kL_asks [.ref b, .int 10, .int x, .int y, .int z] σ nx (fun v σ' nx' => zW1 G σ σ' b (b + 82) (zPq (nt, lim, mem, wk, slow, r, L, A, tk, sp, cs) (if zcd L x.toNatClampNeg = true then 1 else 0)) (zk_node nt.length x) (nt, lim, mem, wk, slow, r, L, A, tk, sp, cs) [(zEI, 1)] v) := by
  refine zMW.of (ls := [some (.ref b), some (.int 10), some (.int x), some (.int y), some (.int z), none]) (by decide +kernel) ⟨rfl, rfl⟩ (Nat.le_of_ble_eq_true rfl) (fun _ h => h) ?_
  refine z_iload_n dL_asks_0 rfl ?_
  refine z_if_ne (tgt := 12) dL_asks_1 (by decide) (fun _ => ?_) (fun q => absurd q ((by decide)))
  refine z_iload_n dL_asks_12 rfl ?_
  refine z_iconst (v := 1) dL_asks_13 (by decide) ?_
  refine z_icmp_ne (tgt := 26) dL_asks_14 (by decide) (fun _ => ?_) (fun q => absurd q ((by decide)))
  refine z_iload_n dL_asks_26 rfl ?_
  refine z_iconst (v := 2) dL_asks_27 (by decide) ?_
  refine z_icmp_ne (tgt := 39) dL_asks_28 (by decide) (fun _ => ?_) (fun q => absurd q ((by decide)))
  refine z_iload_n dL_asks_39 rfl ?_
  refine z_iconst (v := 3) dL_asks_40 (by decide) ?_
  refine z_icmp_ne (tgt := 55) dL_asks_41 (by decide) (fun _ => ?_) (fun q => absurd q ((by decide)))
  refine z_iload_n dL_asks_55 rfl ?_
  refine z_iconst (v := 4) dL_asks_56 (by decide) ?_
  refine z_icmp_ne (tgt := 71) dL_asks_57 (by decide) (fun _ => ?_) (fun q => absurd q ((by decide)))
  refine z_iload_n dL_asks_71 rfl ?_
  refine z_iconst (v := 5) dL_asks_72 (by decide) ?_
  refine z_icmp_ne (tgt := 84) dL_asks_73 (by decide) (fun _ => ?_) (fun q => absurd q ((by decide)))
  refine z_iload_n dL_asks_84 rfl ?_
  refine z_bipush (v := 6) dL_asks_85 (by decide) ?_
  refine z_icmp_ne (tgt := 98) dL_asks_87 (by decide) (fun _ => ?_) (fun q => absurd q ((by decide)))
  refine z_iload_n dL_asks_98 rfl ?_
  refine z_bipush (v := 7) dL_asks_99 (by decide) ?_
  refine z_icmp_ne (tgt := 113) dL_asks_101 (by decide) (fun _ => ?_) (fun q => absurd q ((by decide)))
  refine z_iload_n dL_asks_113 rfl ?_
  refine z_bipush (v := 8) dL_asks_114 (by decide) ?_
  refine z_icmp_ne (tgt := 127) dL_asks_116 (by decide) (fun _ => ?_) (fun q => absurd q ((by decide)))
  refine z_iload_n dL_asks_127 rfl ?_
  refine z_bipush (v := 9) dL_asks_128 (by decide) ?_
  refine z_icmp_ne (tgt := 141) dL_asks_130 (by decide) (fun _ => ?_) (fun q => absurd q ((by decide)))
  refine z_iload_n dL_asks_141 rfl ?_
  refine z_bipush (v := 10) dL_asks_142 (by decide) ?_
  refine z_icmp_ne (tgt := 163) dL_asks_144 (by decide) (fun q => absurd ((by decide)) q) (fun _ => ?_)
  refine z_aload_n dL_asks_147 rfl ?_
  refine z_iload_n dL_asks_148 rfl ?_
  refine z_callVH dL_asks_149 cv_L_88 (a_isCached hG hnx S.2.1 S.tg) rfl S.c rfl rfl ⟨(Nat.le_of_ble_eq_true rfl), (Nat.le_of_ble_eq_true rfl)⟩ (Nat.le_of_ble_eq_true rfl) (Nat.le_of_ble_eq_true rfl) (Nat.le_of_ble_eq_true rfl) (fun E s1 n1 q hx1 hq1 => ?_) (fun v s1 n1 hx1 hq1 => ?_)
  · obtain ⟨h1, h2, hE⟩ := hq1
    have hE0 := hE
    simp only [List.mem_cons, List.mem_nil_iff, or_false, Prod.mk.injEq] at hE
    rcases hE with ⟨rfl, -⟩
    · refine ⟨169, hL_asks_149_1, ?_⟩
      refine z_astore dL_asks_169 (by decide) ?_
      refine z_bipush (v := (-30)) dL_asks_171 (by decide) ?_
      exact z_iret dL_asks_173 rfl (Nat.le_of_ble_eq_true rfl) (Nat.le_of_ble_eq_true rfl) (Or.inr ⟨_, ⟨h1, h2, hE0⟩, by rw [zxc_I]⟩)
  · have hq0 := hq1
    obtain ⟨hc, u', w, rfl, hP, h1, h2⟩ := hq1
    have hw : w = 0 ∨ w = 1 := by
      rw [hP.2]; split
      · exact Or.inr rfl
      · exact Or.inl rfl
    rcases hw with hw | hw
    · subst hw
      refine z_if_eq (tgt := 159) dL_asks_152 (by decide) (fun _ => ?_) (fun q => absurd (rfl) q)
      refine z_iconst (v := 0) dL_asks_159 (by decide) ?_
      refine z_goto (tgt := 168) dL_asks_160 (by decide) ?_
      exact z_iret dL_asks_168 rfl (Nat.le_of_ble_eq_true rfl) (Nat.le_of_ble_eq_true rfl) (Or.inl hq0)
    · subst hw
      refine z_if_eq (tgt := 159) dL_asks_152 (by decide) (fun q => absurd q ((by decide))) (fun _ => ?_)
      refine z_iconst (v := 1) dL_asks_155 (by decide) ?_
      refine z_goto (tgt := 168) dL_asks_156 (by decide) ?_
      exact z_iret dL_asks_168 rfl (Nat.le_of_ble_eq_true rfl) (Nat.le_of_ble_eq_true rfl) (Or.inl hq0)
set_option maxRecDepth 100000 in
set_option maxHeartbeats 1000000 in
theorem w_asks_digestInPlace (hG : zKap G) (hnx : b + 82 ≤ nx) (S : zVs G σ b (nt, lim, mem, wk, slow, r, L, A, tk, sp, cs) R) : zMW G yL_asks kL_asks [.ref b, .int 11, .int x, .int y, .int z] σ nx (fun v σ' nx' => zW1 G σ σ' b (b + 82) (zPq (nt, lim, mem, wk, slow, r, L, A, tk, sp, cs) (zsq (zct lim nt x.toNatClampNeg).flatten)) (zk_node nt.length x) (nt, lim, mem, wk, slow, r, L, A, tk, sp, cs) [(zEI, 1)] v) := by
  refine zMW.of (ls := [some (.ref b), some (.int 11), some (.int x), some (.int y), some (.int z), none]) (by decide +kernel) ⟨rfl, rfl⟩ (Nat.le_of_ble_eq_true rfl) (fun _ h => h) ?_
  refine z_iload_n dL_asks_0 rfl ?_
  refine z_if_ne (tgt := 12) dL_asks_1 (by decide) (fun _ => ?_) (fun q => absurd q ((by decide)))
  refine z_iload_n dL_asks_12 rfl ?_
  refine z_iconst (v := 1) dL_asks_13 (by decide) ?_
  refine z_icmp_ne (tgt := 26) dL_asks_14 (by decide) (fun _ => ?_) (fun q => absurd q ((by decide)))
  refine z_iload_n dL_asks_26 rfl ?_
  refine z_iconst (v := 2) dL_asks_27 (by decide) ?_
  refine z_icmp_ne (tgt := 39) dL_asks_28 (by decide) (fun _ => ?_) (fun q => absurd q ((by decide)))
  refine z_iload_n dL_asks_39 rfl ?_
  refine z_iconst (v := 3) dL_asks_40 (by decide) ?_
  refine z_icmp_ne (tgt := 55) dL_asks_41 (by decide) (fun _ => ?_) (fun q => absurd q ((by decide)))
  refine z_iload_n dL_asks_55 rfl ?_
  refine z_iconst (v := 4) dL_asks_56 (by decide) ?_
  refine z_icmp_ne (tgt := 71) dL_asks_57 (by decide) (fun _ => ?_) (fun q => absurd q ((by decide)))
  refine z_iload_n dL_asks_71 rfl ?_
  refine z_iconst (v := 5) dL_asks_72 (by decide) ?_
  refine z_icmp_ne (tgt := 84) dL_asks_73 (by decide) (fun _ => ?_) (fun q => absurd q ((by decide)))
  refine z_iload_n dL_asks_84 rfl ?_
  refine z_bipush (v := 6) dL_asks_85 (by decide) ?_
  refine z_icmp_ne (tgt := 98) dL_asks_87 (by decide) (fun _ => ?_) (fun q => absurd q ((by decide)))
  refine z_iload_n dL_asks_98 rfl ?_
  refine z_bipush (v := 7) dL_asks_99 (by decide) ?_
  refine z_icmp_ne (tgt := 113) dL_asks_101 (by decide) (fun _ => ?_) (fun q => absurd q ((by decide)))
  refine z_iload_n dL_asks_113 rfl ?_
  refine z_bipush (v := 8) dL_asks_114 (by decide) ?_
  refine z_icmp_ne (tgt := 127) dL_asks_116 (by decide) (fun _ => ?_) (fun q => absurd q ((by decide)))
  refine z_iload_n dL_asks_127 rfl ?_
  refine z_bipush (v := 9) dL_asks_128 (by decide) ?_
  refine z_icmp_ne (tgt := 141) dL_asks_130 (by decide) (fun _ => ?_) (fun q => absurd q ((by decide)))
  refine z_iload_n dL_asks_141 rfl ?_
  refine z_bipush (v := 10) dL_asks_142 (by decide) ?_
  refine z_icmp_ne (tgt := 163) dL_asks_144 (by decide) (fun _ => ?_) (fun q => absurd q ((by decide)))
  refine z_aload_n dL_asks_163 rfl ?_
  refine z_iload_n dL_asks_164 rfl ?_
  refine z_callVH dL_asks_165 cv_L_92 (a_digestInPlace hG hnx S.2.1 S.tg) rfl S.c rfl rfl ⟨(Nat.le_of_ble_eq_true rfl), (Nat.le_of_ble_eq_true rfl)⟩ (Nat.le_of_ble_eq_true rfl) (Nat.le_of_ble_eq_true rfl) (Nat.le_of_ble_eq_true rfl) (fun E s1 n1 q hx1 hq1 => ?_) (fun v s1 n1 hx1 hq1 => ?_)
  · obtain ⟨h1, h2, hE⟩ := hq1
    have hE0 := hE
    simp only [List.mem_cons, List.mem_nil_iff, or_false, Prod.mk.injEq] at hE
    rcases hE with ⟨rfl, -⟩
    · refine ⟨169, hL_asks_165_1, ?_⟩
      refine z_astore dL_asks_169 (by decide) ?_
      refine z_bipush (v := (-30)) dL_asks_171 (by decide) ?_
      exact z_iret dL_asks_173 rfl (Nat.le_of_ble_eq_true rfl) (Nat.le_of_ble_eq_true rfl) (Or.inr ⟨_, ⟨h1, h2, hE0⟩, by rw [zxc_I]⟩)
  · have hq0 := hq1
    obtain ⟨hc, u', w, rfl, hP, h1, h2⟩ := hq1
    exact z_iret dL_asks_168 rfl (Nat.le_of_ble_eq_true rfl) (Nat.le_of_ble_eq_true rfl) (Or.inl hq0)
set_option maxRecDepth 100000 in
set_option maxHeartbeats 1000000 in
theorem w_broad_isBroad (hG : zKap G) (hnx : b + 82 ≤ nx) (S : zVs G σ b (nt, lim, mem, wk, slow, r, L, A, tk, sp, cs) R) : zMW G yL_broad kL_broad [.ref b, .int x] σ nx (fun v σ' nx' => zW1 G σ σ' b (b + 82) (zPq (nt, lim, mem, wk, slow, r, L, A, tk, sp, cs) (if zbr lim nt x.toNatClampNeg = true then 1 else 0)) (zk_join5 nt x) (nt, lim, mem, wk, slow, r, L, A, tk, sp, cs) [(zEI, 1), (zES, 2)] v) := by
  refine zMW.of (ls := [some (.ref b), some (.int x), none]) (by decide +kernel) ⟨rfl, rfl⟩ (Nat.le_of_ble_eq_true rfl) (fun _ h => h) ?_
  refine z_aload_n dL_broad_0 rfl ?_
  refine z_iload_n dL_broad_1 rfl ?_
  refine z_callVH dL_broad_2 cv_L_95 (a_isBroad hG hnx S.2.1 S.tg) rfl S.c rfl rfl ⟨(Nat.le_of_ble_eq_true rfl), (Nat.le_of_ble_eq_true rfl)⟩ (Nat.le_of_ble_eq_true rfl) (Nat.le_of_ble_eq_true rfl) (Nat.le_of_ble_eq_true rfl) (fun E s1 n1 q hx1 hq1 => ?_) (fun v s1 n1 hx1 hq1 => ?_)
  · obtain ⟨h1, h2, hE⟩ := hq1
    have hE0 := hE
    simp only [List.mem_cons, List.mem_nil_iff, or_false, Prod.mk.injEq] at hE
    rcases hE with ⟨rfl, -⟩ | ⟨rfl, -⟩
    · refine ⟨14, hL_broad_2_1, ?_⟩
      refine z_astore_n dL_broad_14 (by decide) ?_
      refine z_bipush (v := (-30)) dL_broad_15 (by decide) ?_
      exact z_iret dL_broad_17 rfl (Nat.le_of_ble_eq_true rfl) (Nat.le_of_ble_eq_true rfl) (Or.inr ⟨_, ⟨h1, h2, hE0⟩, by rw [zxc_I]⟩)
    · refine ⟨18, hL_broad_2_2, ?_⟩
      refine z_astore_n dL_broad_18 (by decide) ?_
      refine z_bipush (v := (-10)) dL_broad_19 (by decide) ?_
      exact z_iret dL_broad_21 rfl (Nat.le_of_ble_eq_true rfl) (Nat.le_of_ble_eq_true rfl) (Or.inr ⟨_, ⟨h1, h2, hE0⟩, by rw [zxc_S]⟩)
  · have hq0 := hq1
    obtain ⟨hc, u', w, rfl, hP, h1, h2⟩ := hq1
    have hw : w = 0 ∨ w = 1 := by
      rw [hP.2]; split
      · exact Or.inr rfl
      · exact Or.inl rfl
    rcases hw with hw | hw
    · subst hw
      refine z_if_eq (tgt := 12) dL_broad_5 (by decide) (fun _ => ?_) (fun q => absurd (rfl) q)
      refine z_iconst (v := 0) dL_broad_12 (by decide) ?_
      exact z_iret dL_broad_13 rfl (Nat.le_of_ble_eq_true rfl) (Nat.le_of_ble_eq_true rfl) (Or.inl hq0)
    · subst hw
      refine z_if_eq (tgt := 12) dL_broad_5 (by decide) (fun q => absurd q ((by decide))) (fun _ => ?_)
      refine z_iconst (v := 1) dL_broad_8 (by decide) ?_
      refine z_goto (tgt := 13) dL_broad_9 (by decide) ?_
      exact z_iret dL_broad_13 rfl (Nat.le_of_ble_eq_true rfl) (Nat.le_of_ble_eq_true rfl) (Or.inl hq0)
set_option maxRecDepth 100000 in
set_option maxHeartbeats 1000000 in
theorem w_marked_mark (hG : zKap G) (hnx : b + 82 ≤ nx) (hy : y = 0 ∨ y = 1) (S : zVs G σ b (nt, lim, mem, wk, slow, r, L, A, tk, sp, cs) R) : zMW G yL_marked kL_marked [.ref b, .int x, .int y] σ nx (fun v σ' nx' => zW1 G σ σ' b (b + 82) (zPq (zmark nt x.toNatClampNeg y, lim, mem, wk, slow, r, L, A, tk, sp, cs) ((nt.getD x.toNatClampNeg zdf).2.2.1 11)) (zk_node nt.length x) (nt, lim, mem, wk, slow, r, L, A, tk, sp, cs) [(zEI, 1)] v) := by
  refine zMW.of (ls := [some (.ref b), some (.int x), some (.int y), none]) (by decide +kernel) ⟨rfl, rfl⟩ (Nat.le_of_ble_eq_true rfl) (fun _ h => h) ?_
  refine z_aload_n dL_marked_0 rfl ?_
  refine z_iload_n dL_marked_1 rfl ?_
  refine z_iload_n dL_marked_2 rfl ?_
  refine z_callVH dL_marked_3 cv_L_98 (a_mark hG hnx hy S.2.1 S.tg) rfl S.c rfl rfl ⟨(Nat.le_of_ble_eq_true rfl), (Nat.le_of_ble_eq_true rfl)⟩ (Nat.le_of_ble_eq_true rfl) (Nat.le_of_ble_eq_true rfl) (Nat.le_of_ble_eq_true rfl) (fun E s1 n1 q hx1 hq1 => ?_) (fun v s1 n1 hx1 hq1 => ?_)
  · obtain ⟨h1, h2, hE⟩ := hq1
    have hE0 := hE
    simp only [List.mem_cons, List.mem_nil_iff, or_false, Prod.mk.injEq] at hE
    rcases hE with ⟨rfl, -⟩
    · refine ⟨15, hL_marked_3_1, ?_⟩
      refine z_astore_n dL_marked_15 (by decide) ?_
      refine z_bipush (v := (-30)) dL_marked_16 (by decide) ?_
      exact z_iret dL_marked_18 rfl (Nat.le_of_ble_eq_true rfl) (Nat.le_of_ble_eq_true rfl) (Or.inr ⟨_, ⟨h1, h2, hE0⟩, by rw [zxc_I]⟩)
  · have hq0 := hq1
    obtain ⟨hc, u', w, rfl, hP, h1, h2⟩ := hq1
    have hw : w = 0 ∨ w = 1 := by
      exact zmk01 S.2.1 hc hP
    rcases hw with hw | hw
    · subst hw
      refine z_if_eq (tgt := 13) dL_marked_6 (by decide) (fun _ => ?_) (fun q => absurd (rfl) q)
      refine z_iconst (v := 0) dL_marked_13 (by decide) ?_
      exact z_iret dL_marked_14 rfl (Nat.le_of_ble_eq_true rfl) (Nat.le_of_ble_eq_true rfl) (Or.inl hq0)
    · subst hw
      refine z_if_eq (tgt := 13) dL_marked_6 (by decide) (fun q => absurd q ((by decide))) (fun _ => ?_)
      refine z_iconst (v := 1) dL_marked_9 (by decide) ?_
      refine z_goto (tgt := 14) dL_marked_10 (by decide) ?_
      exact z_iret dL_marked_14 rfl (Nat.le_of_ble_eq_true rfl) (Nat.le_of_ble_eq_true rfl) (Or.inl hq0)
set_option maxRecDepth 100000 in
theorem g_asks_keyAt {i j q : Nat} (hG : zKap G) (S : zVs G σ b (nt, lim, mem, wk, slow, r, L, A, tk, sp, cs) R) (hi : i < nt.length) (hj : j < (zct lim nt i).length) (hq : q < zsz (zct lim nt i) j) : zMW G yL_asks k0L_asks [.ref b, .int 3, .int (nI i), .int (nI j), .int (nI q)] σ nx (fun v σ' nx' => v = some (.int (zrw (zct lim nt i) j q).1) ∧ zVs G σ' b (nt, lim, mem, wk, slow, r, L, A, tk, sp, cs) R ∧ nx' = nx) := by
  refine zMW.of (ls := [some (.ref b), some (.int 3), some (.int (nI i)), some (.int (nI j)), some (.int (nI q)), none]) (by decide +kernel) ⟨rfl, rfl⟩ (Nat.le_of_ble_eq_true rfl) (fun _ h => h) ?_
  refine z_iload_n dL_asks_0 rfl ?_
  refine z_if_ne (tgt := 12) dL_asks_1 (by decide) (fun _ => ?_) (fun q => absurd q ((by decide)))
  refine z_iload_n dL_asks_12 rfl ?_
  refine z_iconst (v := 1) dL_asks_13 (by decide) ?_
  refine z_icmp_ne (tgt := 26) dL_asks_14 (by decide) (fun _ => ?_) (fun q => absurd q ((by decide)))
  refine z_iload_n dL_asks_26 rfl ?_
  refine z_iconst (v := 2) dL_asks_27 (by decide) ?_
  refine z_icmp_ne (tgt := 39) dL_asks_28 (by decide) (fun _ => ?_) (fun q => absurd q ((by decide)))
  refine z_iload_n dL_asks_39 rfl ?_
  refine z_iconst (v := 3) dL_asks_40 (by decide) ?_
  refine z_icmp_ne (tgt := 55) dL_asks_41 (by decide) (fun q => absurd ((by decide)) q) (fun _ => ?_)
  refine z_aload_n dL_asks_44 rfl ?_
  refine z_iload_n dL_asks_45 rfl ?_
  refine z_iload_n dL_asks_46 rfl ?_
  refine z_iload dL_asks_47 rfl ?_
  refine z_callV dL_asks_49 cv0_L_67 (q_keyAt hG S hi hj hq) rfl S.c rfl rfl ⟨(Nat.le_of_ble_eq_true rfl), (Nat.le_of_ble_eq_true rfl)⟩ (Nat.le_of_ble_eq_true rfl) (Nat.le_of_ble_eq_true rfl) (Nat.le_of_ble_eq_true rfl) (fun v σ1 nx1 hx1 hq1 => ?_)
  obtain ⟨rfl, S, rfl⟩ := hq1
  refine z_goto (tgt := 168) dL_asks_52 (by decide) ?_
  exact z_iret dL_asks_168 rfl (Nat.le_of_ble_eq_true rfl) (Nat.le_of_ble_eq_true rfl) ⟨rfl, S, rfl⟩
set_option maxRecDepth 100000 in
theorem g_asks_valueAt {i j q : Nat} (hG : zKap G) (S : zVs G σ b (nt, lim, mem, wk, slow, r, L, A, tk, sp, cs) R) (hi : i < nt.length) (hj : j < (zct lim nt i).length) (hq : q < zsz (zct lim nt i) j) : zMW G yL_asks k0L_asks [.ref b, .int 4, .int (nI i), .int (nI j), .int (nI q)] σ nx (fun v σ' nx' => v = some (.int (zrw (zct lim nt i) j q).2) ∧ zVs G σ' b (nt, lim, mem, wk, slow, r, L, A, tk, sp, cs) R ∧ nx' = nx) := by
  refine zMW.of (ls := [some (.ref b), some (.int 4), some (.int (nI i)), some (.int (nI j)), some (.int (nI q)), none]) (by decide +kernel) ⟨rfl, rfl⟩ (Nat.le_of_ble_eq_true rfl) (fun _ h => h) ?_
  refine z_iload_n dL_asks_0 rfl ?_
  refine z_if_ne (tgt := 12) dL_asks_1 (by decide) (fun _ => ?_) (fun q => absurd q ((by decide)))
  refine z_iload_n dL_asks_12 rfl ?_
  refine z_iconst (v := 1) dL_asks_13 (by decide) ?_
  refine z_icmp_ne (tgt := 26) dL_asks_14 (by decide) (fun _ => ?_) (fun q => absurd q ((by decide)))
  refine z_iload_n dL_asks_26 rfl ?_
  refine z_iconst (v := 2) dL_asks_27 (by decide) ?_
  refine z_icmp_ne (tgt := 39) dL_asks_28 (by decide) (fun _ => ?_) (fun q => absurd q ((by decide)))
  refine z_iload_n dL_asks_39 rfl ?_
  refine z_iconst (v := 3) dL_asks_40 (by decide) ?_
  refine z_icmp_ne (tgt := 55) dL_asks_41 (by decide) (fun _ => ?_) (fun q => absurd q ((by decide)))
  refine z_iload_n dL_asks_55 rfl ?_
  refine z_iconst (v := 4) dL_asks_56 (by decide) ?_
  refine z_icmp_ne (tgt := 71) dL_asks_57 (by decide) (fun q => absurd ((by decide)) q) (fun _ => ?_)
  refine z_aload_n dL_asks_60 rfl ?_
  refine z_iload_n dL_asks_61 rfl ?_
  refine z_iload_n dL_asks_62 rfl ?_
  refine z_iload dL_asks_63 rfl ?_
  refine z_callV dL_asks_65 cv0_L_70 (q_valueAt hG S hi hj hq) rfl S.c rfl rfl ⟨(Nat.le_of_ble_eq_true rfl), (Nat.le_of_ble_eq_true rfl)⟩ (Nat.le_of_ble_eq_true rfl) (Nat.le_of_ble_eq_true rfl) (Nat.le_of_ble_eq_true rfl) (fun v σ1 nx1 hx1 hq1 => ?_)
  obtain ⟨rfl, S, rfl⟩ := hq1
  refine z_goto (tgt := 168) dL_asks_68 (by decide) ?_
  exact z_iret dL_asks_168 rfl (Nat.le_of_ble_eq_true rfl) (Nat.le_of_ble_eq_true rfl) ⟨rfl, S, rfl⟩
set_option maxRecDepth 100000 in
theorem g_broad {i : Nat} (hG : zKap G) (S : zVs G σ b (nt, lim, mem, wk, slow, r, L, A, tk, sp, cs) R) (hi : i < nt.length) (hk : zkd nt i = 5) : zMW G yL_broad k0L_broad [.ref b, .int (nI i)] σ nx (fun v σ' nx' => v = some (.int (if zbr lim nt i = true then 1 else 0)) ∧ zVs G σ' b (nt, lim, mem, wk, slow, r, L, A, tk, sp, cs) R ∧ nx' = nx) := by
  refine zMW.of (ls := [some (.ref b), some (.int (nI i)), none]) (by decide +kernel) ⟨rfl, rfl⟩ (Nat.le_of_ble_eq_true rfl) (fun _ h => h) ?_
  refine z_aload_n dL_broad_0 rfl ?_
  refine z_iload_n dL_broad_1 rfl ?_
  refine z_callV dL_broad_2 cv0_L_95 (q_isBroad hG S hi hk) rfl S.c rfl rfl ⟨(Nat.le_of_ble_eq_true rfl), (Nat.le_of_ble_eq_true rfl)⟩ (Nat.le_of_ble_eq_true rfl) (Nat.le_of_ble_eq_true rfl) (Nat.le_of_ble_eq_true rfl) (fun v σ1 nx1 hx1 hq1 => ?_)
  obtain ⟨rfl, S, rfl⟩ := hq1
  by_cases c : zbr lim nt i = true
  · rw [if_pos c]
    refine z_if_eq (tgt := 12) dL_broad_5 (by decide) (fun q => absurd q ((by decide))) (fun _ => ?_)
    refine z_iconst (v := 1) dL_broad_8 (by decide) ?_
    refine z_goto (tgt := 13) dL_broad_9 (by decide) ?_
    exact z_iret dL_broad_13 rfl (Nat.le_of_ble_eq_true rfl) (Nat.le_of_ble_eq_true rfl) ⟨rfl, S, rfl⟩
  · rw [if_neg c]
    refine z_if_eq (tgt := 12) dL_broad_5 (by decide) (fun _ => ?_) (fun q => absurd (rfl) q)
    refine z_iconst (v := 0) dL_broad_12 (by decide) ?_
    exact z_iret dL_broad_13 rfl (Nat.le_of_ble_eq_true rfl) (Nat.le_of_ble_eq_true rfl) ⟨rfl, S, rfl⟩
end
