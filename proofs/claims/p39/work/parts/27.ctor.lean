/-! constructors -/
theorem zIn_step {G : zG} {σ σ1 : zH} {l j n : Nat} {e e2 : va_E} (hA : ∀ i, i < j → zInts G σ (l + 1 + 2 * i) n (fun _ => 0)) (g1 : zInts G σ1 (l + 1 + 2 * j) n (fun _ => 0)) (g2 : ∀ b, b ≠ l + 1 + 2 * j → b ≠ l + 1 + 2 * j + 1 → σ1 b = zu σ (l + 1 + 2 * j) e b) : ∀ i, i < j + 1 → zInts G (zu σ1 l e2) (l + 1 + 2 * i) n (fun _ => 0) := by
  intro i hi
  by_cases e : i = j
  · subst e; exact g1.fr fun b a c => zu_ne (by omega)
  · exact (hA i (by omega)).fr fun b a c => by rw [zu_ne (by omega), g2 b (by omega) (by omega), zu_ne (by omega)]
theorem zIn_fr {σ0 σ σ1 : zH} {l j : Nat} {e e2 : va_E} (h : ∀ b, b < l ∨ l + 1 + 2 * j ≤ b → σ b = σ0 b) (g2 : ∀ b, b ≠ l + 1 + 2 * j → b ≠ l + 1 + 2 * j + 1 → σ1 b = zu σ (l + 1 + 2 * j) e b) : ∀ b, b < l ∨ l + 1 + 2 * (j + 1) ≤ b → zu σ1 l e2 b = σ0 b := by
  intro b hb
  rw [zu_ne (by omega), g2 b (by omega) (by omega), zu_ne (by omega)]
  exact h b (by omega)
theorem zIn_c {σ σ1 : zH} {l j : Nat} {e e2 : va_E} (h : σ l = some e2) (g2 : ∀ b, b ≠ l + 1 + 2 * j → b ≠ l + 1 + 2 * j + 1 → σ1 b = zu σ (l + 1 + 2 * j) e b) : σ1 l = some e2 := by
  rw [g2 l (by omega) (by omega), zu_ne (by omega)]; exact h
set_option maxRecDepth 100000 in
theorem c_X6_init {G : zG} {σ : zH} {l : Nat} (h : σ l = some (.inr (6, [.null, .null, .null, .null, .null, .null, .int 0, .int 0, .int 0, .int 0]))) : zM G yX6_init kX6_init [.ref l] σ (l + 1) (fun v σ' nx' => v = none ∧ zLg G σ' l [] 0 0 0 ∧ zFr σ σ' l 13 ∧ nx' = l + 13) := by
  refine zM.of (ls := [some (.ref l)]) (by decide +kernel) ⟨rfl, rfl, rfl⟩ (Nat.le_of_ble_eq_true rfl) (fun _ h => h) ?_
  have f0 : ∀ b, b < l ∨ l + 1 + 2 * 0 ≤ b → σ b = σ b := fun _ _ => rfl
  have a0 : ∀ i, i < 0 → zInts G σ (l + 1 + 2 * i) 224 (fun _ => 0) := fun i hi => absurd hi (Nat.not_lt_zero _)
  have c0 := h
  refine z_aload_n dX6_init_0 rfl ?_
  refine z_objInit dX6_init_1 cv_X6_3 (Nat.le_of_ble_eq_true rfl) (Nat.le_of_ble_eq_true rfl) ?_
  refine z_aload_n dX6_init_4 rfl ?_
  refine z_new dX6_init_5 nw_X6_9 (Nat.le_of_ble_eq_true rfl) (Nat.le_of_ble_eq_true rfl) ?_
  refine z_dup dX6_init_8 rfl ?_
  refine z_sipush (v := 224) dX6_init_9 (by decide) ?_
  refine z_callI dX6_init_12 cv_X6_11 (c_X4_init (n := 224) (a := l + 1 + 2 * 0) (zu_eq _ _ _) (by omega)) rfl rfl ⟨Nat.le_of_ble_eq_true rfl, Nat.le_of_ble_eq_true rfl⟩ (Nat.le_of_ble_eq_true rfl) (Nat.le_of_ble_eq_true rfl) (Nat.le_of_ble_eq_true rfl) (fun v s0 n0 hx0 hq0 => ?_)
  obtain ⟨rfl, g0, k0, rfl⟩ := hq0
  have e0 := zIn_c (j := 0) c0 k0
  refine z_putF dX6_init_15 ff_X6_14 rfl e0 rfl rfl (Nat.le_of_ble_eq_true rfl) ?_
  have a1 := fun e2 => zIn_step (e2 := e2) a0 g0 k0
  have f1 := fun e2 => zIn_fr (j := 0) (e2 := e2) f0 k0
  have c1 : zu s0 l (.inr (6, ([Value.null, .null, .null, .null, .null, .null, .int 0, .int 0, .int 0, .int 0] : List Value).set 0 (.ref (l + 1)))) l = some (.inr (6, [.ref (l + 1), .null, .null, .null, .null, .null, .int 0, .int 0, .int 0, .int 0])) := zu_eq _ _ _
  refine z_aload_n dX6_init_18 rfl ?_
  refine z_new dX6_init_19 nw_X6_9 (Nat.le_of_ble_eq_true rfl) (Nat.le_of_ble_eq_true rfl) ?_
  refine z_dup dX6_init_22 rfl ?_
  refine z_sipush (v := 224) dX6_init_23 (by decide) ?_
  refine z_callI dX6_init_26 cv_X6_11 (c_X4_init (n := 224) (a := l + 1 + 2 * 1) (zu_eq _ _ _) (by omega)) rfl rfl ⟨Nat.le_of_ble_eq_true rfl, Nat.le_of_ble_eq_true rfl⟩ (Nat.le_of_ble_eq_true rfl) (Nat.le_of_ble_eq_true rfl) (Nat.le_of_ble_eq_true rfl) (fun v s1 n1 hx1 hq1 => ?_)
  obtain ⟨rfl, g1, k1, rfl⟩ := hq1
  have e1 := zIn_c (j := 1) c1 k1
  refine z_putF dX6_init_29 ff_X6_20 rfl e1 rfl rfl (Nat.le_of_ble_eq_true rfl) ?_
  have a2 := fun e2 => zIn_step (e2 := e2) (a1 _) g1 k1
  have f2 := fun e2 => zIn_fr (j := 1) (e2 := e2) (f1 _) k1
  have c2 : zu s1 l (.inr (6, ([Value.ref (l + 1), .null, .null, .null, .null, .null, .int 0, .int 0, .int 0, .int 0] : List Value).set 1 (.ref (l + 3)))) l = some (.inr (6, [.ref (l + 1), .ref (l + 3), .null, .null, .null, .null, .int 0, .int 0, .int 0, .int 0])) := zu_eq _ _ _
  refine z_aload_n dX6_init_32 rfl ?_
  refine z_new dX6_init_33 nw_X6_9 (Nat.le_of_ble_eq_true rfl) (Nat.le_of_ble_eq_true rfl) ?_
  refine z_dup dX6_init_36 rfl ?_
  refine z_sipush (v := 224) dX6_init_37 (by decide) ?_
  refine z_callI dX6_init_40 cv_X6_11 (c_X4_init (n := 224) (a := l + 1 + 2 * 2) (zu_eq _ _ _) (by omega)) rfl rfl ⟨Nat.le_of_ble_eq_true rfl, Nat.le_of_ble_eq_true rfl⟩ (Nat.le_of_ble_eq_true rfl) (Nat.le_of_ble_eq_true rfl) (Nat.le_of_ble_eq_true rfl) (fun v s2 n2 hx2 hq2 => ?_)
  obtain ⟨rfl, g2, k2, rfl⟩ := hq2
  have e2 := zIn_c (j := 2) c2 k2
  refine z_putF dX6_init_43 ff_X6_23 rfl e2 rfl rfl (Nat.le_of_ble_eq_true rfl) ?_
  have a3 := fun e2 => zIn_step (e2 := e2) (a2 _) g2 k2
  have f3 := fun e2 => zIn_fr (j := 2) (e2 := e2) (f2 _) k2
  have c3 : zu s2 l (.inr (6, ([Value.ref (l + 1), .ref (l + 3), .null, .null, .null, .null, .int 0, .int 0, .int 0, .int 0] : List Value).set 2 (.ref (l + 5)))) l = some (.inr (6, [.ref (l + 1), .ref (l + 3), .ref (l + 5), .null, .null, .null, .int 0, .int 0, .int 0, .int 0])) := zu_eq _ _ _
  refine z_aload_n dX6_init_46 rfl ?_
  refine z_new dX6_init_47 nw_X6_9 (Nat.le_of_ble_eq_true rfl) (Nat.le_of_ble_eq_true rfl) ?_
  refine z_dup dX6_init_50 rfl ?_
  refine z_sipush (v := 224) dX6_init_51 (by decide) ?_
  refine z_callI dX6_init_54 cv_X6_11 (c_X4_init (n := 224) (a := l + 1 + 2 * 3) (zu_eq _ _ _) (by omega)) rfl rfl ⟨Nat.le_of_ble_eq_true rfl, Nat.le_of_ble_eq_true rfl⟩ (Nat.le_of_ble_eq_true rfl) (Nat.le_of_ble_eq_true rfl) (Nat.le_of_ble_eq_true rfl) (fun v s3 n3 hx3 hq3 => ?_)
  obtain ⟨rfl, g3, k3, rfl⟩ := hq3
  have e3 := zIn_c (j := 3) c3 k3
  refine z_putF dX6_init_57 ff_X6_26 rfl e3 rfl rfl (Nat.le_of_ble_eq_true rfl) ?_
  have a4 := fun e2 => zIn_step (e2 := e2) (a3 _) g3 k3
  have f4 := fun e2 => zIn_fr (j := 3) (e2 := e2) (f3 _) k3
  have c4 : zu s3 l (.inr (6, ([Value.ref (l + 1), .ref (l + 3), .ref (l + 5), .null, .null, .null, .int 0, .int 0, .int 0, .int 0] : List Value).set 3 (.ref (l + 7)))) l = some (.inr (6, [.ref (l + 1), .ref (l + 3), .ref (l + 5), .ref (l + 7), .null, .null, .int 0, .int 0, .int 0, .int 0])) := zu_eq _ _ _
  refine z_aload_n dX6_init_60 rfl ?_
  refine z_new dX6_init_61 nw_X6_9 (Nat.le_of_ble_eq_true rfl) (Nat.le_of_ble_eq_true rfl) ?_
  refine z_dup dX6_init_64 rfl ?_
  refine z_sipush (v := 224) dX6_init_65 (by decide) ?_
  refine z_callI dX6_init_68 cv_X6_11 (c_X4_init (n := 224) (a := l + 1 + 2 * 4) (zu_eq _ _ _) (by omega)) rfl rfl ⟨Nat.le_of_ble_eq_true rfl, Nat.le_of_ble_eq_true rfl⟩ (Nat.le_of_ble_eq_true rfl) (Nat.le_of_ble_eq_true rfl) (Nat.le_of_ble_eq_true rfl) (fun v s4 n4 hx4 hq4 => ?_)
  obtain ⟨rfl, g4, k4, rfl⟩ := hq4
  have e4 := zIn_c (j := 4) c4 k4
  refine z_putF dX6_init_71 ff_X6_29 rfl e4 rfl rfl (Nat.le_of_ble_eq_true rfl) ?_
  have a5 := fun e2 => zIn_step (e2 := e2) (a4 _) g4 k4
  have f5 := fun e2 => zIn_fr (j := 4) (e2 := e2) (f4 _) k4
  have c5 : zu s4 l (.inr (6, ([Value.ref (l + 1), .ref (l + 3), .ref (l + 5), .ref (l + 7), .null, .null, .int 0, .int 0, .int 0, .int 0] : List Value).set 4 (.ref (l + 9)))) l = some (.inr (6, [.ref (l + 1), .ref (l + 3), .ref (l + 5), .ref (l + 7), .ref (l + 9), .null, .int 0, .int 0, .int 0, .int 0])) := zu_eq _ _ _
  refine z_aload_n dX6_init_74 rfl ?_
  refine z_new dX6_init_75 nw_X6_9 (Nat.le_of_ble_eq_true rfl) (Nat.le_of_ble_eq_true rfl) ?_
  refine z_dup dX6_init_78 rfl ?_
  refine z_sipush (v := 224) dX6_init_79 (by decide) ?_
  refine z_callI dX6_init_82 cv_X6_11 (c_X4_init (n := 224) (a := l + 1 + 2 * 5) (zu_eq _ _ _) (by omega)) rfl rfl ⟨Nat.le_of_ble_eq_true rfl, Nat.le_of_ble_eq_true rfl⟩ (Nat.le_of_ble_eq_true rfl) (Nat.le_of_ble_eq_true rfl) (Nat.le_of_ble_eq_true rfl) (fun v s5 n5 hx5 hq5 => ?_)
  obtain ⟨rfl, g5, k5, rfl⟩ := hq5
  have e5 := zIn_c (j := 5) c5 k5
  refine z_putF dX6_init_85 ff_X6_32 rfl e5 rfl rfl (Nat.le_of_ble_eq_true rfl) ?_
  have a6 := fun e2 => zIn_step (e2 := e2) (a5 _) g5 k5
  have f6 := fun e2 => zIn_fr (j := 5) (e2 := e2) (f5 _) k5
  have c6 : zu s5 l (.inr (6, ([Value.ref (l + 1), .ref (l + 3), .ref (l + 5), .ref (l + 7), .ref (l + 9), .null, .int 0, .int 0, .int 0, .int 0] : List Value).set 5 (.ref (l + 11)))) l = some (.inr (6, [.ref (l + 1), .ref (l + 3), .ref (l + 5), .ref (l + 7), .ref (l + 9), .ref (l + 11), .int 0, .int 0, .int 0, .int 0])) := zu_eq _ _ _
  exact z_vret dX6_init_88 rfl (Nat.le_of_ble_eq_true rfl) (Nat.le_of_ble_eq_true rfl) ⟨rfl, ⟨fun _ _ => 0, c6, a6 _, fun k a q => by simp at q, by decide⟩, fun b hb => f6 _ b (by omega), rfl⟩
set_option maxRecDepth 100000 in
theorem c_X10_init {G : zG} {σ : zH} {l : Nat} (h : σ l = some (.inr (10, [.null, .null, .null, .int 0, .int 0, .int 0, .int 0]))) : zM G yX10_init kX10_init [.ref l] σ (l + 1) (fun v σ' nx' => v = none ∧ zSt0 G σ' l ∧ zFr σ σ' l 7 ∧ nx' = l + 7) := by
  refine zM.of (ls := [some (.ref l)]) (by decide +kernel) ⟨rfl, rfl, rfl⟩ (Nat.le_of_ble_eq_true rfl) (fun _ h => h) ?_
  have f0 : ∀ b, b < l ∨ l + 1 + 2 * 0 ≤ b → σ b = σ b := fun _ _ => rfl
  have a0 : ∀ i, i < 0 → zInts G σ (l + 1 + 2 * i) 8 (fun _ => 0) := fun i hi => absurd hi (Nat.not_lt_zero _)
  have c0 := h
  refine z_aload_n dX10_init_0 rfl ?_
  refine z_objInit dX10_init_1 cv_X10_3 (Nat.le_of_ble_eq_true rfl) (Nat.le_of_ble_eq_true rfl) ?_
  refine z_aload_n dX10_init_4 rfl ?_
  refine z_new dX10_init_5 nw_X10_9 (Nat.le_of_ble_eq_true rfl) (Nat.le_of_ble_eq_true rfl) ?_
  refine z_dup dX10_init_8 rfl ?_
  refine z_bipush (v := 8) dX10_init_9 (by decide) ?_
  refine z_callI dX10_init_11 cv_X10_11 (c_X4_init (n := 8) (a := l + 1 + 2 * 0) (zu_eq _ _ _) (by omega)) rfl rfl ⟨Nat.le_of_ble_eq_true rfl, Nat.le_of_ble_eq_true rfl⟩ (Nat.le_of_ble_eq_true rfl) (Nat.le_of_ble_eq_true rfl) (Nat.le_of_ble_eq_true rfl) (fun v s0 n0 hx0 hq0 => ?_)
  obtain ⟨rfl, g0, k0, rfl⟩ := hq0
  have e0 := zIn_c (j := 0) c0 k0
  refine z_putF dX10_init_14 ff_X10_14 rfl e0 rfl rfl (Nat.le_of_ble_eq_true rfl) ?_
  have a1 := fun e2 => zIn_step (e2 := e2) a0 g0 k0
  have f1 := fun e2 => zIn_fr (j := 0) (e2 := e2) f0 k0
  have c1 : zu s0 l (.inr (10, ([Value.null, .null, .null, .int 0, .int 0, .int 0, .int 0] : List Value).set 0 (.ref (l + 1)))) l = some (.inr (10, [.ref (l + 1), .null, .null, .int 0, .int 0, .int 0, .int 0])) := zu_eq _ _ _
  refine z_aload_n dX10_init_17 rfl ?_
  refine z_new dX10_init_18 nw_X10_9 (Nat.le_of_ble_eq_true rfl) (Nat.le_of_ble_eq_true rfl) ?_
  refine z_dup dX10_init_21 rfl ?_
  refine z_bipush (v := 8) dX10_init_22 (by decide) ?_
  refine z_callI dX10_init_24 cv_X10_11 (c_X4_init (n := 8) (a := l + 1 + 2 * 1) (zu_eq _ _ _) (by omega)) rfl rfl ⟨Nat.le_of_ble_eq_true rfl, Nat.le_of_ble_eq_true rfl⟩ (Nat.le_of_ble_eq_true rfl) (Nat.le_of_ble_eq_true rfl) (Nat.le_of_ble_eq_true rfl) (fun v s1 n1 hx1 hq1 => ?_)
  obtain ⟨rfl, g1, k1, rfl⟩ := hq1
  have e1 := zIn_c (j := 1) c1 k1
  refine z_putF dX10_init_27 ff_X10_20 rfl e1 rfl rfl (Nat.le_of_ble_eq_true rfl) ?_
  have a2 := fun e2 => zIn_step (e2 := e2) (a1 _) g1 k1
  have f2 := fun e2 => zIn_fr (j := 1) (e2 := e2) (f1 _) k1
  have c2 : zu s1 l (.inr (10, ([Value.ref (l + 1), .null, .null, .int 0, .int 0, .int 0, .int 0] : List Value).set 1 (.ref (l + 3)))) l = some (.inr (10, [.ref (l + 1), .ref (l + 3), .null, .int 0, .int 0, .int 0, .int 0])) := zu_eq _ _ _
  refine z_aload_n dX10_init_30 rfl ?_
  refine z_new dX10_init_31 nw_X10_9 (Nat.le_of_ble_eq_true rfl) (Nat.le_of_ble_eq_true rfl) ?_
  refine z_dup dX10_init_34 rfl ?_
  refine z_bipush (v := 8) dX10_init_35 (by decide) ?_
  refine z_callI dX10_init_37 cv_X10_11 (c_X4_init (n := 8) (a := l + 1 + 2 * 2) (zu_eq _ _ _) (by omega)) rfl rfl ⟨Nat.le_of_ble_eq_true rfl, Nat.le_of_ble_eq_true rfl⟩ (Nat.le_of_ble_eq_true rfl) (Nat.le_of_ble_eq_true rfl) (Nat.le_of_ble_eq_true rfl) (fun v s2 n2 hx2 hq2 => ?_)
  obtain ⟨rfl, g2, k2, rfl⟩ := hq2
  have e2 := zIn_c (j := 2) c2 k2
  refine z_putF dX10_init_40 ff_X10_23 rfl e2 rfl rfl (Nat.le_of_ble_eq_true rfl) ?_
  have a3 := fun e2 => zIn_step (e2 := e2) (a2 _) g2 k2
  have f3 := fun e2 => zIn_fr (j := 2) (e2 := e2) (f2 _) k2
  have c3 : zu s2 l (.inr (10, ([Value.ref (l + 1), .ref (l + 3), .null, .int 0, .int 0, .int 0, .int 0] : List Value).set 2 (.ref (l + 5)))) l = some (.inr (10, [.ref (l + 1), .ref (l + 3), .ref (l + 5), .int 0, .int 0, .int 0, .int 0])) := zu_eq _ _ _
  exact z_vret dX10_init_43 rfl (Nat.le_of_ble_eq_true rfl) (Nat.le_of_ble_eq_true rfl) ⟨rfl, ⟨_, _, _, _, _, _, _, c3, a3 _ 0 (by decide), a3 _ 1 (by decide), a3 _ 2 (by decide)⟩, fun b hb => f3 _ b (by omega), rfl⟩
set_option maxRecDepth 100000 in
theorem c_X0_init {G : zG} {σ : zH} {l : Nat} (h : σ l = some (.inr (1, [.null, .null, .int 0, .int 0, .int 0, .int 0]))) : zM G yX0_init kX0_init [.ref l] σ (l + 1) (fun v σ' nx' => v = none ∧ zCa G σ' l [] 0 ∧ zFr σ σ' l 5 ∧ nx' = l + 5) := by
  refine zM.of (ls := [some (.ref l)]) (by decide +kernel) ⟨rfl, rfl, rfl⟩ (Nat.le_of_ble_eq_true rfl) (fun _ h => h) ?_
  have f0 : ∀ b, b < l ∨ l + 1 + 2 * 0 ≤ b → σ b = σ b := fun _ _ => rfl
  have a0 : ∀ i, i < 0 → zInts G σ (l + 1 + 2 * i) 14 (fun _ => 0) := fun i hi => absurd hi (Nat.not_lt_zero _)
  have c0 := h
  refine z_aload_n dX0_init_0 rfl ?_
  refine z_objInit dX0_init_1 cv_X0_3 (Nat.le_of_ble_eq_true rfl) (Nat.le_of_ble_eq_true rfl) ?_
  refine z_aload_n dX0_init_4 rfl ?_
  refine z_new dX0_init_5 nw_X0_9 (Nat.le_of_ble_eq_true rfl) (Nat.le_of_ble_eq_true rfl) ?_
  refine z_dup dX0_init_8 rfl ?_
  refine z_bipush (v := 14) dX0_init_9 (by decide) ?_
  refine z_callI dX0_init_11 cv_X0_11 (c_X4_init (n := 14) (a := l + 1 + 2 * 0) (zu_eq _ _ _) (by omega)) rfl rfl ⟨Nat.le_of_ble_eq_true rfl, Nat.le_of_ble_eq_true rfl⟩ (Nat.le_of_ble_eq_true rfl) (Nat.le_of_ble_eq_true rfl) (Nat.le_of_ble_eq_true rfl) (fun v s0 n0 hx0 hq0 => ?_)
  obtain ⟨rfl, g0, k0, rfl⟩ := hq0
  have e0 := zIn_c (j := 0) c0 k0
  refine z_putF dX0_init_14 ff_X0_14 rfl e0 rfl rfl (Nat.le_of_ble_eq_true rfl) ?_
  have a1 := fun e2 => zIn_step (e2 := e2) a0 g0 k0
  have f1 := fun e2 => zIn_fr (j := 0) (e2 := e2) f0 k0
  have c1 : zu s0 l (.inr (1, ([Value.null, .null, .int 0, .int 0, .int 0, .int 0] : List Value).set 0 (.ref (l + 1)))) l = some (.inr (1, [.ref (l + 1), .null, .int 0, .int 0, .int 0, .int 0])) := zu_eq _ _ _
  refine z_aload_n dX0_init_17 rfl ?_
  refine z_new dX0_init_18 nw_X0_9 (Nat.le_of_ble_eq_true rfl) (Nat.le_of_ble_eq_true rfl) ?_
  refine z_dup dX0_init_21 rfl ?_
  refine z_bipush (v := 14) dX0_init_22 (by decide) ?_
  refine z_callI dX0_init_24 cv_X0_11 (c_X4_init (n := 14) (a := l + 1 + 2 * 1) (zu_eq _ _ _) (by omega)) rfl rfl ⟨Nat.le_of_ble_eq_true rfl, Nat.le_of_ble_eq_true rfl⟩ (Nat.le_of_ble_eq_true rfl) (Nat.le_of_ble_eq_true rfl) (Nat.le_of_ble_eq_true rfl) (fun v s1 n1 hx1 hq1 => ?_)
  obtain ⟨rfl, g1, k1, rfl⟩ := hq1
  have e1 := zIn_c (j := 1) c1 k1
  refine z_putF dX0_init_27 ff_X0_20 rfl e1 rfl rfl (Nat.le_of_ble_eq_true rfl) ?_
  have a2 := fun e2 => zIn_step (e2 := e2) (a1 _) g1 k1
  have f2 := fun e2 => zIn_fr (j := 1) (e2 := e2) (f1 _) k1
  have c2 : zu s1 l (.inr (1, ([Value.ref (l + 1), .null, .int 0, .int 0, .int 0, .int 0] : List Value).set 1 (.ref (l + 3)))) l = some (.inr (1, [.ref (l + 1), .ref (l + 3), .int 0, .int 0, .int 0, .int 0])) := zu_eq _ _ _
  exact z_vret dX0_init_30 rfl (Nat.le_of_ble_eq_true rfl) (Nat.le_of_ble_eq_true rfl) ⟨rfl, ⟨_, _, 0, c2, a2 _ 0 (by decide), a2 _ 1 (by decide), fun i q z => by simp at z, fun j hj => by rw [b_0]; exact ⟨fun z => (nomatch z), fun ⟨i, q, z, _⟩ => by simp at z⟩, ⟨fun i q z => by simp at z, fun i j a b z => by simp at z, by decide⟩, by decide⟩, fun b hb => f2 _ b (by omega), rfl⟩
set_option maxRecDepth 100000 in
theorem c_X8_init {G : zG} {σ : zH} {l g hh c : Nat} (h : σ l = some (.inr (8, [.null, .null, .null, .null, .int 0, .int 0, .int 0]))) : zM G yX8_init kX8_init [.ref l, .ref g, .ref hh, .ref c] σ (l + 1) (fun v σ' nx' => v = none ∧ zPl G σ' l g hh c zt0 ∧ (∃ rf, zInts G σ' (l + 1) 112 rf) ∧ zFr σ σ' l 3 ∧ nx' = l + 3) := by
  refine zM.of (ls := [some (.ref l), some (.ref g), some (.ref hh), some (.ref c)]) (by decide +kernel) ⟨rfl, rfl, rfl⟩ (Nat.le_of_ble_eq_true rfl) (fun _ h => h) ?_
  refine z_aload_n dX8_init_0 rfl ?_
  refine z_objInit dX8_init_1 cv_X8_3 (Nat.le_of_ble_eq_true rfl) (Nat.le_of_ble_eq_true rfl) ?_
  refine z_aload_n dX8_init_4 rfl ?_
  refine z_new dX8_init_5 nw_X8_9 (Nat.le_of_ble_eq_true rfl) (Nat.le_of_ble_eq_true rfl) ?_
  refine z_dup dX8_init_8 rfl ?_
  refine z_bipush (v := 112) dX8_init_9 (by decide) ?_
  refine z_callI dX8_init_11 cv_X8_11 (c_X4_init (n := 112) (a := l + 1) (zu_eq _ _ _) (by omega)) rfl rfl ⟨Nat.le_of_ble_eq_true rfl, Nat.le_of_ble_eq_true rfl⟩ (Nat.le_of_ble_eq_true rfl) (Nat.le_of_ble_eq_true rfl) (Nat.le_of_ble_eq_true rfl) (fun v s0 n0 hx0 hq0 => ?_)
  obtain ⟨rfl, g0, k0, rfl⟩ := hq0
  have e0 : s0 l = some (.inr (8, [.null, .null, .null, .null, .int 0, .int 0, .int 0])) := by rw [k0 l (by omega) (by omega), zu_ne (by omega)]; exact h
  refine z_putF dX8_init_14 ff_X8_14 rfl e0 rfl rfl (Nat.le_of_ble_eq_true rfl) ?_
  refine z_aload_n dX8_init_17 rfl ?_
  refine z_aload_n dX8_init_18 rfl ?_
  refine z_putF dX8_init_19 ff_X8_20 rfl (zu_eq _ _ _) rfl rfl (Nat.le_of_ble_eq_true rfl) ?_
  refine z_aload_n dX8_init_22 rfl ?_
  refine z_aload_n dX8_init_23 rfl ?_
  refine z_putF dX8_init_24 ff_X8_24 rfl (zu_eq _ _ _) rfl rfl (Nat.le_of_ble_eq_true rfl) ?_
  refine z_aload_n dX8_init_27 rfl ?_
  refine z_aload_n dX8_init_28 rfl ?_
  refine z_putF dX8_init_29 ff_X8_28 rfl (zu_eq _ _ _) rfl rfl (Nat.le_of_ble_eq_true rfl) ?_
  exact z_vret dX8_init_32 rfl (Nat.le_of_ble_eq_true rfl) (Nat.le_of_ble_eq_true rfl) ⟨rfl, ⟨0, 0, 0, zu_eq _ _ _, zbits_0, zbits_0, zbits_0⟩, ⟨_, g0.fr fun b a d => by rw [zu_ne (by omega), zu_ne (by omega), zu_ne (by omega), zu_ne (by omega)]⟩, fun b hb => by rw [zu_ne (by omega), zu_ne (by omega), zu_ne (by omega), zu_ne (by omega), k0 b (by omega) (by omega), zu_ne (by omega)], rfl⟩
set_option maxRecDepth 100000 in
theorem c_X1_init {G : zG} {σ : zH} {l lo : Nat} (h : σ l = some (.inr (2, [.null, .null, .null, .int 0]))) : zM G yX1_init kX1_init [.ref l, .ref lo] σ (l + 1) (fun v σ' nx' => v = none ∧ zCr G σ' l lo (fun _ => 1) (fun _ => 0) 2 ∧ zFr σ σ' l 5 ∧ nx' = l + 5) := by
  refine zM.of2 (ls := [some (.ref l), some (.ref lo), none]) (by decide +kernel) ⟨rfl, rfl, rfl⟩ (Nat.le_of_ble_eq_true rfl) (fun _ h => h) (fun Q hQ => ?_)
  refine z_aload_n dX1_init_0 rfl ?_
  refine z_objInit dX1_init_1 cv_X1_3 (Nat.le_of_ble_eq_true rfl) (Nat.le_of_ble_eq_true rfl) ?_
  refine z_aload_n dX1_init_4 rfl ?_
  refine z_new dX1_init_5 nw_X1_9 (Nat.le_of_ble_eq_true rfl) (Nat.le_of_ble_eq_true rfl) ?_
  refine z_dup dX1_init_8 rfl ?_
  refine z_iconst (v := 4) dX1_init_9 (by decide) ?_
  refine z_callI dX1_init_10 cv_X1_11 (c_X4_init (n := 4) (a := l + 1) (zu_eq _ _ _) (by omega)) rfl rfl ⟨Nat.le_of_ble_eq_true rfl, Nat.le_of_ble_eq_true rfl⟩ (Nat.le_of_ble_eq_true rfl) (Nat.le_of_ble_eq_true rfl) (Nat.le_of_ble_eq_true rfl) (fun v s0 n0 hx0 hq0 => ?_)
  obtain ⟨rfl, g0, k0, rfl⟩ := hq0
  have e0 : s0 l = some (.inr (2, [.null, .null, .null, .int 0])) := by rw [k0 l (by omega) (by omega), zu_ne (by omega)]; exact h
  refine z_putF dX1_init_13 ff_X1_14 rfl e0 rfl rfl (Nat.le_of_ble_eq_true rfl) ?_
  refine z_aload_n dX1_init_16 rfl ?_
  refine z_new dX1_init_17 nw_X1_9 (Nat.le_of_ble_eq_true rfl) (Nat.le_of_ble_eq_true rfl) ?_
  refine z_dup dX1_init_20 rfl ?_
  refine z_iconst (v := 4) dX1_init_21 (by decide) ?_
  refine z_callI dX1_init_22 cv_X1_11 (c_X4_init (n := 4) (a := l + 3) (zu_eq _ _ _) (by omega)) rfl rfl ⟨Nat.le_of_ble_eq_true rfl, Nat.le_of_ble_eq_true rfl⟩ (Nat.le_of_ble_eq_true rfl) (Nat.le_of_ble_eq_true rfl) (Nat.le_of_ble_eq_true rfl) (fun v s1 n1 hx1 hq1 => ?_)
  obtain ⟨rfl, g1, k1, rfl⟩ := hq1
  have e1 : s1 l = some (.inr (2, [.null, .ref (l + 1), .null, .int 0])) := by rw [k1 l (by omega) (by omega), zu_ne (by omega)]; exact zu_eq _ _ _
  have g0' : zInts G s1 (l + 1) 4 (fun _ => 0) := g0.fr fun b a d => by rw [k1 b (by omega) (by omega), zu_ne (by omega), zu_ne (by omega)]
  refine z_putF dX1_init_25 ff_X1_20 rfl e1 rfl rfl (Nat.le_of_ble_eq_true rfl) ?_
  refine z_aload_n dX1_init_28 rfl ?_
  refine z_iconst (v := 2) dX1_init_29 (by decide) ?_
  refine z_putf dX1_init_30 fp_X1_23 (zu_eq _ _ _) rfl rfl (Nat.le_of_ble_eq_true rfl) ?_
  refine z_aload_n dX1_init_33 rfl ?_
  refine z_aload_n dX1_init_34 rfl ?_
  refine z_putF dX1_init_35 ff_X1_27 rfl (zu_eq _ _ _) rfl rfl (Nat.le_of_ble_eq_true rfl) ?_
  have loop : ∀ (d k : Nat) (σ1 : zH) (sf : Nat → Int32), k + d = 4 → σ1 l = some (zCC2 l lo 2) → zInts G σ1 (l + 1) 4 sf → zInts G σ1 (l + 3) 4 (fun _ => 0) → (∀ i, i < k → sf i = 1) → zFr σ σ1 l 5 →
      zWP G kX1_init (zFM G kX1_init.2.2.2.1 Q) 40 [some (.ref l), some (.ref lo), some (.int (nI k))] [] σ1 (l + 5) (0 + kX4_init.2.2.2.1.cells + 1 + kX4_init.2.2.2.1.cells + 1) (0 + kX4_init.2.2.2.1.slots + 1 + kX4_init.2.2.2.1.slots + 1) := by
    intro d
    induction d with
    | zero =>
      intro k σ1 sf hk q1 q2 q3 q4 q5
      have : k = 4 := by omega
      subst this
      refine z_iload_n dX1_init_40 rfl ?_
      refine z_iconst (v := 4) dX1_init_41 (by decide) ?_
      refine z_icmp_ge (tgt := 60) dX1_init_42 (by decide) (fun _ => ?_) (fun q => absurd ((show nI 4 ≤ nI 4 from nI_le (by omega) (by omega))) q)
      exact z_vret dX1_init_60 rfl (Nat.le_of_ble_eq_true rfl) (Nat.le_of_ble_eq_true rfl) (hQ _ _ _ ⟨rfl, ⟨sf, _, q1, q2, q3, fun i hi => ⟨q4 i hi, rfl⟩⟩, q5, rfl⟩)
    | succ d ih =>
      intro k σ1 sf hk q1 q2 q3 q4 q5
      refine z_iload_n dX1_init_40 rfl ?_
      refine z_iconst (v := 4) dX1_init_41 (by decide) ?_
      refine z_icmp_ge (tgt := 60) dX1_init_42 (by decide) (fun q => absurd q ((show ¬ nI 4 ≤ nI k from nI_ge (by omega) (by omega)))) (fun _ => ?_)
      refine z_aload_n dX1_init_45 rfl ?_
      refine z_getf dX1_init_46 fl_X1_14 q1 rfl ?_
      refine z_iload_n dX1_init_49 rfl ?_
      refine z_iconst (v := 1) dX1_init_50 (by decide) ?_
      refine z_callV dX1_init_51 cv_X1_31 (c_X4_set q2 (by omega)) rfl q2.1 rfl rfl ⟨(Nat.le_of_ble_eq_true rfl), (Nat.le_of_ble_eq_true rfl)⟩ (Nat.le_of_ble_eq_true rfl) (Nat.le_of_ble_eq_true rfl) (Nat.le_of_ble_eq_true rfl) (fun v σ2 nx2 hx2 hq2 => ?_)
      obtain ⟨rfl, g2, k2, hn2⟩ := hq2
      rw [zwr_nI (by omega) (by omega)] at g2
      refine z_inc1 dX1_init_54 rfl (by decide) ?_
      refine z_goto (tgt := 40) dX1_init_57 (by decide) ?_
      rw [nI_1, hn2]
      refine ih (k + 1) σ2 _ (by omega) ((k2 _ (by omega)).trans q1) g2 (q3.fr fun b a c => k2 b (by omega)) (fun i hi => ?_) (fun b hb => (k2 b (by omega)).trans (q5 b hb))
      by_cases e : i = k
      · subst e; exact pk_us
      · rw [pk_un e]; exact q4 i (by omega)
  refine z_iconst (v := 0) dX1_init_38 (by decide) ?_
  refine z_istore_n dX1_init_39 (by decide) ?_
  exact loop 4 0 _ _ (by omega) (zu_eq _ _ _) (g0'.fr fun b a d => by rw [zu_ne (by omega), zu_ne (by omega), zu_ne (by omega)]) (g1.fr fun b a d => by rw [zu_ne (by omega), zu_ne (by omega), zu_ne (by omega)]) (fun i hi => absurd hi (Nat.not_lt_zero _)) (fun b hb => by rw [zu_ne (by omega), zu_ne (by omega), zu_ne (by omega), k1 b (by omega) (by omega), zu_ne (by omega), zu_ne (by omega), k0 b (by omega) (by omega), zu_ne (by omega)])
set_option maxRecDepth 100000 in
theorem c_X2_init {G : zG} {σ : zH} {g hi : Nat} (hG : zKap G) (hhi : g + 24 ≤ hi) (h : σ g = some (.inr (3, [.null, .null, .int 0]))) : zM G yX2_init kX2_init [.ref g] σ (g + 1) (fun v σ' nx' => v = none ∧ zGr G σ' g hi [] (nI 4) ∧ zFr σ σ' g 24 ∧ nx' = g + 24) := by
  refine zM.of (ls := [some (.ref g)]) (by decide +kernel) ⟨rfl, rfl, rfl⟩ (Nat.le_of_ble_eq_true rfl) (fun _ h => h) ?_
  refine z_aload_n dX2_init_0 rfl ?_
  refine z_objInit dX2_init_1 cv_X2_3 (Nat.le_of_ble_eq_true rfl) (Nat.le_of_ble_eq_true rfl) ?_
  refine z_aload_n dX2_init_4 rfl ?_
  refine z_new dX2_init_5 nw_X2_9 (Nat.le_of_ble_eq_true rfl) (Nat.le_of_ble_eq_true rfl) ?_
  refine z_dup dX2_init_8 rfl ?_
  refine z_callI dX2_init_9 cv_X2_11 (c_list_init (a := g + 1) (hi := hi) (zu_eq _ _ _)) rfl rfl ⟨Nat.le_of_ble_eq_true rfl, Nat.le_of_ble_eq_true rfl⟩ (Nat.le_of_ble_eq_true rfl) (Nat.le_of_ble_eq_true rfl) (Nat.le_of_ble_eq_true rfl) (fun v s0 n0 hx0 hq0 => ?_)
  obtain ⟨rfl, g0, k0, rfl⟩ := hq0
  have e0 : s0 g = some (.inr (3, [.null, .null, .int 0])) := by rw [k0 g (by omega), zu_ne (by omega)]; exact h
  refine z_putF dX2_init_12 ff_X2_12 rfl e0 rfl rfl (Nat.le_of_ble_eq_true rfl) ?_
  refine z_aload_n dX2_init_15 rfl ?_
  refine z_new dX2_init_16 nw_X2_18 (Nat.le_of_ble_eq_true rfl) (Nat.le_of_ble_eq_true rfl) ?_
  refine z_dup dX2_init_19 rfl ?_
  refine z_kind dX2_init_20 (by decide) fs_X2_20 ?_
  refine z_iconst (v := (-1)) dX2_init_23 (by decide) ?_
  refine z_iconst (v := (-1)) dX2_init_24 (by decide) ?_
  refine z_iconst (v := 0) dX2_init_25 (by decide) ?_
  refine z_iconst (v := 0) dX2_init_26 (by decide) ?_
  refine z_callI dX2_init_27 cv_X2_26 (c_X7_init (n := g + 2) (k := 0) (bd := 0) hG (by decide) (by decide) (zu_eq _ _ _)) rfl rfl ⟨Nat.le_of_ble_eq_true rfl, Nat.le_of_ble_eq_true rfl⟩ (Nat.le_of_ble_eq_true rfl) (Nat.le_of_ble_eq_true rfl) (Nat.le_of_ble_eq_true rfl) (fun v s1 n1 hx1 hq1 => ?_)
  obtain ⟨rfl, g1, -, -, k1, rfl⟩ := hq1
  have e1 : s1 g = some (.inr (3, [.ref (g + 1), .null, .int 0])) := by rw [k1 g (by omega), zu_ne (by omega)]; exact zu_eq _ _ _
  have l1 : zList G s1 (g + 1) hi [] := g0.fr2 (by rw [k1 (g + 1) (by omega), zu_ne (by omega), zu_ne (by omega)]) (fun b hb _ => by rw [k1 b (by omega), zu_ne (by omega), zu_ne (by omega)])
  refine z_putF dX2_init_30 ff_X2_29 rfl e1 rfl rfl (Nat.le_of_ble_eq_true rfl) ?_
  refine z_aload_n dX2_init_33 rfl ?_
  refine z_iconst (v := 4) dX2_init_34 (by decide) ?_
  refine z_putf dX2_init_35 fp_X2_33 (zu_eq _ _ _) rfl rfl (Nat.le_of_ble_eq_true rfl) ?_
  exact z_vret dX2_init_38 rfl (Nat.le_of_ble_eq_true rfl) (Nat.le_of_ble_eq_true rfl) ⟨rfl, ⟨zu_eq _ _ _, l1.fr2 (by rw [zu_ne (by omega), zu_ne (by omega)]) (fun b hb _ => by rw [zu_ne (by omega), zu_ne (by omega)]), g1.fr fun b a d => by rw [zu_ne (by omega), zu_ne (by omega)], fun i e he => by simp at he, fun i j x y _ he => by simp at he, by decide, hhi⟩, fun b hb => by rw [zu_ne (by omega), zu_ne (by omega), k1 b (by omega), zu_ne (by omega), zu_ne (by omega), k0 b (by omega), zu_ne (by omega)], rfl⟩
set_option maxRecDepth 100000 in
theorem c_X3_init {G : zG} {σ : zH} {h g : Nat} {ip : Bool} (h0 : σ h = some (.inr (4, [.null, .int 0, .null, .int 0]))) : zM G yX3_init kX3_init [.ref h, .ref g, .int (if ip then 1 else 0)] σ (h + 1) (fun v σ' nx' => v = none ∧ zHB G σ' g h ip [] 0 ∧ zFr σ σ' h 8 ∧ nx' = h + 8) := by
  refine zM.of (ls := [some (.ref h), some (.ref g), some (.int (if ip then 1 else 0))]) (by decide +kernel) ⟨rfl, rfl, rfl⟩ (Nat.le_of_ble_eq_true rfl) (fun _ h => h) ?_
  refine z_aload_n dX3_init_0 rfl ?_
  refine z_objInit dX3_init_1 cv_X3_3 (Nat.le_of_ble_eq_true rfl) (Nat.le_of_ble_eq_true rfl) ?_
  refine z_aload_n dX3_init_4 rfl ?_
  refine z_new dX3_init_5 nw_X3_9 (Nat.le_of_ble_eq_true rfl) (Nat.le_of_ble_eq_true rfl) ?_
  refine z_dup dX3_init_8 rfl ?_
  refine z_sipush (v := 300) dX3_init_9 (by decide) ?_
  refine z_callI dX3_init_12 cv_X3_11 (c_X9_init (r := h + 1) (m := 300) (zu_eq _ _ _) (by omega)) rfl rfl ⟨(Nat.le_of_ble_eq_true rfl), (Nat.le_of_ble_eq_true rfl)⟩ (Nat.le_of_ble_eq_true rfl) (Nat.le_of_ble_eq_true rfl) (Nat.le_of_ble_eq_true rfl) (fun v σ1 nx1 hx1 hq1 => ?_)
  obtain ⟨rfl, g1, k1, rfl⟩ := hq1
  have e1 : σ1 h = some (.inr (4, [.null, .int 0, .null, .int 0])) := (k1 h (by omega)).trans ((zu_ne (by omega)).trans h0)
  refine z_putF dX3_init_15 ff_X3_14 rfl e1 rfl rfl (Nat.le_of_ble_eq_true rfl) ?_
  refine z_aload_n dX3_init_18 rfl ?_
  refine z_aload_n dX3_init_19 rfl ?_
  refine z_putF dX3_init_20 ff_X3_20 rfl (zu_eq _ _ _) rfl rfl (Nat.le_of_ble_eq_true rfl) ?_
  refine z_aload_n dX3_init_23 rfl ?_
  refine z_iload_n dX3_init_24 rfl ?_
  refine z_putF dX3_init_25 ff_X3_24 rfl (zu_eq _ _ _) (by cases ip <;> rfl) (by cases ip <;> rfl) (Nat.le_of_ble_eq_true rfl) ?_
  exact z_vret dX3_init_28 rfl (Nat.le_of_ble_eq_true rfl) (Nat.le_of_ble_eq_true rfl) ⟨rfl, ⟨zu_eq _ _ _, ⟨[], [], g1.fr fun b a c => by rw [zu_ne (by omega), zu_ne (by omega), zu_ne (by omega)]⟩, fun i e he => by simp at he⟩, fun b hb => by rw [zu_ne (by omega), zu_ne (by omega), zu_ne (by omega), k1 b (by omega), zu_ne (by omega)], rfl⟩
