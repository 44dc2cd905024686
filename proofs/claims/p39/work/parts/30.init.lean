/-! a new Taskgraphic -/
theorem zHo_new {G : zG} {σ : zH} {g h lim : Nat} {ip : Bool} (hb : zHB G σ g h ip [] 0) : zHo G σ g h ip lim [] 0 := ⟨hb, fun i _ q => by rw [b_0] at q; exact nomatch q⟩
theorem zHB.fr0 {G : zG} {σ σ' : zH} {g h : Nat} {ip : Bool} {fr : Int32} (hh : zHB G σ g h ip [] fr) (hf : ∀ b, h ≤ b → b < h + 8 → σ' b = σ b) : zHB G σ' g h ip [] fr := by
  obtain ⟨h1, ⟨R, E, h2⟩, -⟩ := hh
  exact ⟨(hf h (by omega) (by omega)).trans h1, ⟨R, E, h2.fr fun b a c => hf b (by omega) (by omega)⟩, fun i e he => by simp at he⟩
set_option maxRecDepth 100000 in
set_option maxHeartbeats 1000000 in
theorem c_X11_init {G : zG} {σ : zH} {b hi : Nat} (hG : zKap G) (hhi : b + 74 ≤ hi) (h : σ b = some (.inr (11, [.null, .null, .null, .null, .null, .null, .null, .null, .int 0]))) : zM G yX11_init kX11_init [.ref b] σ (b + 1) (fun v σ' nx' => v = none ∧ zTG G σ' b hi [] 4 20 2 (fun _ => 1) 0 [] [] 0 0 0 ∧ zFr σ σ' b 74 ∧ nx' = b + 74) := by
  refine zM.of (ls := [some (.ref b)]) (by decide +kernel) ⟨rfl, rfl, rfl⟩ (Nat.le_of_ble_eq_true rfl) (fun _ h => h) ?_
  refine z_aload_n dX11_init_0 rfl ?_
  refine z_objInit dX11_init_1 cv_X11_3 (Nat.le_of_ble_eq_true rfl) (Nat.le_of_ble_eq_true rfl) ?_
  refine z_aload_n dX11_init_4 rfl ?_
  refine z_bipush (v := 20) dX11_init_5 (by decide) ?_
  refine z_putf dX11_init_7 fp_X11_9 h rfl rfl (Nat.le_of_ble_eq_true rfl) ?_
  refine z_aload_n dX11_init_10 rfl ?_
  refine z_new dX11_init_11 nw_X11_13 (Nat.le_of_ble_eq_true rfl) (Nat.le_of_ble_eq_true rfl) ?_
  refine z_dup dX11_init_14 rfl ?_
  refine z_callI dX11_init_15 cv_X11_15 (c_X2_init (g := b + 1) (hi := hi) hG (by omega) (zu_eq _ _ _)) rfl rfl ⟨Nat.le_of_ble_eq_true rfl, Nat.le_of_ble_eq_true rfl⟩ (Nat.le_of_ble_eq_true rfl) (Nat.le_of_ble_eq_true rfl) (Nat.le_of_ble_eq_true rfl) (fun v s1 n1 hx1 hq1 => ?_)
  obtain ⟨rfl, g1, k1, rfl⟩ := hq1
  have e1 : s1 b = some (.inr (11, [.null, .null, .null, .null, .null, .null, .null, .null, .int (nI 20)])) := by rw [k1 b (by omega), zu_ne (by omega)]; exact zu_eq _ _ _
  refine z_putF dX11_init_18 ff_X11_16 rfl e1 rfl rfl (Nat.le_of_ble_eq_true rfl) ?_
  refine z_aload_n dX11_init_21 rfl ?_
  refine z_new dX11_init_22 nw_X11_20 (Nat.le_of_ble_eq_true rfl) (Nat.le_of_ble_eq_true rfl) ?_
  refine z_dup dX11_init_25 rfl ?_
  refine z_aload_n dX11_init_26 rfl ?_
  refine z_getf dX11_init_27 fl_X11_16 ((zu_ne (by omega)).trans (zu_eq _ _ _)) rfl ?_
  refine z_iconst (v := 0) dX11_init_30 (by decide) ?_
  refine z_callI dX11_init_31 cv_X11_22 (c_X3_init (h := b + 25) (g := b + 1) (ip := false) (zu_eq _ _ _)) rfl rfl ⟨Nat.le_of_ble_eq_true rfl, Nat.le_of_ble_eq_true rfl⟩ (Nat.le_of_ble_eq_true rfl) (Nat.le_of_ble_eq_true rfl) (Nat.le_of_ble_eq_true rfl) (fun v s2 n2 hx2 hq2 => ?_)
  obtain ⟨rfl, g2, k2, rfl⟩ := hq2
  have l2 : ∀ x, x ≠ b → x < b + 25 → s2 x = s1 x := fun x q1 q2 => (k2 x (Or.inl q2)).trans ((zu_ne (by omega)).trans (zu_ne q1))
  have e2 : s2 b = some (.inr (11, [.ref (b + 1), .null, .null, .null, .null, .null, .null, .null, .int (nI 20)])) := by rw [k2 b (by omega), zu_ne (by omega)]; exact zu_eq _ _ _
  refine z_putF dX11_init_34 ff_X11_25 rfl e2 rfl rfl (Nat.le_of_ble_eq_true rfl) ?_
  refine z_aload_n dX11_init_37 rfl ?_
  refine z_new dX11_init_38 nw_X11_20 (Nat.le_of_ble_eq_true rfl) (Nat.le_of_ble_eq_true rfl) ?_
  refine z_dup dX11_init_41 rfl ?_
  refine z_aload_n dX11_init_42 rfl ?_
  refine z_getf dX11_init_43 fl_X11_16 ((zu_ne (by omega)).trans (zu_eq _ _ _)) rfl ?_
  refine z_iconst (v := 1) dX11_init_46 (by decide) ?_
  refine z_callI dX11_init_47 cv_X11_22 (c_X3_init (h := b + 33) (g := b + 1) (ip := true) (zu_eq _ _ _)) rfl rfl ⟨Nat.le_of_ble_eq_true rfl, Nat.le_of_ble_eq_true rfl⟩ (Nat.le_of_ble_eq_true rfl) (Nat.le_of_ble_eq_true rfl) (Nat.le_of_ble_eq_true rfl) (fun v s3 n3 hx3 hq3 => ?_)
  obtain ⟨rfl, g3, k3, rfl⟩ := hq3
  have l3 : ∀ x, x ≠ b → x < b + 33 → s3 x = s2 x := fun x q1 q2 => (k3 x (Or.inl q2)).trans ((zu_ne (by omega)).trans (zu_ne q1))
  have e3 : s3 b = some (.inr (11, [.ref (b + 1), .ref (b + 25), .null, .null, .null, .null, .null, .null, .int (nI 20)])) := by rw [k3 b (by omega), zu_ne (by omega)]; exact zu_eq _ _ _
  refine z_putF dX11_init_50 ff_X11_29 rfl e3 rfl rfl (Nat.le_of_ble_eq_true rfl) ?_
  refine z_aload_n dX11_init_53 rfl ?_
  refine z_new dX11_init_54 nw_X11_32 (Nat.le_of_ble_eq_true rfl) (Nat.le_of_ble_eq_true rfl) ?_
  refine z_dup dX11_init_57 rfl ?_
  refine z_callI dX11_init_58 cv_X11_34 (c_X0_init (l := b + 41) (zu_eq _ _ _)) rfl rfl ⟨Nat.le_of_ble_eq_true rfl, Nat.le_of_ble_eq_true rfl⟩ (Nat.le_of_ble_eq_true rfl) (Nat.le_of_ble_eq_true rfl) (Nat.le_of_ble_eq_true rfl) (fun v s4 n4 hx4 hq4 => ?_)
  obtain ⟨rfl, g4, k4, rfl⟩ := hq4
  have l4 : ∀ x, x ≠ b → x < b + 41 → s4 x = s3 x := fun x q1 q2 => (k4 x (Or.inl q2)).trans ((zu_ne (by omega)).trans (zu_ne q1))
  have e4 : s4 b = some (.inr (11, [.ref (b + 1), .ref (b + 25), .ref (b + 33), .null, .null, .null, .null, .null, .int (nI 20)])) := by rw [k4 b (by omega), zu_ne (by omega)]; exact zu_eq _ _ _
  refine z_putF dX11_init_61 ff_X11_35 rfl e4 rfl rfl (Nat.le_of_ble_eq_true rfl) ?_
  refine z_aload_n dX11_init_64 rfl ?_
  refine z_new dX11_init_65 nw_X11_39 (Nat.le_of_ble_eq_true rfl) (Nat.le_of_ble_eq_true rfl) ?_
  refine z_dup dX11_init_68 rfl ?_
  refine z_aload_n dX11_init_69 rfl ?_
  refine z_getf dX11_init_70 fl_X11_16 ((zu_ne (by omega)).trans (zu_eq _ _ _)) rfl ?_
  refine z_aload_n dX11_init_73 rfl ?_
  refine z_getf dX11_init_74 fl_X11_25 ((zu_ne (by omega)).trans (zu_eq _ _ _)) rfl ?_
  refine z_aload_n dX11_init_77 rfl ?_
  refine z_getf dX11_init_78 fl_X11_35 ((zu_ne (by omega)).trans (zu_eq _ _ _)) rfl ?_
  refine z_callI dX11_init_81 cv_X11_41 (c_X8_init (l := b + 46) (g := b + 1) (hh := b + 25) (c := b + 41) (zu_eq _ _ _)) rfl rfl ⟨Nat.le_of_ble_eq_true rfl, Nat.le_of_ble_eq_true rfl⟩ (Nat.le_of_ble_eq_true rfl) (Nat.le_of_ble_eq_true rfl) (Nat.le_of_ble_eq_true rfl) (fun v s5 n5 hx5 hq5 => ?_)
  obtain ⟨rfl, g5, ⟨rf, g5'⟩, k5, rfl⟩ := hq5
  have l5 : ∀ x, x ≠ b → x < b + 46 → s5 x = s4 x := fun x q1 q2 => (k5 x (Or.inl q2)).trans ((zu_ne (by omega)).trans (zu_ne q1))
  have e5 : s5 b = some (.inr (11, [.ref (b + 1), .ref (b + 25), .ref (b + 33), .ref (b + 41), .null, .null, .null, .null, .int (nI 20)])) := by rw [k5 b (by omega), zu_ne (by omega)]; exact zu_eq _ _ _
  refine z_putF dX11_init_84 ff_X11_44 rfl e5 rfl rfl (Nat.le_of_ble_eq_true rfl) ?_
  refine z_aload_n dX11_init_87 rfl ?_
  refine z_new dX11_init_88 nw_X11_48 (Nat.le_of_ble_eq_true rfl) (Nat.le_of_ble_eq_true rfl) ?_
  refine z_dup dX11_init_91 rfl ?_
  refine z_callI dX11_init_92 cv_X11_50 (c_X10_init (l := b + 49) (zu_eq _ _ _)) rfl rfl ⟨Nat.le_of_ble_eq_true rfl, Nat.le_of_ble_eq_true rfl⟩ (Nat.le_of_ble_eq_true rfl) (Nat.le_of_ble_eq_true rfl) (Nat.le_of_ble_eq_true rfl) (fun v s6 n6 hx6 hq6 => ?_)
  obtain ⟨rfl, g6, k6, rfl⟩ := hq6
  have l6 : ∀ x, x ≠ b → x < b + 49 → s6 x = s5 x := fun x q1 q2 => (k6 x (Or.inl q2)).trans ((zu_ne (by omega)).trans (zu_ne q1))
  have e6 : s6 b = some (.inr (11, [.ref (b + 1), .ref (b + 25), .ref (b + 33), .ref (b + 41), .ref (b + 46), .null, .null, .null, .int (nI 20)])) := by rw [k6 b (by omega), zu_ne (by omega)]; exact zu_eq _ _ _
  refine z_putF dX11_init_95 ff_X11_51 rfl e6 rfl rfl (Nat.le_of_ble_eq_true rfl) ?_
  refine z_aload_n dX11_init_98 rfl ?_
  refine z_new dX11_init_99 nw_X11_55 (Nat.le_of_ble_eq_true rfl) (Nat.le_of_ble_eq_true rfl) ?_
  refine z_dup dX11_init_102 rfl ?_
  refine z_callI dX11_init_103 cv_X11_57 (c_X6_init (l := b + 49 + 7) (zu_eq _ _ _)) rfl rfl ⟨Nat.le_of_ble_eq_true rfl, Nat.le_of_ble_eq_true rfl⟩ (Nat.le_of_ble_eq_true rfl) (Nat.le_of_ble_eq_true rfl) (Nat.le_of_ble_eq_true rfl) (fun v s7 n7 hx7 hq7 => ?_)
  obtain ⟨rfl, g7, k7, rfl⟩ := hq7
  have l7 : ∀ x, x ≠ b → x < b + 56 → s7 x = s6 x := fun x q1 q2 => (k7 x (Or.inl q2)).trans ((zu_ne (by omega)).trans (zu_ne q1))
  have e7 : s7 b = some (.inr (11, [.ref (b + 1), .ref (b + 25), .ref (b + 33), .ref (b + 41), .ref (b + 46), .ref (b + 49), .null, .null, .int (nI 20)])) := by rw [k7 b (by omega), zu_ne (by omega)]; exact zu_eq _ _ _
  refine z_putF dX11_init_106 ff_X11_58 rfl e7 rfl rfl (Nat.le_of_ble_eq_true rfl) ?_
  refine z_aload_n dX11_init_109 rfl ?_
  refine z_new dX11_init_110 nw_X11_62 (Nat.le_of_ble_eq_true rfl) (Nat.le_of_ble_eq_true rfl) ?_
  refine z_dup dX11_init_113 rfl ?_
  refine z_aload_n dX11_init_114 rfl ?_
  refine z_getf dX11_init_115 fl_X11_58 ((zu_ne (by omega)).trans (zu_eq _ _ _)) rfl ?_
  refine z_callI dX11_init_118 cv_X11_64 (c_X1_init (l := b + 49 + 20) (lo := b + 49 + 7) (zu_eq _ _ _)) rfl rfl ⟨Nat.le_of_ble_eq_true rfl, Nat.le_of_ble_eq_true rfl⟩ (Nat.le_of_ble_eq_true rfl) (Nat.le_of_ble_eq_true rfl) (Nat.le_of_ble_eq_true rfl) (fun v s8 n8 hx8 hq8 => ?_)
  obtain ⟨rfl, g8, k8, rfl⟩ := hq8
  have l8 : ∀ x, x ≠ b → x < b + 69 → s8 x = s7 x := fun x q1 q2 => (k8 x (Or.inl q2)).trans ((zu_ne (by omega)).trans (zu_ne q1))
  have e8 : s8 b = some (.inr (11, [.ref (b + 1), .ref (b + 25), .ref (b + 33), .ref (b + 41), .ref (b + 46), .ref (b + 49), .null, .ref (b + 56), .int (nI 20)])) := by rw [k8 b (by omega), zu_ne (by omega)]; exact zu_eq _ _ _
  refine z_putF dX11_init_121 ff_X11_67 rfl e8 rfl rfl (Nat.le_of_ble_eq_true rfl) ?_
  have t7 : ∀ x, x ≠ b → x < b + 69 → s8 x = s7 x := l8
  have t6 : ∀ x, x ≠ b → x < b + 56 → s8 x = s6 x := fun x q1 q2 => (t7 x q1 (by omega)).trans (l7 x q1 q2)
  have t5 : ∀ x, x ≠ b → x < b + 49 → s8 x = s5 x := fun x q1 q2 => (t6 x q1 (by omega)).trans (l6 x q1 q2)
  have t4 : ∀ x, x ≠ b → x < b + 46 → s8 x = s4 x := fun x q1 q2 => (t5 x q1 (by omega)).trans (l5 x q1 q2)
  have t3 : ∀ x, x ≠ b → x < b + 41 → s8 x = s3 x := fun x q1 q2 => (t4 x q1 (by omega)).trans (l4 x q1 q2)
  have t2 : ∀ x, x ≠ b → x < b + 33 → s8 x = s2 x := fun x q1 q2 => (t3 x q1 (by omega)).trans (l3 x q1 q2)
  have t1 : ∀ x, x ≠ b → x < b + 25 → s8 x = s1 x := fun x q1 q2 => (t2 x q1 (by omega)).trans (l2 x q1 q2)
  have t0 : ∀ x, x ≠ b → x < b + 1 → s8 x = σ x := fun x q1 q2 => (t1 x q1 (by omega)).trans ((k1 x (Or.inl q2)).trans ((zu_ne (by omega)).trans (zu_ne q1)))
  have up : ∀ x, hi ≤ x → s8 x = s1 x := fun x q => by
    rw [k8 x (by omega), zu_ne (by omega), zu_ne (by omega), k7 x (by omega), zu_ne (by omega), zu_ne (by omega), k6 x (by omega), zu_ne (by omega), zu_ne (by omega), k5 x (by omega), zu_ne (by omega), zu_ne (by omega), k4 x (by omega), zu_ne (by omega), zu_ne (by omega), k3 x (by omega), zu_ne (by omega), zu_ne (by omega), k2 x (by omega), zu_ne (by omega), zu_ne (by omega)]
  have up0 : ∀ x, b + 74 ≤ x → s8 x = σ x := fun x q => by
    rw [k8 x (by omega), zu_ne (by omega), zu_ne (by omega), k7 x (by omega), zu_ne (by omega), zu_ne (by omega), k6 x (by omega), zu_ne (by omega), zu_ne (by omega), k5 x (by omega), zu_ne (by omega), zu_ne (by omega), k4 x (by omega), zu_ne (by omega), zu_ne (by omega), k3 x (by omega), zu_ne (by omega), zu_ne (by omega), k2 x (by omega), zu_ne (by omega), zu_ne (by omega), k1 x (by omega), zu_ne (by omega), zu_ne (by omega)]
  have gr : ∀ E, zGr G (zu s8 b E) (b + 1) hi [] (nI 4) := fun E => g1.fr (fun x a c => (zu_ne (by omega)).trans (t1 x (by omega) (by omega))) (fun x a _ => (zu_ne (by omega)).trans (up x a))
  refine z_vret dX11_init_124 rfl (Nat.le_of_ble_eq_true rfl) (Nat.le_of_ble_eq_true rfl) ⟨rfl, ⟨zu_eq _ _ _, ⟨0, gr _, zHo_new (g2.fr0 fun x a c => (zu_ne (by omega)).trans (t2 x (by omega) (by omega))), by omega, by omega⟩, ⟨0, gr _, zHo_new (g3.fr0 fun x a c => (zu_ne (by omega)).trans (t3 x (by omega) (by omega))), by omega, by omega⟩, g4.fr fun x a c => (zu_ne (by omega)).trans (t4 x (by omega) (by omega)), ⟨zt0, rf, ?_, g5'.fr fun x a c => (zu_ne (by omega)).trans (t5 x (by omega) (by omega))⟩, g6.fr fun x a c => (zu_ne (by omega)).trans (t6 x (by omega) (by omega)), g7.fr fun x a c => (zu_ne (by omega)).trans (t7 x (by omega) (by omega)), ⟨_, g8.fr fun x a c => zu_ne (by omega)⟩, hhi⟩, fun x hx => ?_, rfl⟩
  · obtain ⟨u, o, w, q1, q2⟩ := g5
    exact ⟨u, o, w, ((zu_ne (by omega)).trans (t5 _ (by omega) (by omega))).trans q1, q2⟩
  · rw [zu_ne (by omega)]
    rcases hx with hx | hx
    · exact t0 x (by omega) (by omega)
    · exact up0 x hx
