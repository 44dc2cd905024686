/-! the law: its methods that catch, 4 -/
section
variable {G : zG} {σ : zH} {b hi nx o : Nat} {f0 : Nat → Int64} {nt : zNT} {lim mem wk r tk sp cs : Nat} {slow : Nat → Nat} {L : zNS} {A : List zAE} {x y z : Int32}
set_option maxRecDepth 100000 in
set_option maxHeartbeats 1000000 in
theorem w_run (hG : zKap G) (hnx : hi ≤ nx) (ok : zOk (nt, lim, mem, wk, slow, r, L, A, tk, sp, cs)) (h : zTG G σ b hi nt lim mem wk slow r L A tk sp cs) (ho : σ o = some (zJ G 1 f0)) (hbo : b + 74 ≤ o) (hoh : o < hi) : zMW G yL_run kL_run [.ref b, .int x, .ref o] σ nx (fun v σ' nx' => zD1 G σ σ' b hi o Int32.toInt64 (zPq (nt, lim, mem, wk, slow, r, zren2 lim nt (zdraw lim nt (zcd L) x.toNatClampNeg).2.2 r (zren1 (zdraw lim nt (zcd L) x.toNatClampNeg).1 L 14) 14, (zrn lim nt (zcd L) mem slow wk (zdraw lim nt (zcd L) x.toNatClampNeg).2.1 14).2.1, (zrn lim nt (zcd L) mem slow wk (zdraw lim nt (zcd L) x.toNatClampNeg).2.1 14).1, (zrn lim nt (zcd L) mem slow wk (zdraw lim nt (zcd L) x.toNatClampNeg).2.1 14).2.2, wk) (nI (zrn lim nt (zcd L) mem slow wk (zdraw lim nt (zcd L) x.toNatClampNeg).2.1 14).1)) (zk_node nt.length x) (nt, lim, mem, wk, slow, r, L, A, tk, sp, cs) v) := by
  refine zMW.of (ls := [some (.ref b), some (.int x), some (.ref o), none]) (by decide +kernel) ⟨rfl, rfl⟩ (Nat.le_of_ble_eq_true rfl) (fun _ h => h) ?_
  refine z_aload_n dL_run_0 rfl ?_
  refine z_iconst (v := 0) dL_run_1 (by decide) ?_
  refine z_aload_n dL_run_2 rfl ?_
  refine z_iload_n dL_run_3 rfl ?_
  refine z_callVH dL_run_4 cv_L_92 (a_run hG hnx ok h) rfl h.1 rfl rfl ⟨(Nat.le_of_ble_eq_true rfl), (Nat.le_of_ble_eq_true rfl)⟩ (Nat.le_of_ble_eq_true rfl) (Nat.le_of_ble_eq_true rfl) (Nat.le_of_ble_eq_true rfl) (fun E s1 n1 q hx1 hq1 => ?_) (fun v s1 n1 hx1 hq1 => ?_)
  · obtain ⟨h1, h2, hE⟩ := hq1
    simp only [List.mem_cons, List.mem_nil_iff, or_false, Prod.mk.injEq] at hE
    rcases hE with ⟨rfl, hc⟩
    · refine ⟨12, hL_run_1, ?_⟩
      refine z_astore_n dL_run_12 (by decide) ?_
      refine z_iconst (v := 1) dL_run_13 (by decide) ?_
      exact z_iret dL_run_14 rfl (Nat.le_of_ble_eq_true rfl) (Nat.le_of_ble_eq_true rfl) ⟨by rw [hc]; rfl, fun w => by omega, fun _ => ⟨h1, _, (h2 o (Or.inr ⟨hbo, hoh⟩)).trans ho⟩, fun x a _ => h2 x a⟩
  · obtain ⟨hc, u', w, rfl, hP, h1, h2⟩ := hq1
    refine z_i2l dL_run_7 ?_
    refine z_last dL_run_8 ((h2 o (Or.inr ⟨hbo, hoh⟩)).trans ho) zin01 ?_
    refine z_goto (tgt := 15) dL_run_9 (by decide) ?_
    refine z_iconst (v := 0) dL_run_15 (by decide) ?_
    exact z_iret dL_run_16 rfl (Nat.le_of_ble_eq_true rfl) (Nat.le_of_ble_eq_true rfl) ⟨by rw [hc]; rfl, fun _ => ⟨u', w, hP, h1.fr fun x q => zu_ne (by omega), _, zu_eq _ _ _, zup0⟩, fun w => absurd hc w, fun x a a2 => (zu_ne a2).trans (h2 x a)⟩
set_option maxRecDepth 100000 in
set_option maxHeartbeats 1000000 in
theorem w_nodeOf (hG : zKap G) (hnx : hi ≤ nx) (ok : zOk (nt, lim, mem, wk, slow, r, L, A, tk, sp, cs)) (h : zTG G σ b hi nt lim mem wk slow r L A tk sp cs) (ho : σ o = some (zJ G 1 f0)) (hbo : b + 74 ≤ o) (hoh : o < hi) : zMW G yL_nodeOf kL_nodeOf [.ref b, .int x, .ref o] σ nx (fun v σ' nx' => zD1 G σ σ' b hi o Int32.toInt64 (zPq (nt, lim, mem, wk, slow, r, L, A, tk, sp, cs) (zAc (A.getD x.toNatClampNeg (0, 0, 0, 0, 0, false)) 0)) (zk_node A.length x) (nt, lim, mem, wk, slow, r, L, A, tk, sp, cs) v) := by
  refine zMW.of (ls := [some (.ref b), some (.int x), some (.ref o), none]) (by decide +kernel) ⟨rfl, rfl⟩ (Nat.le_of_ble_eq_true rfl) (fun _ h => h) ?_
  refine z_aload_n dL_nodeOf_0 rfl ?_
  refine z_iconst (v := 0) dL_nodeOf_1 (by decide) ?_
  refine z_aload_n dL_nodeOf_2 rfl ?_
  refine z_iload_n dL_nodeOf_3 rfl ?_
  refine z_callVH dL_nodeOf_4 cv_L_95 (a_nodeOf hG hnx ok h) rfl h.1 rfl rfl ⟨(Nat.le_of_ble_eq_true rfl), (Nat.le_of_ble_eq_true rfl)⟩ (Nat.le_of_ble_eq_true rfl) (Nat.le_of_ble_eq_true rfl) (Nat.le_of_ble_eq_true rfl) (fun E s1 n1 q hx1 hq1 => ?_) (fun v s1 n1 hx1 hq1 => ?_)
  · obtain ⟨h1, h2, hE⟩ := hq1
    simp only [List.mem_cons, List.mem_nil_iff, or_false, Prod.mk.injEq] at hE
    rcases hE with ⟨rfl, hc⟩
    · refine ⟨12, hL_nodeOf_1, ?_⟩
      refine z_astore_n dL_nodeOf_12 (by decide) ?_
      refine z_iconst (v := 1) dL_nodeOf_13 (by decide) ?_
      exact z_iret dL_nodeOf_14 rfl (Nat.le_of_ble_eq_true rfl) (Nat.le_of_ble_eq_true rfl) ⟨by rw [hc]; rfl, fun w => by omega, fun _ => ⟨h1, _, (h2 o (Or.inr ⟨hbo, hoh⟩)).trans ho⟩, fun x a _ => h2 x a⟩
  · obtain ⟨hc, u', w, rfl, hP, h1, h2⟩ := hq1
    refine z_i2l dL_nodeOf_7 ?_
    refine z_last dL_nodeOf_8 ((h2 o (Or.inr ⟨hbo, hoh⟩)).trans ho) zin01 ?_
    refine z_goto (tgt := 15) dL_nodeOf_9 (by decide) ?_
    refine z_iconst (v := 0) dL_nodeOf_15 (by decide) ?_
    exact z_iret dL_nodeOf_16 rfl (Nat.le_of_ble_eq_true rfl) (Nat.le_of_ble_eq_true rfl) ⟨by rw [hc]; rfl, fun _ => ⟨u', w, hP, h1.fr fun x q => zu_ne (by omega), _, zu_eq _ _ _, zup0⟩, fun w => absurd hc w, fun x a a2 => (zu_ne a2).trans (h2 x a)⟩
set_option maxRecDepth 100000 in
set_option maxHeartbeats 1000000 in
theorem w_partitionOf (hG : zKap G) (hnx : hi ≤ nx) (ok : zOk (nt, lim, mem, wk, slow, r, L, A, tk, sp, cs)) (h : zTG G σ b hi nt lim mem wk slow r L A tk sp cs) (ho : σ o = some (zJ G 1 f0)) (hbo : b + 74 ≤ o) (hoh : o < hi) : zMW G yL_partitionOf kL_partitionOf [.ref b, .int x, .ref o] σ nx (fun v σ' nx' => zD1 G σ σ' b hi o Int32.toInt64 (zPq (nt, lim, mem, wk, slow, r, L, A, tk, sp, cs) (zAc (A.getD x.toNatClampNeg (0, 0, 0, 0, 0, false)) 1)) (zk_node A.length x) (nt, lim, mem, wk, slow, r, L, A, tk, sp, cs) v) := by
  refine zMW.of (ls := [some (.ref b), some (.int x), some (.ref o), none]) (by decide +kernel) ⟨rfl, rfl⟩ (Nat.le_of_ble_eq_true rfl) (fun _ h => h) ?_
  refine z_aload_n dL_partitionOf_0 rfl ?_
  refine z_iconst (v := 0) dL_partitionOf_1 (by decide) ?_
  refine z_aload_n dL_partitionOf_2 rfl ?_
  refine z_iload_n dL_partitionOf_3 rfl ?_
  refine z_callVH dL_partitionOf_4 cv_L_98 (a_partitionOf hG hnx ok h) rfl h.1 rfl rfl ⟨(Nat.le_of_ble_eq_true rfl), (Nat.le_of_ble_eq_true rfl)⟩ (Nat.le_of_ble_eq_true rfl) (Nat.le_of_ble_eq_true rfl) (Nat.le_of_ble_eq_true rfl) (fun E s1 n1 q hx1 hq1 => ?_) (fun v s1 n1 hx1 hq1 => ?_)
  · obtain ⟨h1, h2, hE⟩ := hq1
    simp only [List.mem_cons, List.mem_nil_iff, or_false, Prod.mk.injEq] at hE
    rcases hE with ⟨rfl, hc⟩
    · refine ⟨12, hL_partitionOf_1, ?_⟩
      refine z_astore_n dL_partitionOf_12 (by decide) ?_
      refine z_iconst (v := 1) dL_partitionOf_13 (by decide) ?_
      exact z_iret dL_partitionOf_14 rfl (Nat.le_of_ble_eq_true rfl) (Nat.le_of_ble_eq_true rfl) ⟨by rw [hc]; rfl, fun w => by omega, fun _ => ⟨h1, _, (h2 o (Or.inr ⟨hbo, hoh⟩)).trans ho⟩, fun x a _ => h2 x a⟩
  · obtain ⟨hc, u', w, rfl, hP, h1, h2⟩ := hq1
    refine z_i2l dL_partitionOf_7 ?_
    refine z_last dL_partitionOf_8 ((h2 o (Or.inr ⟨hbo, hoh⟩)).trans ho) zin01 ?_
    refine z_goto (tgt := 15) dL_partitionOf_9 (by decide) ?_
    refine z_iconst (v := 0) dL_partitionOf_15 (by decide) ?_
    exact z_iret dL_partitionOf_16 rfl (Nat.le_of_ble_eq_true rfl) (Nat.le_of_ble_eq_true rfl) ⟨by rw [hc]; rfl, fun _ => ⟨u', w, hP, h1.fr fun x q => zu_ne (by omega), _, zu_eq _ _ _, zup0⟩, fun w => absurd hc w, fun x a a2 => (zu_ne a2).trans (h2 x a)⟩
set_option maxRecDepth 100000 in
set_option maxHeartbeats 1000000 in
theorem w_workerOf (hG : zKap G) (hnx : hi ≤ nx) (ok : zOk (nt, lim, mem, wk, slow, r, L, A, tk, sp, cs)) (h : zTG G σ b hi nt lim mem wk slow r L A tk sp cs) (ho : σ o = some (zJ G 1 f0)) (hbo : b + 74 ≤ o) (hoh : o < hi) : zMW G yL_workerOf kL_workerOf [.ref b, .int x, .ref o] σ nx (fun v σ' nx' => zD1 G σ σ' b hi o Int32.toInt64 (zPq (nt, lim, mem, wk, slow, r, L, A, tk, sp, cs) (zAc (A.getD x.toNatClampNeg (0, 0, 0, 0, 0, false)) 2)) (zk_node A.length x) (nt, lim, mem, wk, slow, r, L, A, tk, sp, cs) v) := by
  refine zMW.of (ls := [some (.ref b), some (.int x), some (.ref o), none]) (by decide +kernel) ⟨rfl, rfl⟩ (Nat.le_of_ble_eq_true rfl) (fun _ h => h) ?_
  refine z_aload_n dL_workerOf_0 rfl ?_
  refine z_iconst (v := 0) dL_workerOf_1 (by decide) ?_
  refine z_aload_n dL_workerOf_2 rfl ?_
  refine z_iload_n dL_workerOf_3 rfl ?_
  refine z_callVH dL_workerOf_4 cv_L_101 (a_workerOf hG hnx ok h) rfl h.1 rfl rfl ⟨(Nat.le_of_ble_eq_true rfl), (Nat.le_of_ble_eq_true rfl)⟩ (Nat.le_of_ble_eq_true rfl) (Nat.le_of_ble_eq_true rfl) (Nat.le_of_ble_eq_true rfl) (fun E s1 n1 q hx1 hq1 => ?_) (fun v s1 n1 hx1 hq1 => ?_)
  · obtain ⟨h1, h2, hE⟩ := hq1
    simp only [List.mem_cons, List.mem_nil_iff, or_false, Prod.mk.injEq] at hE
    rcases hE with ⟨rfl, hc⟩
    · refine ⟨12, hL_workerOf_1, ?_⟩
      refine z_astore_n dL_workerOf_12 (by decide) ?_
      refine z_iconst (v := 1) dL_workerOf_13 (by decide) ?_
      exact z_iret dL_workerOf_14 rfl (Nat.le_of_ble_eq_true rfl) (Nat.le_of_ble_eq_true rfl) ⟨by rw [hc]; rfl, fun w => by omega, fun _ => ⟨h1, _, (h2 o (Or.inr ⟨hbo, hoh⟩)).trans ho⟩, fun x a _ => h2 x a⟩
  · obtain ⟨hc, u', w, rfl, hP, h1, h2⟩ := hq1
    refine z_i2l dL_workerOf_7 ?_
    refine z_last dL_workerOf_8 ((h2 o (Or.inr ⟨hbo, hoh⟩)).trans ho) zin01 ?_
    refine z_goto (tgt := 15) dL_workerOf_9 (by decide) ?_
    refine z_iconst (v := 0) dL_workerOf_15 (by decide) ?_
    exact z_iret dL_workerOf_16 rfl (Nat.le_of_ble_eq_true rfl) (Nat.le_of_ble_eq_true rfl) ⟨by rw [hc]; rfl, fun _ => ⟨u', w, hP, h1.fr fun x q => zu_ne (by omega), _, zu_eq _ _ _, zup0⟩, fun w => absurd hc w, fun x a a2 => (zu_ne a2).trans (h2 x a)⟩
set_option maxRecDepth 100000 in
set_option maxHeartbeats 1000000 in
theorem w_startOf (hG : zKap G) (hnx : hi ≤ nx) (ok : zOk (nt, lim, mem, wk, slow, r, L, A, tk, sp, cs)) (h : zTG G σ b hi nt lim mem wk slow r L A tk sp cs) (ho : σ o = some (zJ G 1 f0)) (hbo : b + 74 ≤ o) (hoh : o < hi) : zMW G yL_startOf kL_startOf [.ref b, .int x, .ref o] σ nx (fun v σ' nx' => zD1 G σ σ' b hi o Int32.toInt64 (zPq (nt, lim, mem, wk, slow, r, L, A, tk, sp, cs) (zAc (A.getD x.toNatClampNeg (0, 0, 0, 0, 0, false)) 3)) (zk_node A.length x) (nt, lim, mem, wk, slow, r, L, A, tk, sp, cs) v) := by
  refine zMW.of (ls := [some (.ref b), some (.int x), some (.ref o), none]) (by decide +kernel) ⟨rfl, rfl⟩ (Nat.le_of_ble_eq_true rfl) (fun _ h => h) ?_
  refine z_aload_n dL_startOf_0 rfl ?_
  refine z_iconst (v := 0) dL_startOf_1 (by decide) ?_
  refine z_aload_n dL_startOf_2 rfl ?_
  refine z_iload_n dL_startOf_3 rfl ?_
  refine z_callVH dL_startOf_4 cv_L_104 (a_startOf hG hnx ok h) rfl h.1 rfl rfl ⟨(Nat.le_of_ble_eq_true rfl), (Nat.le_of_ble_eq_true rfl)⟩ (Nat.le_of_ble_eq_true rfl) (Nat.le_of_ble_eq_true rfl) (Nat.le_of_ble_eq_true rfl) (fun E s1 n1 q hx1 hq1 => ?_) (fun v s1 n1 hx1 hq1 => ?_)
  · obtain ⟨h1, h2, hE⟩ := hq1
    simp only [List.mem_cons, List.mem_nil_iff, or_false, Prod.mk.injEq] at hE
    rcases hE with ⟨rfl, hc⟩
    · refine ⟨12, hL_startOf_1, ?_⟩
      refine z_astore_n dL_startOf_12 (by decide) ?_
      refine z_iconst (v := 1) dL_startOf_13 (by decide) ?_
      exact z_iret dL_startOf_14 rfl (Nat.le_of_ble_eq_true rfl) (Nat.le_of_ble_eq_true rfl) ⟨by rw [hc]; rfl, fun w => by omega, fun _ => ⟨h1, _, (h2 o (Or.inr ⟨hbo, hoh⟩)).trans ho⟩, fun x a _ => h2 x a⟩
  · obtain ⟨hc, u', w, rfl, hP, h1, h2⟩ := hq1
    refine z_i2l dL_startOf_7 ?_
    refine z_last dL_startOf_8 ((h2 o (Or.inr ⟨hbo, hoh⟩)).trans ho) zin01 ?_
    refine z_goto (tgt := 15) dL_startOf_9 (by decide) ?_
    refine z_iconst (v := 0) dL_startOf_15 (by decide) ?_
    exact z_iret dL_startOf_16 rfl (Nat.le_of_ble_eq_true rfl) (Nat.le_of_ble_eq_true rfl) ⟨by rw [hc]; rfl, fun _ => ⟨u', w, hP, h1.fr fun x q => zu_ne (by omega), _, zu_eq _ _ _, zup0⟩, fun w => absurd hc w, fun x a a2 => (zu_ne a2).trans (h2 x a)⟩
set_option maxRecDepth 100000 in
set_option maxHeartbeats 1000000 in
theorem w_endOf (hG : zKap G) (hnx : hi ≤ nx) (ok : zOk (nt, lim, mem, wk, slow, r, L, A, tk, sp, cs)) (h : zTG G σ b hi nt lim mem wk slow r L A tk sp cs) (ho : σ o = some (zJ G 1 f0)) (hbo : b + 74 ≤ o) (hoh : o < hi) : zMW G yL_endOf kL_endOf [.ref b, .int x, .ref o] σ nx (fun v σ' nx' => zD1 G σ σ' b hi o Int32.toInt64 (zPq (nt, lim, mem, wk, slow, r, L, A, tk, sp, cs) (zAc (A.getD x.toNatClampNeg (0, 0, 0, 0, 0, false)) 4)) (zk_node A.length x) (nt, lim, mem, wk, slow, r, L, A, tk, sp, cs) v) := by
  refine zMW.of (ls := [some (.ref b), some (.int x), some (.ref o), none]) (by decide +kernel) ⟨rfl, rfl⟩ (Nat.le_of_ble_eq_true rfl) (fun _ h => h) ?_
  refine z_aload_n dL_endOf_0 rfl ?_
  refine z_iconst (v := 0) dL_endOf_1 (by decide) ?_
  refine z_aload_n dL_endOf_2 rfl ?_
  refine z_iload_n dL_endOf_3 rfl ?_
  refine z_callVH dL_endOf_4 cv_L_107 (a_endOf hG hnx ok h) rfl h.1 rfl rfl ⟨(Nat.le_of_ble_eq_true rfl), (Nat.le_of_ble_eq_true rfl)⟩ (Nat.le_of_ble_eq_true rfl) (Nat.le_of_ble_eq_true rfl) (Nat.le_of_ble_eq_true rfl) (fun E s1 n1 q hx1 hq1 => ?_) (fun v s1 n1 hx1 hq1 => ?_)
  · obtain ⟨h1, h2, hE⟩ := hq1
    simp only [List.mem_cons, List.mem_nil_iff, or_false, Prod.mk.injEq] at hE
    rcases hE with ⟨rfl, hc⟩
    · refine ⟨12, hL_endOf_1, ?_⟩
      refine z_astore_n dL_endOf_12 (by decide) ?_
      refine z_iconst (v := 1) dL_endOf_13 (by decide) ?_
      exact z_iret dL_endOf_14 rfl (Nat.le_of_ble_eq_true rfl) (Nat.le_of_ble_eq_true rfl) ⟨by rw [hc]; rfl, fun w => by omega, fun _ => ⟨h1, _, (h2 o (Or.inr ⟨hbo, hoh⟩)).trans ho⟩, fun x a _ => h2 x a⟩
  · obtain ⟨hc, u', w, rfl, hP, h1, h2⟩ := hq1
    refine z_i2l dL_endOf_7 ?_
    refine z_last dL_endOf_8 ((h2 o (Or.inr ⟨hbo, hoh⟩)).trans ho) zin01 ?_
    refine z_goto (tgt := 15) dL_endOf_9 (by decide) ?_
    refine z_iconst (v := 0) dL_endOf_15 (by decide) ?_
    exact z_iret dL_endOf_16 rfl (Nat.le_of_ble_eq_true rfl) (Nat.le_of_ble_eq_true rfl) ⟨by rw [hc]; rfl, fun _ => ⟨u', w, hP, h1.fr fun x q => zu_ne (by omega), _, zu_eq _ _ _, zup0⟩, fun w => absurd hc w, fun x a a2 => (zu_ne a2).trans (h2 x a)⟩
set_option maxRecDepth 100000 in
set_option maxHeartbeats 1000000 in
theorem w_isCopy (hG : zKap G) (hnx : hi ≤ nx) (ok : zOk (nt, lim, mem, wk, slow, r, L, A, tk, sp, cs)) (h : zTG G σ b hi nt lim mem wk slow r L A tk sp cs) (ho : σ o = some (zJ G 1 f0)) (hbo : b + 74 ≤ o) (hoh : o < hi) : zMW G yL_isCopy kL_isCopy [.ref b, .int x, .ref o] σ nx (fun v σ' nx' => zD1 G σ σ' b hi o zbl (zPq (nt, lim, mem, wk, slow, r, L, A, tk, sp, cs) (zAc (A.getD x.toNatClampNeg (0, 0, 0, 0, 0, false)) 5)) (zk_node A.length x) (nt, lim, mem, wk, slow, r, L, A, tk, sp, cs) v) := by
  refine zMW.of (ls := [some (.ref b), some (.int x), some (.ref o), none]) (by decide +kernel) ⟨rfl, rfl⟩ (Nat.le_of_ble_eq_true rfl) (fun _ h => h) ?_
  refine z_aload_n dL_isCopy_0 rfl ?_
  refine z_iconst (v := 0) dL_isCopy_1 (by decide) ?_
  refine z_aload_n dL_isCopy_2 rfl ?_
  refine z_iload_n dL_isCopy_3 rfl ?_
  refine z_callVH dL_isCopy_4 cv_L_110 (a_isCopy hG hnx ok h) rfl h.1 rfl rfl ⟨(Nat.le_of_ble_eq_true rfl), (Nat.le_of_ble_eq_true rfl)⟩ (Nat.le_of_ble_eq_true rfl) (Nat.le_of_ble_eq_true rfl) (Nat.le_of_ble_eq_true rfl) (fun E s1 n1 q hx1 hq1 => ?_) (fun v s1 n1 hx1 hq1 => ?_)
  · obtain ⟨h1, h2, hE⟩ := hq1
    simp only [List.mem_cons, List.mem_nil_iff, or_false, Prod.mk.injEq] at hE
    rcases hE with ⟨rfl, hc⟩
    · refine ⟨19, hL_isCopy_1, ?_⟩
      refine z_astore_n dL_isCopy_19 (by decide) ?_
      refine z_iconst (v := 1) dL_isCopy_20 (by decide) ?_
      exact z_iret dL_isCopy_21 rfl (Nat.le_of_ble_eq_true rfl) (Nat.le_of_ble_eq_true rfl) ⟨by rw [hc]; rfl, fun w => by omega, fun _ => ⟨h1, _, (h2 o (Or.inr ⟨hbo, hoh⟩)).trans ho⟩, fun x a _ => h2 x a⟩
  · obtain ⟨hc, u', w, rfl, hP, h1, h2⟩ := hq1
    by_cases hw : w = 0
    · refine z_if_eq (tgt := 14) dL_isCopy_7 (by decide) (fun _ => ?_) (fun q => absurd (hw) q)
      refine z_lconst (v := 0) dL_isCopy_14 (by decide) ?_
      refine z_last dL_isCopy_15 ((h2 o (Or.inr ⟨hbo, hoh⟩)).trans ho) zin01 ?_
      refine z_goto (tgt := 22) dL_isCopy_16 (by decide) ?_
      refine z_iconst (v := 0) dL_isCopy_22 (by decide) ?_
      exact z_iret dL_isCopy_23 rfl (Nat.le_of_ble_eq_true rfl) (Nat.le_of_ble_eq_true rfl) ⟨by rw [hc]; rfl, fun _ => ⟨u', w, hP, h1.fr fun x q => zu_ne (by omega), _, zu_eq _ _ _, (by rw [zbl, if_pos hw]; exact zup0)⟩, fun w => absurd hc w, fun x a a2 => (zu_ne a2).trans (h2 x a)⟩
    · refine z_if_eq (tgt := 14) dL_isCopy_7 (by decide) (fun q => absurd q (hw)) (fun _ => ?_)
      refine z_lconst (v := 1) dL_isCopy_10 (by decide) ?_
      refine z_goto (tgt := 15) dL_isCopy_11 (by decide) ?_
      refine z_last dL_isCopy_15 ((h2 o (Or.inr ⟨hbo, hoh⟩)).trans ho) zin01 ?_
      refine z_goto (tgt := 22) dL_isCopy_16 (by decide) ?_
      refine z_iconst (v := 0) dL_isCopy_22 (by decide) ?_
      exact z_iret dL_isCopy_23 rfl (Nat.le_of_ble_eq_true rfl) (Nat.le_of_ble_eq_true rfl) ⟨by rw [hc]; rfl, fun _ => ⟨u', w, hP, h1.fr fun x q => zu_ne (by omega), _, zu_eq _ _ _, (by rw [zbl, if_neg hw]; exact zup0)⟩, fun w => absurd hc w, fun x a a2 => (zu_ne a2).trans (h2 x a)⟩
end
