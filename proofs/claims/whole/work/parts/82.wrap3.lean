/-! the law: its methods that catch, 3 -/
section
variable {G : zG} {σ : zH} {b hi nx o : Nat} {f0 : Nat → Int64} {nt : zNT} {lim mem wk r tk sp cs : Nat} {slow : Nat → Nat} {L : zNS} {A : List zAE} {x y z : Int32}
set_option maxRecDepth 100000 in
set_option maxHeartbeats 1000000 in
theorem w_setSlowness (hG : zKap G) (hnx : hi ≤ nx) (ok : zOk (nt, lim, mem, wk, slow, r, L, A, tk, sp, cs)) (h : zTG G σ b hi nt lim mem wk slow r L A tk sp cs) (ho : σ o = some (zJ G 1 f0)) (hbo : b + 74 ≤ o) (hoh : o < hi) : zMW G yL_setSlowness kL_setSlowness [.ref b, .int x, .int y, .ref o] σ nx (fun v σ' nx' => zD1 G σ σ' b hi o Int32.toInt64 (zPq (nt, lim, mem, wk, zun slow x.toNatClampNeg y.toNatClampNeg, r, L, A, tk, sp, cs) (nI (slow x.toNatClampNeg))) (zk_slow x y) (nt, lim, mem, wk, slow, r, L, A, tk, sp, cs) v) := by
  refine zMW.of (ls := [some (.ref b), some (.int x), some (.int y), some (.ref o), none]) (by decide +kernel) ⟨rfl, rfl⟩ (Nat.le_of_ble_eq_true rfl) (fun _ h => h) ?_
  refine z_aload_n dL_setSlowness_0 rfl ?_
  refine z_iconst (v := 0) dL_setSlowness_1 (by decide) ?_
  refine z_aload_n dL_setSlowness_2 rfl ?_
  refine z_iload_n dL_setSlowness_3 rfl ?_
  refine z_iload_n dL_setSlowness_4 rfl ?_
  refine z_callVH dL_setSlowness_5 cv_L_67 (a_setSlowness hG hnx ok h) rfl h.1 rfl rfl ⟨(Nat.le_of_ble_eq_true rfl), (Nat.le_of_ble_eq_true rfl)⟩ (Nat.le_of_ble_eq_true rfl) (Nat.le_of_ble_eq_true rfl) (Nat.le_of_ble_eq_true rfl) (fun E s1 n1 q hx1 hq1 => ?_) (fun v s1 n1 hx1 hq1 => ?_)
  · obtain ⟨h1, h2, hE⟩ := hq1
    simp only [List.mem_cons, List.mem_nil_iff, or_false, Prod.mk.injEq] at hE
    rcases hE with ⟨rfl, hc⟩ | ⟨rfl, hc⟩
    · refine ⟨13, hL_setSlowness_1, ?_⟩
      refine z_astore dL_setSlowness_13 (by decide) ?_
      refine z_iconst (v := 1) dL_setSlowness_15 (by decide) ?_
      exact z_iret dL_setSlowness_16 rfl (Nat.le_of_ble_eq_true rfl) (Nat.le_of_ble_eq_true rfl) ⟨by rw [hc]; rfl, fun w => by omega, fun _ => ⟨h1, _, (h2 o (Or.inr ⟨hbo, hoh⟩)).trans ho⟩, fun x a _ => h2 x a⟩
    · refine ⟨17, hL_setSlowness_2, ?_⟩
      refine z_astore dL_setSlowness_17 (by decide) ?_
      refine z_iconst (v := 2) dL_setSlowness_19 (by decide) ?_
      exact z_iret dL_setSlowness_20 rfl (Nat.le_of_ble_eq_true rfl) (Nat.le_of_ble_eq_true rfl) ⟨by rw [hc]; rfl, fun w => by omega, fun _ => ⟨h1, _, (h2 o (Or.inr ⟨hbo, hoh⟩)).trans ho⟩, fun x a _ => h2 x a⟩
  · obtain ⟨hc, u', w, rfl, hP, h1, h2⟩ := hq1
    refine z_i2l dL_setSlowness_8 ?_
    refine z_last dL_setSlowness_9 ((h2 o (Or.inr ⟨hbo, hoh⟩)).trans ho) zin01 ?_
    refine z_goto (tgt := 21) dL_setSlowness_10 (by decide) ?_
    refine z_iconst (v := 0) dL_setSlowness_21 (by decide) ?_
    exact z_iret dL_setSlowness_22 rfl (Nat.le_of_ble_eq_true rfl) (Nat.le_of_ble_eq_true rfl) ⟨by rw [hc]; rfl, fun _ => ⟨u', w, hP, h1.fr fun x q => zu_ne (by omega), _, zu_eq _ _ _, zup0⟩, fun w => absurd hc w, fun x a a2 => (zu_ne a2).trans (h2 x a)⟩
set_option maxRecDepth 100000 in
set_option maxHeartbeats 1000000 in
theorem w_setMemory (hG : zKap G) (hnx : hi ≤ nx) (ok : zOk (nt, lim, mem, wk, slow, r, L, A, tk, sp, cs)) (h : zTG G σ b hi nt lim mem wk slow r L A tk sp cs) (ho : σ o = some (zJ G 1 f0)) (hbo : b + 74 ≤ o) (hoh : o < hi) : zMW G yL_setMemory kL_setMemory [.ref b, .int x, .ref o] σ nx (fun v σ' nx' => zD1 G σ σ' b hi o Int32.toInt64 (zPq (nt, lim, x.toNatClampNeg, wk, slow, r, L, A, tk, sp, cs) (nI mem)) (zk_1000 x) (nt, lim, mem, wk, slow, r, L, A, tk, sp, cs) v) := by
  refine zMW.of (ls := [some (.ref b), some (.int x), some (.ref o), none]) (by decide +kernel) ⟨rfl, rfl⟩ (Nat.le_of_ble_eq_true rfl) (fun _ h => h) ?_
  refine z_aload_n dL_setMemory_0 rfl ?_
  refine z_iconst (v := 0) dL_setMemory_1 (by decide) ?_
  refine z_aload_n dL_setMemory_2 rfl ?_
  refine z_iload_n dL_setMemory_3 rfl ?_
  refine z_callVH dL_setMemory_4 cv_L_70 (a_setMemory hG hnx ok h) rfl h.1 rfl rfl ⟨(Nat.le_of_ble_eq_true rfl), (Nat.le_of_ble_eq_true rfl)⟩ (Nat.le_of_ble_eq_true rfl) (Nat.le_of_ble_eq_true rfl) (Nat.le_of_ble_eq_true rfl) (fun E s1 n1 q hx1 hq1 => ?_) (fun v s1 n1 hx1 hq1 => ?_)
  · obtain ⟨h1, h2, hE⟩ := hq1
    simp only [List.mem_cons, List.mem_nil_iff, or_false, Prod.mk.injEq] at hE
    rcases hE with ⟨rfl, hc⟩
    · refine ⟨12, hL_setMemory_1, ?_⟩
      refine z_astore_n dL_setMemory_12 (by decide) ?_
      refine z_iconst (v := 1) dL_setMemory_13 (by decide) ?_
      exact z_iret dL_setMemory_14 rfl (Nat.le_of_ble_eq_true rfl) (Nat.le_of_ble_eq_true rfl) ⟨by rw [hc]; rfl, fun w => by omega, fun _ => ⟨h1, _, (h2 o (Or.inr ⟨hbo, hoh⟩)).trans ho⟩, fun x a _ => h2 x a⟩
  · obtain ⟨hc, u', w, rfl, hP, h1, h2⟩ := hq1
    refine z_i2l dL_setMemory_7 ?_
    refine z_last dL_setMemory_8 ((h2 o (Or.inr ⟨hbo, hoh⟩)).trans ho) zin01 ?_
    refine z_goto (tgt := 15) dL_setMemory_9 (by decide) ?_
    refine z_iconst (v := 0) dL_setMemory_15 (by decide) ?_
    exact z_iret dL_setMemory_16 rfl (Nat.le_of_ble_eq_true rfl) (Nat.le_of_ble_eq_true rfl) ⟨by rw [hc]; rfl, fun _ => ⟨u', w, hP, h1.fr fun x q => zu_ne (by omega), _, zu_eq _ _ _, zup0⟩, fun w => absurd hc w, fun x a a2 => (zu_ne a2).trans (h2 x a)⟩
set_option maxRecDepth 100000 in
set_option maxHeartbeats 1000000 in
theorem w_setLimit (hG : zKap G) (hnx : hi ≤ nx) (ok : zOk (nt, lim, mem, wk, slow, r, L, A, tk, sp, cs)) (h : zTG G σ b hi nt lim mem wk slow r L A tk sp cs) (ho : σ o = some (zJ G 1 f0)) (hbo : b + 74 ≤ o) (hoh : o < hi) : zMW G yL_setLimit kL_setLimit [.ref b, .int x, .ref o] σ nx (fun v σ' nx' => zD1 G σ σ' b hi o Int32.toInt64 (zPq (nt, x.toNatClampNeg, mem, wk, slow, r, [], A, tk, sp, cs) (nI lim)) (zk_1000 x) (nt, lim, mem, wk, slow, r, L, A, tk, sp, cs) v) := by
  refine zMW.of (ls := [some (.ref b), some (.int x), some (.ref o), none]) (by decide +kernel) ⟨rfl, rfl⟩ (Nat.le_of_ble_eq_true rfl) (fun _ h => h) ?_
  refine z_aload_n dL_setLimit_0 rfl ?_
  refine z_iconst (v := 0) dL_setLimit_1 (by decide) ?_
  refine z_aload_n dL_setLimit_2 rfl ?_
  refine z_iload_n dL_setLimit_3 rfl ?_
  refine z_callVH dL_setLimit_4 cv_L_73 (a_setLimit hG hnx ok h) rfl h.1 rfl rfl ⟨(Nat.le_of_ble_eq_true rfl), (Nat.le_of_ble_eq_true rfl)⟩ (Nat.le_of_ble_eq_true rfl) (Nat.le_of_ble_eq_true rfl) (Nat.le_of_ble_eq_true rfl) (fun E s1 n1 q hx1 hq1 => ?_) (fun v s1 n1 hx1 hq1 => ?_)
  · obtain ⟨h1, h2, hE⟩ := hq1
    simp only [List.mem_cons, List.mem_nil_iff, or_false, Prod.mk.injEq] at hE
    rcases hE with ⟨rfl, hc⟩
    · refine ⟨12, hL_setLimit_1, ?_⟩
      refine z_astore_n dL_setLimit_12 (by decide) ?_
      refine z_iconst (v := 1) dL_setLimit_13 (by decide) ?_
      exact z_iret dL_setLimit_14 rfl (Nat.le_of_ble_eq_true rfl) (Nat.le_of_ble_eq_true rfl) ⟨by rw [hc]; rfl, fun w => by omega, fun _ => ⟨h1, _, (h2 o (Or.inr ⟨hbo, hoh⟩)).trans ho⟩, fun x a _ => h2 x a⟩
  · obtain ⟨hc, u', w, rfl, hP, h1, h2⟩ := hq1
    refine z_i2l dL_setLimit_7 ?_
    refine z_last dL_setLimit_8 ((h2 o (Or.inr ⟨hbo, hoh⟩)).trans ho) zin01 ?_
    refine z_goto (tgt := 15) dL_setLimit_9 (by decide) ?_
    refine z_iconst (v := 0) dL_setLimit_15 (by decide) ?_
    exact z_iret dL_setLimit_16 rfl (Nat.le_of_ble_eq_true rfl) (Nat.le_of_ble_eq_true rfl) ⟨by rw [hc]; rfl, fun _ => ⟨u', w, hP, h1.fr fun x q => zu_ne (by omega), _, zu_eq _ _ _, zup0⟩, fun w => absurd hc w, fun x a a2 => (zu_ne a2).trans (h2 x a)⟩
set_option maxRecDepth 100000 in
set_option maxHeartbeats 1000000 in
theorem w_setRoom (hG : zKap G) (hnx : hi ≤ nx) (ok : zOk (nt, lim, mem, wk, slow, r, L, A, tk, sp, cs)) (h : zTG G σ b hi nt lim mem wk slow r L A tk sp cs) (ho : σ o = some (zJ G 1 f0)) (hbo : b + 74 ≤ o) (hoh : o < hi) : zMW G yL_setRoom kL_setRoom [.ref b, .int x, .ref o] σ nx (fun v σ' nx' => zD1 G σ σ' b hi o Int32.toInt64 (zPq (nt, lim, mem, wk, slow, x.toNatClampNeg, zmkr x.toNatClampNeg 0 L, A, tk, sp, cs) (nI (L.length - (zmkr x.toNatClampNeg 0 L).length))) (zk_1000 x) (nt, lim, mem, wk, slow, r, L, A, tk, sp, cs) v) := by
  refine zMW.of (ls := [some (.ref b), some (.int x), some (.ref o), none]) (by decide +kernel) ⟨rfl, rfl⟩ (Nat.le_of_ble_eq_true rfl) (fun _ h => h) ?_
  refine z_aload_n dL_setRoom_0 rfl ?_
  refine z_iconst (v := 0) dL_setRoom_1 (by decide) ?_
  refine z_aload_n dL_setRoom_2 rfl ?_
  refine z_iload_n dL_setRoom_3 rfl ?_
  refine z_callVH dL_setRoom_4 cv_L_76 (a_setRoom hG hnx ok h) rfl h.1 rfl rfl ⟨(Nat.le_of_ble_eq_true rfl), (Nat.le_of_ble_eq_true rfl)⟩ (Nat.le_of_ble_eq_true rfl) (Nat.le_of_ble_eq_true rfl) (Nat.le_of_ble_eq_true rfl) (fun E s1 n1 q hx1 hq1 => ?_) (fun v s1 n1 hx1 hq1 => ?_)
  · obtain ⟨h1, h2, hE⟩ := hq1
    simp only [List.mem_cons, List.mem_nil_iff, or_false, Prod.mk.injEq] at hE
    rcases hE with ⟨rfl, hc⟩
    · refine ⟨12, hL_setRoom_1, ?_⟩
      refine z_astore_n dL_setRoom_12 (by decide) ?_
      refine z_iconst (v := 1) dL_setRoom_13 (by decide) ?_
      exact z_iret dL_setRoom_14 rfl (Nat.le_of_ble_eq_true rfl) (Nat.le_of_ble_eq_true rfl) ⟨by rw [hc]; rfl, fun w => by omega, fun _ => ⟨h1, _, (h2 o (Or.inr ⟨hbo, hoh⟩)).trans ho⟩, fun x a _ => h2 x a⟩
  · obtain ⟨hc, u', w, rfl, hP, h1, h2⟩ := hq1
    refine z_i2l dL_setRoom_7 ?_
    refine z_last dL_setRoom_8 ((h2 o (Or.inr ⟨hbo, hoh⟩)).trans ho) zin01 ?_
    refine z_goto (tgt := 15) dL_setRoom_9 (by decide) ?_
    refine z_iconst (v := 0) dL_setRoom_15 (by decide) ?_
    exact z_iret dL_setRoom_16 rfl (Nat.le_of_ble_eq_true rfl) (Nat.le_of_ble_eq_true rfl) ⟨by rw [hc]; rfl, fun _ => ⟨u', w, hP, h1.fr fun x q => zu_ne (by omega), _, zu_eq _ _ _, zup0⟩, fun w => absurd hc w, fun x a a2 => (zu_ne a2).trans (h2 x a)⟩
set_option maxRecDepth 100000 in
set_option maxHeartbeats 1000000 in
theorem w_mark (hG : zKap G) (hnx : hi ≤ nx) (hy : y = 0 ∨ y = 1) (ok : zOk (nt, lim, mem, wk, slow, r, L, A, tk, sp, cs)) (h : zTG G σ b hi nt lim mem wk slow r L A tk sp cs) (ho : σ o = some (zJ G 1 f0)) (hbo : b + 74 ≤ o) (hoh : o < hi) : zMW G yL_mark kL_mark [.ref b, .int x, .int y, .ref o] σ nx (fun v σ' nx' => zD1 G σ σ' b hi o zbl (zPq (zmark nt x.toNatClampNeg y, lim, mem, wk, slow, r, L, A, tk, sp, cs) ((nt.getD x.toNatClampNeg zdf).2.2.1 11)) (zk_node nt.length x) (nt, lim, mem, wk, slow, r, L, A, tk, sp, cs) v) := by
  refine zMW.of (ls := [some (.ref b), some (.int x), some (.int y), some (.ref o), none]) (by decide +kernel) ⟨rfl, rfl⟩ (Nat.le_of_ble_eq_true rfl) (fun _ h => h) ?_
  refine z_aload_n dL_mark_0 rfl ?_
  refine z_iconst (v := 0) dL_mark_1 (by decide) ?_
  refine z_aload_n dL_mark_2 rfl ?_
  refine z_iload_n dL_mark_3 rfl ?_
  refine z_iload_n dL_mark_4 rfl ?_
  refine z_callVH dL_mark_5 cv_L_79 (a_mark hG hnx hy ok h) rfl h.1 rfl rfl ⟨(Nat.le_of_ble_eq_true rfl), (Nat.le_of_ble_eq_true rfl)⟩ (Nat.le_of_ble_eq_true rfl) (Nat.le_of_ble_eq_true rfl) (Nat.le_of_ble_eq_true rfl) (fun E s1 n1 q hx1 hq1 => ?_) (fun v s1 n1 hx1 hq1 => ?_)
  · obtain ⟨h1, h2, hE⟩ := hq1
    simp only [List.mem_cons, List.mem_nil_iff, or_false, Prod.mk.injEq] at hE
    rcases hE with ⟨rfl, hc⟩
    · refine ⟨20, hL_mark_1, ?_⟩
      refine z_astore dL_mark_20 (by decide) ?_
      refine z_iconst (v := 1) dL_mark_22 (by decide) ?_
      exact z_iret dL_mark_23 rfl (Nat.le_of_ble_eq_true rfl) (Nat.le_of_ble_eq_true rfl) ⟨by rw [hc]; rfl, fun w => by omega, fun _ => ⟨h1, _, (h2 o (Or.inr ⟨hbo, hoh⟩)).trans ho⟩, fun x a _ => h2 x a⟩
  · obtain ⟨hc, u', w, rfl, hP, h1, h2⟩ := hq1
    by_cases hw : w = 0
    · refine z_if_eq (tgt := 15) dL_mark_8 (by decide) (fun _ => ?_) (fun q => absurd (hw) q)
      refine z_lconst (v := 0) dL_mark_15 (by decide) ?_
      refine z_last dL_mark_16 ((h2 o (Or.inr ⟨hbo, hoh⟩)).trans ho) zin01 ?_
      refine z_goto (tgt := 24) dL_mark_17 (by decide) ?_
      refine z_iconst (v := 0) dL_mark_24 (by decide) ?_
      exact z_iret dL_mark_25 rfl (Nat.le_of_ble_eq_true rfl) (Nat.le_of_ble_eq_true rfl) ⟨by rw [hc]; rfl, fun _ => ⟨u', w, hP, h1.fr fun x q => zu_ne (by omega), _, zu_eq _ _ _, (by rw [zbl, if_pos hw]; exact zup0)⟩, fun w => absurd hc w, fun x a a2 => (zu_ne a2).trans (h2 x a)⟩
    · refine z_if_eq (tgt := 15) dL_mark_8 (by decide) (fun q => absurd q (hw)) (fun _ => ?_)
      refine z_lconst (v := 1) dL_mark_11 (by decide) ?_
      refine z_goto (tgt := 16) dL_mark_12 (by decide) ?_
      refine z_last dL_mark_16 ((h2 o (Or.inr ⟨hbo, hoh⟩)).trans ho) zin01 ?_
      refine z_goto (tgt := 24) dL_mark_17 (by decide) ?_
      refine z_iconst (v := 0) dL_mark_24 (by decide) ?_
      exact z_iret dL_mark_25 rfl (Nat.le_of_ble_eq_true rfl) (Nat.le_of_ble_eq_true rfl) ⟨by rw [hc]; rfl, fun _ => ⟨u', w, hP, h1.fr fun x q => zu_ne (by omega), _, zu_eq _ _ _, (by rw [zbl, if_neg hw]; exact zup0)⟩, fun w => absurd hc w, fun x a a2 => (zu_ne a2).trans (h2 x a)⟩
set_option maxRecDepth 100000 in
set_option maxHeartbeats 1000000 in
theorem w_isCached (hG : zKap G) (hnx : hi ≤ nx) (ok : zOk (nt, lim, mem, wk, slow, r, L, A, tk, sp, cs)) (h : zTG G σ b hi nt lim mem wk slow r L A tk sp cs) (ho : σ o = some (zJ G 1 f0)) (hbo : b + 74 ≤ o) (hoh : o < hi) : zMW G yL_isCached kL_isCached [.ref b, .int x, .ref o] σ nx (fun v σ' nx' => zD1 G σ σ' b hi o zbl (zPq (nt, lim, mem, wk, slow, r, L, A, tk, sp, cs) (if zcd L x.toNatClampNeg = true then 1 else 0)) (zk_node nt.length x) (nt, lim, mem, wk, slow, r, L, A, tk, sp, cs) v) := by
  refine zMW.of (ls := [some (.ref b), some (.int x), some (.ref o), none]) (by decide +kernel) ⟨rfl, rfl⟩ (Nat.le_of_ble_eq_true rfl) (fun _ h => h) ?_
  refine z_aload_n dL_isCached_0 rfl ?_
  refine z_iconst (v := 0) dL_isCached_1 (by decide) ?_
  refine z_aload_n dL_isCached_2 rfl ?_
  refine z_iload_n dL_isCached_3 rfl ?_
  refine z_callVH dL_isCached_4 cv_L_83 (a_isCached hG hnx ok h) rfl h.1 rfl rfl ⟨(Nat.le_of_ble_eq_true rfl), (Nat.le_of_ble_eq_true rfl)⟩ (Nat.le_of_ble_eq_true rfl) (Nat.le_of_ble_eq_true rfl) (Nat.le_of_ble_eq_true rfl) (fun E s1 n1 q hx1 hq1 => ?_) (fun v s1 n1 hx1 hq1 => ?_)
  · obtain ⟨h1, h2, hE⟩ := hq1
    simp only [List.mem_cons, List.mem_nil_iff, or_false, Prod.mk.injEq] at hE
    rcases hE with ⟨rfl, hc⟩
    · refine ⟨19, hL_isCached_1, ?_⟩
      refine z_astore_n dL_isCached_19 (by decide) ?_
      refine z_iconst (v := 1) dL_isCached_20 (by decide) ?_
      exact z_iret dL_isCached_21 rfl (Nat.le_of_ble_eq_true rfl) (Nat.le_of_ble_eq_true rfl) ⟨by rw [hc]; rfl, fun w => by omega, fun _ => ⟨h1, _, (h2 o (Or.inr ⟨hbo, hoh⟩)).trans ho⟩, fun x a _ => h2 x a⟩
  · obtain ⟨hc, u', w, rfl, hP, h1, h2⟩ := hq1
    by_cases hw : w = 0
    · refine z_if_eq (tgt := 14) dL_isCached_7 (by decide) (fun _ => ?_) (fun q => absurd (hw) q)
      refine z_lconst (v := 0) dL_isCached_14 (by decide) ?_
      refine z_last dL_isCached_15 ((h2 o (Or.inr ⟨hbo, hoh⟩)).trans ho) zin01 ?_
      refine z_goto (tgt := 22) dL_isCached_16 (by decide) ?_
      refine z_iconst (v := 0) dL_isCached_22 (by decide) ?_
      exact z_iret dL_isCached_23 rfl (Nat.le_of_ble_eq_true rfl) (Nat.le_of_ble_eq_true rfl) ⟨by rw [hc]; rfl, fun _ => ⟨u', w, hP, h1.fr fun x q => zu_ne (by omega), _, zu_eq _ _ _, (by rw [zbl, if_pos hw]; exact zup0)⟩, fun w => absurd hc w, fun x a a2 => (zu_ne a2).trans (h2 x a)⟩
    · refine z_if_eq (tgt := 14) dL_isCached_7 (by decide) (fun q => absurd q (hw)) (fun _ => ?_)
      refine z_lconst (v := 1) dL_isCached_10 (by decide) ?_
      refine z_goto (tgt := 15) dL_isCached_11 (by decide) ?_
      refine z_last dL_isCached_15 ((h2 o (Or.inr ⟨hbo, hoh⟩)).trans ho) zin01 ?_
      refine z_goto (tgt := 22) dL_isCached_16 (by decide) ?_
      refine z_iconst (v := 0) dL_isCached_22 (by decide) ?_
      exact z_iret dL_isCached_23 rfl (Nat.le_of_ble_eq_true rfl) (Nat.le_of_ble_eq_true rfl) ⟨by rw [hc]; rfl, fun _ => ⟨u', w, hP, h1.fr fun x q => zu_ne (by omega), _, zu_eq _ _ _, (by rw [zbl, if_neg hw]; exact zup0)⟩, fun w => absurd hc w, fun x a a2 => (zu_ne a2).trans (h2 x a)⟩
set_option maxRecDepth 100000 in
set_option maxHeartbeats 1000000 in
theorem w_stages (hG : zKap G) (hnx : hi ≤ nx) (ok : zOk (nt, lim, mem, wk, slow, r, L, A, tk, sp, cs)) (h : zTG G σ b hi nt lim mem wk slow r L A tk sp cs) (ho : σ o = some (zJ G 1 f0)) (hbo : b + 74 ≤ o) (hoh : o < hi) : zMW G yL_stages kL_stages [.ref b, .int x, .ref o] σ nx (fun v σ' nx' => zD1 G σ σ' b hi o Int32.toInt64 (zPq (nt, lim, mem, wk, slow, r, L, A, tk, sp, cs) (nI (zcn (zdraw lim nt (zcd L) x.toNatClampNeg).2.1 14))) (zk_node nt.length x) (nt, lim, mem, wk, slow, r, L, A, tk, sp, cs) v) := by
  refine zMW.of (ls := [some (.ref b), some (.int x), some (.ref o), none]) (by decide +kernel) ⟨rfl, rfl⟩ (Nat.le_of_ble_eq_true rfl) (fun _ h => h) ?_
  refine z_aload_n dL_stages_0 rfl ?_
  refine z_iconst (v := 0) dL_stages_1 (by decide) ?_
  refine z_aload_n dL_stages_2 rfl ?_
  refine z_iload_n dL_stages_3 rfl ?_
  refine z_callVH dL_stages_4 cv_L_86 (a_stages hG hnx ok h) rfl h.1 rfl rfl ⟨(Nat.le_of_ble_eq_true rfl), (Nat.le_of_ble_eq_true rfl)⟩ (Nat.le_of_ble_eq_true rfl) (Nat.le_of_ble_eq_true rfl) (Nat.le_of_ble_eq_true rfl) (fun E s1 n1 q hx1 hq1 => ?_) (fun v s1 n1 hx1 hq1 => ?_)
  · obtain ⟨h1, h2, hE⟩ := hq1
    simp only [List.mem_cons, List.mem_nil_iff, or_false, Prod.mk.injEq] at hE
    rcases hE with ⟨rfl, hc⟩
    · refine ⟨12, hL_stages_1, ?_⟩
      refine z_astore_n dL_stages_12 (by decide) ?_
      refine z_iconst (v := 1) dL_stages_13 (by decide) ?_
      exact z_iret dL_stages_14 rfl (Nat.le_of_ble_eq_true rfl) (Nat.le_of_ble_eq_true rfl) ⟨by rw [hc]; rfl, fun w => by omega, fun _ => ⟨h1, _, (h2 o (Or.inr ⟨hbo, hoh⟩)).trans ho⟩, fun x a _ => h2 x a⟩
  · obtain ⟨hc, u', w, rfl, hP, h1, h2⟩ := hq1
    refine z_i2l dL_stages_7 ?_
    refine z_last dL_stages_8 ((h2 o (Or.inr ⟨hbo, hoh⟩)).trans ho) zin01 ?_
    refine z_goto (tgt := 15) dL_stages_9 (by decide) ?_
    refine z_iconst (v := 0) dL_stages_15 (by decide) ?_
    exact z_iret dL_stages_16 rfl (Nat.le_of_ble_eq_true rfl) (Nat.le_of_ble_eq_true rfl) ⟨by rw [hc]; rfl, fun _ => ⟨u', w, hP, h1.fr fun x q => zu_ne (by omega), _, zu_eq _ _ _, zup0⟩, fun w => absurd hc w, fun x a a2 => (zu_ne a2).trans (h2 x a)⟩
set_option maxRecDepth 100000 in
set_option maxHeartbeats 1000000 in
theorem w_outputOf (hG : zKap G) (hnx : hi ≤ nx) (ok : zOk (nt, lim, mem, wk, slow, r, L, A, tk, sp, cs)) (h : zTG G σ b hi nt lim mem wk slow r L A tk sp cs) (ho : σ o = some (zJ G 1 f0)) (hbo : b + 74 ≤ o) (hoh : o < hi) : zMW G yL_outputOf kL_outputOf [.ref b, .int x, .int y, .ref o] σ nx (fun v σ' nx' => zD1 G σ σ' b hi o Int32.toInt64 (zPq (nt, lim, mem, wk, slow, r, L, A, tk, sp, cs) (nI (znu (zdraw lim nt (zcd L) x.toNatClampNeg).2.1 y.toNatClampNeg))) (zk_out lim nt (zcd L) x y) (nt, lim, mem, wk, slow, r, L, A, tk, sp, cs) v) := by
  refine zMW.of (ls := [some (.ref b), some (.int x), some (.int y), some (.ref o), none]) (by decide +kernel) ⟨rfl, rfl⟩ (Nat.le_of_ble_eq_true rfl) (fun _ h => h) ?_
  refine z_aload_n dL_outputOf_0 rfl ?_
  refine z_iconst (v := 0) dL_outputOf_1 (by decide) ?_
  refine z_aload_n dL_outputOf_2 rfl ?_
  refine z_iload_n dL_outputOf_3 rfl ?_
  refine z_iload_n dL_outputOf_4 rfl ?_
  refine z_callVH dL_outputOf_5 cv_L_89 (a_outputOf hG hnx ok h) rfl h.1 rfl rfl ⟨(Nat.le_of_ble_eq_true rfl), (Nat.le_of_ble_eq_true rfl)⟩ (Nat.le_of_ble_eq_true rfl) (Nat.le_of_ble_eq_true rfl) (Nat.le_of_ble_eq_true rfl) (fun E s1 n1 q hx1 hq1 => ?_) (fun v s1 n1 hx1 hq1 => ?_)
  · obtain ⟨h1, h2, hE⟩ := hq1
    simp only [List.mem_cons, List.mem_nil_iff, or_false, Prod.mk.injEq] at hE
    rcases hE with ⟨rfl, hc⟩
    · refine ⟨13, hL_outputOf_1, ?_⟩
      refine z_astore dL_outputOf_13 (by decide) ?_
      refine z_iconst (v := 1) dL_outputOf_15 (by decide) ?_
      exact z_iret dL_outputOf_16 rfl (Nat.le_of_ble_eq_true rfl) (Nat.le_of_ble_eq_true rfl) ⟨by rw [hc]; rfl, fun w => by omega, fun _ => ⟨h1, _, (h2 o (Or.inr ⟨hbo, hoh⟩)).trans ho⟩, fun x a _ => h2 x a⟩
  · obtain ⟨hc, u', w, rfl, hP, h1, h2⟩ := hq1
    refine z_i2l dL_outputOf_8 ?_
    refine z_last dL_outputOf_9 ((h2 o (Or.inr ⟨hbo, hoh⟩)).trans ho) zin01 ?_
    refine z_goto (tgt := 17) dL_outputOf_10 (by decide) ?_
    refine z_iconst (v := 0) dL_outputOf_17 (by decide) ?_
    exact z_iret dL_outputOf_18 rfl (Nat.le_of_ble_eq_true rfl) (Nat.le_of_ble_eq_true rfl) ⟨by rw [hc]; rfl, fun _ => ⟨u', w, hP, h1.fr fun x q => zu_ne (by omega), _, zu_eq _ _ _, zup0⟩, fun w => absurd hc w, fun x a a2 => (zu_ne a2).trans (h2 x a)⟩
end
