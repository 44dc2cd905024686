/-! the law: its methods that catch, 1 -/
section
variable {G : zG} {σ : zH} {b hi nx o : Nat} {f0 : Nat → Int64} {nt : zNT} {lim mem wk r tk sp cs : Nat} {slow : Nat → Nat} {L : zNS} {A : List zAE} {x y z : Int32}
set_option maxRecDepth 100000 in
set_option maxHeartbeats 1000000 in
theorem w_source (hG : zKap G) (hnx : hi ≤ nx) (ok : zOk (nt, lim, mem, wk, slow, r, L, A, tk, sp, cs)) (h : zTG G σ b hi nt lim mem wk slow r L A tk sp cs) (ho : σ o = some (zJ G 1 f0)) (hbo : b + 74 ≤ o) (hoh : o < hi) : zMW G yL_source kL_source [.ref b, .int x, .ref o] σ nx (fun v σ' nx' => zD1 G σ σ' b hi o Int32.toInt64 (zPn nt lim mem wk slow r L A tk sp cs 0 (upd (upd (zD0 (-1) (-1) 12 x) 6 x) 12 (zLW nt b (-1) (-1)))) (zk_source nt.length x) (nt, lim, mem, wk, slow, r, L, A, tk, sp, cs) v) := by
  refine zMW.of (ls := [some (.ref b), some (.int x), some (.ref o), none]) (by decide +kernel) ⟨rfl, rfl⟩ (Nat.le_of_ble_eq_true rfl) (fun _ h => h) ?_
  refine z_aload_n dL_source_0 rfl ?_
  refine z_iconst (v := 0) dL_source_1 (by decide) ?_
  refine z_aload_n dL_source_2 rfl ?_
  refine z_iload_n dL_source_3 rfl ?_
  refine z_callVH dL_source_4 cv_L_7 (a_source hG hnx ok h) rfl h.1 rfl rfl ⟨(Nat.le_of_ble_eq_true rfl), (Nat.le_of_ble_eq_true rfl)⟩ (Nat.le_of_ble_eq_true rfl) (Nat.le_of_ble_eq_true rfl) (Nat.le_of_ble_eq_true rfl) (fun E s1 n1 q hx1 hq1 => ?_) (fun v s1 n1 hx1 hq1 => ?_)
  · obtain ⟨h1, h2, hE⟩ := hq1
    simp only [List.mem_cons, List.mem_nil_iff, or_false, Prod.mk.injEq] at hE
    rcases hE with ⟨rfl, hc⟩ | ⟨rfl, hc⟩
    · refine ⟨12, hL_source_1, ?_⟩
      refine z_astore_n dL_source_12 (by decide) ?_
      refine z_iconst (v := 1) dL_source_13 (by decide) ?_
      exact z_iret dL_source_14 rfl (Nat.le_of_ble_eq_true rfl) (Nat.le_of_ble_eq_true rfl) ⟨by rw [hc]; rfl, fun w => by omega, fun _ => ⟨h1, _, (h2 o (Or.inr ⟨hbo, hoh⟩)).trans ho⟩, fun x a _ => h2 x a⟩
    · refine ⟨15, hL_source_2, ?_⟩
      refine z_astore_n dL_source_15 (by decide) ?_
      refine z_iconst (v := 2) dL_source_16 (by decide) ?_
      exact z_iret dL_source_17 rfl (Nat.le_of_ble_eq_true rfl) (Nat.le_of_ble_eq_true rfl) ⟨by rw [hc]; rfl, fun w => by omega, fun _ => ⟨h1, _, (h2 o (Or.inr ⟨hbo, hoh⟩)).trans ho⟩, fun x a _ => h2 x a⟩
  · obtain ⟨hc, u', w, rfl, hP, h1, h2⟩ := hq1
    refine z_i2l dL_source_7 ?_
    refine z_last dL_source_8 ((h2 o (Or.inr ⟨hbo, hoh⟩)).trans ho) zin01 ?_
    refine z_goto (tgt := 18) dL_source_9 (by decide) ?_
    refine z_iconst (v := 0) dL_source_18 (by decide) ?_
    exact z_iret dL_source_19 rfl (Nat.le_of_ble_eq_true rfl) (Nat.le_of_ble_eq_true rfl) ⟨by rw [hc]; rfl, fun _ => ⟨u', w, hP, h1.fr fun x q => zu_ne (by omega), _, zu_eq _ _ _, zup0⟩, fun w => absurd hc w, fun x a a2 => (zu_ne a2).trans (h2 x a)⟩
set_option maxRecDepth 100000 in
set_option maxHeartbeats 1000000 in
theorem w_put (hG : zKap G) (hnx : hi ≤ nx) (ok : zOk (nt, lim, mem, wk, slow, r, L, A, tk, sp, cs)) (h : zTG G σ b hi nt lim mem wk slow r L A tk sp cs) (ho : σ o = some (zJ G 1 f0)) (hbo : b + 74 ≤ o) (hoh : o < hi) : zMW G yL_put kL_put [.ref b, .int x, .int y, .int z, .ref o] σ nx (fun v σ' nx' => zD1 G σ σ' b hi o Int32.toInt64 (zPq (zput nt x.toNatClampNeg (y, z), lim, mem, wk, slow, r, [], A, tk, sp, cs) (nI ((nt.getD x.toNatClampNeg zdf).2.2.2.length + 1))) (zk_put nt x) (nt, lim, mem, wk, slow, r, L, A, tk, sp, cs) v) := by
  refine zMW.of (ls := [some (.ref b), some (.int x), some (.int y), some (.int z), some (.ref o), none]) (by decide +kernel) ⟨rfl, rfl⟩ (Nat.le_of_ble_eq_true rfl) (fun _ h => h) ?_
  refine z_aload dL_put_0 rfl ?_
  refine z_iconst (v := 0) dL_put_2 (by decide) ?_
  refine z_aload_n dL_put_3 rfl ?_
  refine z_iload_n dL_put_4 rfl ?_
  refine z_iload_n dL_put_5 rfl ?_
  refine z_iload_n dL_put_6 rfl ?_
  refine z_callVH dL_put_7 cv_L_17 (a_put hG hnx ok h) rfl h.1 rfl rfl ⟨(Nat.le_of_ble_eq_true rfl), (Nat.le_of_ble_eq_true rfl)⟩ (Nat.le_of_ble_eq_true rfl) (Nat.le_of_ble_eq_true rfl) (Nat.le_of_ble_eq_true rfl) (fun E s1 n1 q hx1 hq1 => ?_) (fun v s1 n1 hx1 hq1 => ?_)
  · obtain ⟨h1, h2, hE⟩ := hq1
    simp only [List.mem_cons, List.mem_nil_iff, or_false, Prod.mk.injEq] at hE
    rcases hE with ⟨rfl, hc⟩ | ⟨rfl, hc⟩
    · refine ⟨15, hL_put_1, ?_⟩
      refine z_astore dL_put_15 (by decide) ?_
      refine z_iconst (v := 1) dL_put_17 (by decide) ?_
      exact z_iret dL_put_18 rfl (Nat.le_of_ble_eq_true rfl) (Nat.le_of_ble_eq_true rfl) ⟨by rw [hc]; rfl, fun w => by omega, fun _ => ⟨h1, _, (h2 o (Or.inr ⟨hbo, hoh⟩)).trans ho⟩, fun x a _ => h2 x a⟩
    · refine ⟨19, hL_put_2, ?_⟩
      refine z_astore dL_put_19 (by decide) ?_
      refine z_iconst (v := 2) dL_put_21 (by decide) ?_
      exact z_iret dL_put_22 rfl (Nat.le_of_ble_eq_true rfl) (Nat.le_of_ble_eq_true rfl) ⟨by rw [hc]; rfl, fun w => by omega, fun _ => ⟨h1, _, (h2 o (Or.inr ⟨hbo, hoh⟩)).trans ho⟩, fun x a _ => h2 x a⟩
  · obtain ⟨hc, u', w, rfl, hP, h1, h2⟩ := hq1
    refine z_i2l dL_put_10 ?_
    refine z_last dL_put_11 ((h2 o (Or.inr ⟨hbo, hoh⟩)).trans ho) zin01 ?_
    refine z_goto (tgt := 23) dL_put_12 (by decide) ?_
    refine z_iconst (v := 0) dL_put_23 (by decide) ?_
    exact z_iret dL_put_24 rfl (Nat.le_of_ble_eq_true rfl) (Nat.le_of_ble_eq_true rfl) ⟨by rw [hc]; rfl, fun _ => ⟨u', w, hP, h1.fr fun x q => zu_ne (by omega), _, zu_eq _ _ _, zup0⟩, fun w => absurd hc w, fun x a a2 => (zu_ne a2).trans (h2 x a)⟩
set_option maxRecDepth 100000 in
set_option maxHeartbeats 1000000 in
theorem w_map (hG : zKap G) (hnx : hi ≤ nx) (ok : zOk (nt, lim, mem, wk, slow, r, L, A, tk, sp, cs)) (h : zTG G σ b hi nt lim mem wk slow r L A tk sp cs) (ho : σ o = some (zJ G 1 f0)) (hbo : b + 74 ≤ o) (hoh : o < hi) : zMW G yL_map kL_map [.ref b, .int x, .int y, .int z, .ref o] σ nx (fun v σ' nx' => zD1 G σ σ' b hi o Int32.toInt64 (zPn nt lim mem wk slow r L A tk sp cs 1 (upd (upd (upd (zD0 x (-1) ((nt.getD x.toNatClampNeg zdf).2.2.1 3) ((nt.getD x.toNatClampNeg zdf).2.2.1 4)) 7 y) 8 z) 12 (zLW nt b x (-1)))) (zk_map nt.length x y z) (nt, lim, mem, wk, slow, r, L, A, tk, sp, cs) v) := by
  refine zMW.of (ls := [some (.ref b), some (.int x), some (.int y), some (.int z), some (.ref o), none]) (by decide +kernel) ⟨rfl, rfl⟩ (Nat.le_of_ble_eq_true rfl) (fun _ h => h) ?_
  refine z_aload dL_map_0 rfl ?_
  refine z_iconst (v := 0) dL_map_2 (by decide) ?_
  refine z_aload_n dL_map_3 rfl ?_
  refine z_iload_n dL_map_4 rfl ?_
  refine z_iload_n dL_map_5 rfl ?_
  refine z_iload_n dL_map_6 rfl ?_
  refine z_callVH dL_map_7 cv_L_23 (a_map hG hnx ok h) rfl h.1 rfl rfl ⟨(Nat.le_of_ble_eq_true rfl), (Nat.le_of_ble_eq_true rfl)⟩ (Nat.le_of_ble_eq_true rfl) (Nat.le_of_ble_eq_true rfl) (Nat.le_of_ble_eq_true rfl) (fun E s1 n1 q hx1 hq1 => ?_) (fun v s1 n1 hx1 hq1 => ?_)
  · obtain ⟨h1, h2, hE⟩ := hq1
    simp only [List.mem_cons, List.mem_nil_iff, or_false, Prod.mk.injEq] at hE
    rcases hE with ⟨rfl, hc⟩ | ⟨rfl, hc⟩ | ⟨rfl, hc⟩
    · refine ⟨15, hL_map_1, ?_⟩
      refine z_astore dL_map_15 (by decide) ?_
      refine z_iconst (v := 1) dL_map_17 (by decide) ?_
      exact z_iret dL_map_18 rfl (Nat.le_of_ble_eq_true rfl) (Nat.le_of_ble_eq_true rfl) ⟨by rw [hc]; rfl, fun w => by omega, fun _ => ⟨h1, _, (h2 o (Or.inr ⟨hbo, hoh⟩)).trans ho⟩, fun x a _ => h2 x a⟩
    · refine ⟨19, hL_map_2, ?_⟩
      refine z_astore dL_map_19 (by decide) ?_
      refine z_iconst (v := 2) dL_map_21 (by decide) ?_
      exact z_iret dL_map_22 rfl (Nat.le_of_ble_eq_true rfl) (Nat.le_of_ble_eq_true rfl) ⟨by rw [hc]; rfl, fun w => by omega, fun _ => ⟨h1, _, (h2 o (Or.inr ⟨hbo, hoh⟩)).trans ho⟩, fun x a _ => h2 x a⟩
    · refine ⟨23, hL_map_3, ?_⟩
      refine z_astore dL_map_23 (by decide) ?_
      refine z_iconst (v := 3) dL_map_25 (by decide) ?_
      exact z_iret dL_map_26 rfl (Nat.le_of_ble_eq_true rfl) (Nat.le_of_ble_eq_true rfl) ⟨by rw [hc]; rfl, fun w => by omega, fun _ => ⟨h1, _, (h2 o (Or.inr ⟨hbo, hoh⟩)).trans ho⟩, fun x a _ => h2 x a⟩
  · obtain ⟨hc, u', w, rfl, hP, h1, h2⟩ := hq1
    refine z_i2l dL_map_10 ?_
    refine z_last dL_map_11 ((h2 o (Or.inr ⟨hbo, hoh⟩)).trans ho) zin01 ?_
    refine z_goto (tgt := 27) dL_map_12 (by decide) ?_
    refine z_iconst (v := 0) dL_map_27 (by decide) ?_
    exact z_iret dL_map_28 rfl (Nat.le_of_ble_eq_true rfl) (Nat.le_of_ble_eq_true rfl) ⟨by rw [hc]; rfl, fun _ => ⟨u', w, hP, h1.fr fun x q => zu_ne (by omega), _, zu_eq _ _ _, zup0⟩, fun w => absurd hc w, fun x a a2 => (zu_ne a2).trans (h2 x a)⟩
set_option maxRecDepth 100000 in
set_option maxHeartbeats 1000000 in
theorem w_filter (hG : zKap G) (hnx : hi ≤ nx) (ok : zOk (nt, lim, mem, wk, slow, r, L, A, tk, sp, cs)) (h : zTG G σ b hi nt lim mem wk slow r L A tk sp cs) (ho : σ o = some (zJ G 1 f0)) (hbo : b + 74 ≤ o) (hoh : o < hi) : zMW G yL_filter kL_filter [.ref b, .int x, .int y, .int z, .ref o] σ nx (fun v σ' nx' => zD1 G σ σ' b hi o Int32.toInt64 (zPn nt lim mem wk slow r L A tk sp cs 2 (upd (upd (upd (zD0 x (-1) ((nt.getD x.toNatClampNeg zdf).2.2.1 3) ((nt.getD x.toNatClampNeg zdf).2.2.1 4)) 9 y) 10 z) 12 (zLW nt b x (-1)))) (zk_filter nt.length x) (nt, lim, mem, wk, slow, r, L, A, tk, sp, cs) v) := by
  refine zMW.of (ls := [some (.ref b), some (.int x), some (.int y), some (.int z), some (.ref o), none]) (by decide +kernel) ⟨rfl, rfl⟩ (Nat.le_of_ble_eq_true rfl) (fun _ h => h) ?_
  refine z_aload dL_filter_0 rfl ?_
  refine z_iconst (v := 0) dL_filter_2 (by decide) ?_
  refine z_aload_n dL_filter_3 rfl ?_
  refine z_iload_n dL_filter_4 rfl ?_
  refine z_iload_n dL_filter_5 rfl ?_
  refine z_iload_n dL_filter_6 rfl ?_
  refine z_callVH dL_filter_7 cv_L_26 (a_filter hG hnx ok h) rfl h.1 rfl rfl ⟨(Nat.le_of_ble_eq_true rfl), (Nat.le_of_ble_eq_true rfl)⟩ (Nat.le_of_ble_eq_true rfl) (Nat.le_of_ble_eq_true rfl) (Nat.le_of_ble_eq_true rfl) (fun E s1 n1 q hx1 hq1 => ?_) (fun v s1 n1 hx1 hq1 => ?_)
  · obtain ⟨h1, h2, hE⟩ := hq1
    simp only [List.mem_cons, List.mem_nil_iff, or_false, Prod.mk.injEq] at hE
    rcases hE with ⟨rfl, hc⟩ | ⟨rfl, hc⟩
    · refine ⟨15, hL_filter_1, ?_⟩
      refine z_astore dL_filter_15 (by decide) ?_
      refine z_iconst (v := 1) dL_filter_17 (by decide) ?_
      exact z_iret dL_filter_18 rfl (Nat.le_of_ble_eq_true rfl) (Nat.le_of_ble_eq_true rfl) ⟨by rw [hc]; rfl, fun w => by omega, fun _ => ⟨h1, _, (h2 o (Or.inr ⟨hbo, hoh⟩)).trans ho⟩, fun x a _ => h2 x a⟩
    · refine ⟨19, hL_filter_2, ?_⟩
      refine z_astore dL_filter_19 (by decide) ?_
      refine z_iconst (v := 2) dL_filter_21 (by decide) ?_
      exact z_iret dL_filter_22 rfl (Nat.le_of_ble_eq_true rfl) (Nat.le_of_ble_eq_true rfl) ⟨by rw [hc]; rfl, fun w => by omega, fun _ => ⟨h1, _, (h2 o (Or.inr ⟨hbo, hoh⟩)).trans ho⟩, fun x a _ => h2 x a⟩
  · obtain ⟨hc, u', w, rfl, hP, h1, h2⟩ := hq1
    refine z_i2l dL_filter_10 ?_
    refine z_last dL_filter_11 ((h2 o (Or.inr ⟨hbo, hoh⟩)).trans ho) zin01 ?_
    refine z_goto (tgt := 23) dL_filter_12 (by decide) ?_
    refine z_iconst (v := 0) dL_filter_23 (by decide) ?_
    exact z_iret dL_filter_24 rfl (Nat.le_of_ble_eq_true rfl) (Nat.le_of_ble_eq_true rfl) ⟨by rw [hc]; rfl, fun _ => ⟨u', w, hP, h1.fr fun x q => zu_ne (by omega), _, zu_eq _ _ _, zup0⟩, fun w => absurd hc w, fun x a a2 => (zu_ne a2).trans (h2 x a)⟩
set_option maxRecDepth 100000 in
set_option maxHeartbeats 1000000 in
theorem w_union (hG : zKap G) (hnx : hi ≤ nx) (ok : zOk (nt, lim, mem, wk, slow, r, L, A, tk, sp, cs)) (h : zTG G σ b hi nt lim mem wk slow r L A tk sp cs) (ho : σ o = some (zJ G 1 f0)) (hbo : b + 74 ≤ o) (hoh : o < hi) : zMW G yL_union kL_union [.ref b, .int x, .int y, .ref o] σ nx (fun v σ' nx' => zD1 G σ σ' b hi o Int32.toInt64 (zPn nt lim mem wk slow r L A tk sp cs 3 (upd (zD0 x y ((nt.getD x.toNatClampNeg zdf).2.2.1 3 + (nt.getD y.toNatClampNeg zdf).2.2.1 3) ((nt.getD x.toNatClampNeg zdf).2.2.1 4 + (nt.getD y.toNatClampNeg zdf).2.2.1 4)) 12 (zLW nt b x y))) (zk_union nt x y) (nt, lim, mem, wk, slow, r, L, A, tk, sp, cs) v) := by
  refine zMW.of (ls := [some (.ref b), some (.int x), some (.int y), some (.ref o), none]) (by decide +kernel) ⟨rfl, rfl⟩ (Nat.le_of_ble_eq_true rfl) (fun _ h => h) ?_
  refine z_aload_n dL_union_0 rfl ?_
  refine z_iconst (v := 0) dL_union_1 (by decide) ?_
  refine z_aload_n dL_union_2 rfl ?_
  refine z_iload_n dL_union_3 rfl ?_
  refine z_iload_n dL_union_4 rfl ?_
  refine z_callVH dL_union_5 cv_L_29 (a_union hG hnx ok h) rfl h.1 rfl rfl ⟨(Nat.le_of_ble_eq_true rfl), (Nat.le_of_ble_eq_true rfl)⟩ (Nat.le_of_ble_eq_true rfl) (Nat.le_of_ble_eq_true rfl) (Nat.le_of_ble_eq_true rfl) (fun E s1 n1 q hx1 hq1 => ?_) (fun v s1 n1 hx1 hq1 => ?_)
  · obtain ⟨h1, h2, hE⟩ := hq1
    simp only [List.mem_cons, List.mem_nil_iff, or_false, Prod.mk.injEq] at hE
    rcases hE with ⟨rfl, hc⟩ | ⟨rfl, hc⟩
    · refine ⟨13, hL_union_1, ?_⟩
      refine z_astore dL_union_13 (by decide) ?_
      refine z_iconst (v := 1) dL_union_15 (by decide) ?_
      exact z_iret dL_union_16 rfl (Nat.le_of_ble_eq_true rfl) (Nat.le_of_ble_eq_true rfl) ⟨by rw [hc]; rfl, fun w => by omega, fun _ => ⟨h1, _, (h2 o (Or.inr ⟨hbo, hoh⟩)).trans ho⟩, fun x a _ => h2 x a⟩
    · refine ⟨17, hL_union_2, ?_⟩
      refine z_astore dL_union_17 (by decide) ?_
      refine z_iconst (v := 2) dL_union_19 (by decide) ?_
      exact z_iret dL_union_20 rfl (Nat.le_of_ble_eq_true rfl) (Nat.le_of_ble_eq_true rfl) ⟨by rw [hc]; rfl, fun w => by omega, fun _ => ⟨h1, _, (h2 o (Or.inr ⟨hbo, hoh⟩)).trans ho⟩, fun x a _ => h2 x a⟩
  · obtain ⟨hc, u', w, rfl, hP, h1, h2⟩ := hq1
    refine z_i2l dL_union_8 ?_
    refine z_last dL_union_9 ((h2 o (Or.inr ⟨hbo, hoh⟩)).trans ho) zin01 ?_
    refine z_goto (tgt := 21) dL_union_10 (by decide) ?_
    refine z_iconst (v := 0) dL_union_21 (by decide) ?_
    exact z_iret dL_union_22 rfl (Nat.le_of_ble_eq_true rfl) (Nat.le_of_ble_eq_true rfl) ⟨by rw [hc]; rfl, fun _ => ⟨u', w, hP, h1.fr fun x q => zu_ne (by omega), _, zu_eq _ _ _, zup0⟩, fun w => absurd hc w, fun x a a2 => (zu_ne a2).trans (h2 x a)⟩
set_option maxRecDepth 100000 in
set_option maxHeartbeats 1000000 in
theorem w_group (hG : zKap G) (hnx : hi ≤ nx) (ok : zOk (nt, lim, mem, wk, slow, r, L, A, tk, sp, cs)) (h : zTG G σ b hi nt lim mem wk slow r L A tk sp cs) (ho : σ o = some (zJ G 1 f0)) (hbo : b + 74 ≤ o) (hoh : o < hi) : zMW G yL_group kL_group [.ref b, .int x, .int y, .int z, .ref o] σ nx (fun v σ' nx' => zD1 G σ σ' b hi o Int32.toInt64 (zPn nt lim mem wk slow r L A tk sp cs 4 (upd (upd (upd (zD0 x (-1) ((nt.getD x.toNatClampNeg zdf).2.2.1 3) z) 7 y) 6 z) 12 (zLW nt b x (-1)))) (zk_group nt.length x y z) (nt, lim, mem, wk, slow, r, L, A, tk, sp, cs) v) := by
  refine zMW.of (ls := [some (.ref b), some (.int x), some (.int y), some (.int z), some (.ref o), none]) (by decide +kernel) ⟨rfl, rfl⟩ (Nat.le_of_ble_eq_true rfl) (fun _ h => h) ?_
  refine z_aload dL_group_0 rfl ?_
  refine z_iconst (v := 0) dL_group_2 (by decide) ?_
  refine z_aload_n dL_group_3 rfl ?_
  refine z_iload_n dL_group_4 rfl ?_
  refine z_iload_n dL_group_5 rfl ?_
  refine z_iload_n dL_group_6 rfl ?_
  refine z_callVH dL_group_7 cv_L_33 (a_group hG hnx ok h) rfl h.1 rfl rfl ⟨(Nat.le_of_ble_eq_true rfl), (Nat.le_of_ble_eq_true rfl)⟩ (Nat.le_of_ble_eq_true rfl) (Nat.le_of_ble_eq_true rfl) (Nat.le_of_ble_eq_true rfl) (fun E s1 n1 q hx1 hq1 => ?_) (fun v s1 n1 hx1 hq1 => ?_)
  · obtain ⟨h1, h2, hE⟩ := hq1
    simp only [List.mem_cons, List.mem_nil_iff, or_false, Prod.mk.injEq] at hE
    rcases hE with ⟨rfl, hc⟩ | ⟨rfl, hc⟩ | ⟨rfl, hc⟩
    · refine ⟨15, hL_group_1, ?_⟩
      refine z_astore dL_group_15 (by decide) ?_
      refine z_iconst (v := 1) dL_group_17 (by decide) ?_
      exact z_iret dL_group_18 rfl (Nat.le_of_ble_eq_true rfl) (Nat.le_of_ble_eq_true rfl) ⟨by rw [hc]; rfl, fun w => by omega, fun _ => ⟨h1, _, (h2 o (Or.inr ⟨hbo, hoh⟩)).trans ho⟩, fun x a _ => h2 x a⟩
    · refine ⟨19, hL_group_2, ?_⟩
      refine z_astore dL_group_19 (by decide) ?_
      refine z_iconst (v := 2) dL_group_21 (by decide) ?_
      exact z_iret dL_group_22 rfl (Nat.le_of_ble_eq_true rfl) (Nat.le_of_ble_eq_true rfl) ⟨by rw [hc]; rfl, fun w => by omega, fun _ => ⟨h1, _, (h2 o (Or.inr ⟨hbo, hoh⟩)).trans ho⟩, fun x a _ => h2 x a⟩
    · refine ⟨23, hL_group_3, ?_⟩
      refine z_astore dL_group_23 (by decide) ?_
      refine z_iconst (v := 3) dL_group_25 (by decide) ?_
      exact z_iret dL_group_26 rfl (Nat.le_of_ble_eq_true rfl) (Nat.le_of_ble_eq_true rfl) ⟨by rw [hc]; rfl, fun w => by omega, fun _ => ⟨h1, _, (h2 o (Or.inr ⟨hbo, hoh⟩)).trans ho⟩, fun x a _ => h2 x a⟩
  · obtain ⟨hc, u', w, rfl, hP, h1, h2⟩ := hq1
    refine z_i2l dL_group_10 ?_
    refine z_last dL_group_11 ((h2 o (Or.inr ⟨hbo, hoh⟩)).trans ho) zin01 ?_
    refine z_goto (tgt := 27) dL_group_12 (by decide) ?_
    refine z_iconst (v := 0) dL_group_27 (by decide) ?_
    exact z_iret dL_group_28 rfl (Nat.le_of_ble_eq_true rfl) (Nat.le_of_ble_eq_true rfl) ⟨by rw [hc]; rfl, fun _ => ⟨u', w, hP, h1.fr fun x q => zu_ne (by omega), _, zu_eq _ _ _, zup0⟩, fun w => absurd hc w, fun x a a2 => (zu_ne a2).trans (h2 x a)⟩
set_option maxRecDepth 100000 in
set_option maxHeartbeats 1000000 in
theorem w_join (hG : zKap G) (hnx : hi ≤ nx) (ok : zOk (nt, lim, mem, wk, slow, r, L, A, tk, sp, cs)) (h : zTG G σ b hi nt lim mem wk slow r L A tk sp cs) (ho : σ o = some (zJ G 1 f0)) (hbo : b + 74 ≤ o) (hoh : o < hi) : zMW G yL_join kL_join [.ref b, .int x, .int y, .int z, .ref o] σ nx (fun v σ' nx' => zD1 G σ σ' b hi o Int32.toInt64 (zPn nt lim mem wk slow r L A tk sp cs 5 (upd (upd (zD0 x y ((nt.getD x.toNatClampNeg zdf).2.2.1 3 * (nt.getD y.toNatClampNeg zdf).2.2.1 3) (if z < (nt.getD x.toNatClampNeg zdf).2.2.1 4 then (nt.getD x.toNatClampNeg zdf).2.2.1 4 else z)) 6 z) 12 (zLW nt b x y))) (zk_join nt x y z) (nt, lim, mem, wk, slow, r, L, A, tk, sp, cs) v) := by
  refine zMW.of (ls := [some (.ref b), some (.int x), some (.int y), some (.int z), some (.ref o), none]) (by decide +kernel) ⟨rfl, rfl⟩ (Nat.le_of_ble_eq_true rfl) (fun _ h => h) ?_
  refine z_aload dL_join_0 rfl ?_
  refine z_iconst (v := 0) dL_join_2 (by decide) ?_
  refine z_aload_n dL_join_3 rfl ?_
  refine z_iload_n dL_join_4 rfl ?_
  refine z_iload_n dL_join_5 rfl ?_
  refine z_iload_n dL_join_6 rfl ?_
  refine z_callVH dL_join_7 cv_L_36 (a_join hG hnx ok h) rfl h.1 rfl rfl ⟨(Nat.le_of_ble_eq_true rfl), (Nat.le_of_ble_eq_true rfl)⟩ (Nat.le_of_ble_eq_true rfl) (Nat.le_of_ble_eq_true rfl) (Nat.le_of_ble_eq_true rfl) (fun E s1 n1 q hx1 hq1 => ?_) (fun v s1 n1 hx1 hq1 => ?_)
  · obtain ⟨h1, h2, hE⟩ := hq1
    simp only [List.mem_cons, List.mem_nil_iff, or_false, Prod.mk.injEq] at hE
    rcases hE with ⟨rfl, hc⟩ | ⟨rfl, hc⟩ | ⟨rfl, hc⟩
    · refine ⟨15, hL_join_1, ?_⟩
      refine z_astore dL_join_15 (by decide) ?_
      refine z_iconst (v := 1) dL_join_17 (by decide) ?_
      exact z_iret dL_join_18 rfl (Nat.le_of_ble_eq_true rfl) (Nat.le_of_ble_eq_true rfl) ⟨by rw [hc]; rfl, fun w => by omega, fun _ => ⟨h1, _, (h2 o (Or.inr ⟨hbo, hoh⟩)).trans ho⟩, fun x a _ => h2 x a⟩
    · refine ⟨19, hL_join_2, ?_⟩
      refine z_astore dL_join_19 (by decide) ?_
      refine z_iconst (v := 2) dL_join_21 (by decide) ?_
      exact z_iret dL_join_22 rfl (Nat.le_of_ble_eq_true rfl) (Nat.le_of_ble_eq_true rfl) ⟨by rw [hc]; rfl, fun w => by omega, fun _ => ⟨h1, _, (h2 o (Or.inr ⟨hbo, hoh⟩)).trans ho⟩, fun x a _ => h2 x a⟩
    · refine ⟨23, hL_join_3, ?_⟩
      refine z_astore dL_join_23 (by decide) ?_
      refine z_iconst (v := 3) dL_join_25 (by decide) ?_
      exact z_iret dL_join_26 rfl (Nat.le_of_ble_eq_true rfl) (Nat.le_of_ble_eq_true rfl) ⟨by rw [hc]; rfl, fun w => by omega, fun _ => ⟨h1, _, (h2 o (Or.inr ⟨hbo, hoh⟩)).trans ho⟩, fun x a _ => h2 x a⟩
  · obtain ⟨hc, u', w, rfl, hP, h1, h2⟩ := hq1
    refine z_i2l dL_join_10 ?_
    refine z_last dL_join_11 ((h2 o (Or.inr ⟨hbo, hoh⟩)).trans ho) zin01 ?_
    refine z_goto (tgt := 27) dL_join_12 (by decide) ?_
    refine z_iconst (v := 0) dL_join_27 (by decide) ?_
    exact z_iret dL_join_28 rfl (Nat.le_of_ble_eq_true rfl) (Nat.le_of_ble_eq_true rfl) ⟨by rw [hc]; rfl, fun _ => ⟨u', w, hP, h1.fr fun x q => zu_ne (by omega), _, zu_eq _ _ _, zup0⟩, fun w => absurd hc w, fun x a a2 => (zu_ne a2).trans (h2 x a)⟩
set_option maxRecDepth 100000 in
set_option maxHeartbeats 1000000 in
theorem w_partitions (hG : zKap G) (hnx : hi ≤ nx) (ok : zOk (nt, lim, mem, wk, slow, r, L, A, tk, sp, cs)) (h : zTG G σ b hi nt lim mem wk slow r L A tk sp cs) (ho : σ o = some (zJ G 1 f0)) (hbo : b + 74 ≤ o) (hoh : o < hi) : zMW G yL_partitions kL_partitions [.ref b, .int x, .ref o] σ nx (fun v σ' nx' => zD1 G σ σ' b hi o Int32.toInt64 (zPq (nt, lim, mem, wk, slow, r, L, A, tk, sp, cs) (nI (zct lim nt x.toNatClampNeg).length)) (zk_node nt.length x) (nt, lim, mem, wk, slow, r, L, A, tk, sp, cs) v) := by
  refine zMW.of (ls := [some (.ref b), some (.int x), some (.ref o), none]) (by decide +kernel) ⟨rfl, rfl⟩ (Nat.le_of_ble_eq_true rfl) (fun _ h => h) ?_
  refine z_aload_n dL_partitions_0 rfl ?_
  refine z_iconst (v := 0) dL_partitions_1 (by decide) ?_
  refine z_aload_n dL_partitions_2 rfl ?_
  refine z_iload_n dL_partitions_3 rfl ?_
  refine z_callVH dL_partitions_4 cv_L_39 (a_partitions hG hnx ok h) rfl h.1 rfl rfl ⟨(Nat.le_of_ble_eq_true rfl), (Nat.le_of_ble_eq_true rfl)⟩ (Nat.le_of_ble_eq_true rfl) (Nat.le_of_ble_eq_true rfl) (Nat.le_of_ble_eq_true rfl) (fun E s1 n1 q hx1 hq1 => ?_) (fun v s1 n1 hx1 hq1 => ?_)
  · obtain ⟨h1, h2, hE⟩ := hq1
    simp only [List.mem_cons, List.mem_nil_iff, or_false, Prod.mk.injEq] at hE
    rcases hE with ⟨rfl, hc⟩
    · refine ⟨12, hL_partitions_1, ?_⟩
      refine z_astore_n dL_partitions_12 (by decide) ?_
      refine z_iconst (v := 1) dL_partitions_13 (by decide) ?_
      exact z_iret dL_partitions_14 rfl (Nat.le_of_ble_eq_true rfl) (Nat.le_of_ble_eq_true rfl) ⟨by rw [hc]; rfl, fun w => by omega, fun _ => ⟨h1, _, (h2 o (Or.inr ⟨hbo, hoh⟩)).trans ho⟩, fun x a _ => h2 x a⟩
  · obtain ⟨hc, u', w, rfl, hP, h1, h2⟩ := hq1
    refine z_i2l dL_partitions_7 ?_
    refine z_last dL_partitions_8 ((h2 o (Or.inr ⟨hbo, hoh⟩)).trans ho) zin01 ?_
    refine z_goto (tgt := 15) dL_partitions_9 (by decide) ?_
    refine z_iconst (v := 0) dL_partitions_15 (by decide) ?_
    exact z_iret dL_partitions_16 rfl (Nat.le_of_ble_eq_true rfl) (Nat.le_of_ble_eq_true rfl) ⟨by rw [hc]; rfl, fun _ => ⟨u', w, hP, h1.fr fun x q => zu_ne (by omega), _, zu_eq _ _ _, zup0⟩, fun w => absurd hc w, fun x a a2 => (zu_ne a2).trans (h2 x a)⟩
end
