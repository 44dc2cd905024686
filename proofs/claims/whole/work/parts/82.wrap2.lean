/-! the law: its methods that catch, 2 -/
section
variable {G : zG} {σ : zH} {b hi nx o : Nat} {f0 : Nat → Int64} {nt : zNT} {lim mem wk r tk sp cs : Nat} {slow : Nat → Nat} {L : zNS} {A : List zAE} {x y z : Int32}
set_option maxRecDepth 100000 in
set_option maxHeartbeats 1000000 in
theorem w_rowsIn (hG : zKap G) (hnx : hi ≤ nx) (ok : zOk (nt, lim, mem, wk, slow, r, L, A, tk, sp, cs)) (h : zTG G σ b hi nt lim mem wk slow r L A tk sp cs) (ho : σ o = some (zJ G 1 f0)) (hbo : b + 74 ≤ o) (hoh : o < hi) : zMW G yL_rowsIn kL_rowsIn [.ref b, .int x, .int y, .ref o] σ nx (fun v σ' nx' => zD1 G σ σ' b hi o Int32.toInt64 (zPq (nt, lim, mem, wk, slow, r, L, A, tk, sp, cs) (nI (zsz (zct lim nt x.toNatClampNeg) y.toNatClampNeg))) (zk_part lim nt x y) (nt, lim, mem, wk, slow, r, L, A, tk, sp, cs) v) := by
  refine zMW.of (ls := [some (.ref b), some (.int x), some (.int y), some (.ref o), none]) (by decide +kernel) ⟨rfl, rfl⟩ (Nat.le_of_ble_eq_true rfl) (fun _ h => h) ?_
  refine z_aload_n dL_rowsIn_0 rfl ?_
  refine z_iconst (v := 0) dL_rowsIn_1 (by decide) ?_
  refine z_aload_n dL_rowsIn_2 rfl ?_
  refine z_iload_n dL_rowsIn_3 rfl ?_
  refine z_iload_n dL_rowsIn_4 rfl ?_
  refine z_callVH dL_rowsIn_5 cv_L_42 (a_rowsIn hG hnx ok h) rfl h.1 rfl rfl ⟨(Nat.le_of_ble_eq_true rfl), (Nat.le_of_ble_eq_true rfl)⟩ (Nat.le_of_ble_eq_true rfl) (Nat.le_of_ble_eq_true rfl) (Nat.le_of_ble_eq_true rfl) (fun E s1 n1 q hx1 hq1 => ?_) (fun v s1 n1 hx1 hq1 => ?_)
  · obtain ⟨h1, h2, hE⟩ := hq1
    simp only [List.mem_cons, List.mem_nil_iff, or_false, Prod.mk.injEq] at hE
    rcases hE with ⟨rfl, hc⟩
    · refine ⟨13, hL_rowsIn_1, ?_⟩
      refine z_astore dL_rowsIn_13 (by decide) ?_
      refine z_iconst (v := 1) dL_rowsIn_15 (by decide) ?_
      exact z_iret dL_rowsIn_16 rfl (Nat.le_of_ble_eq_true rfl) (Nat.le_of_ble_eq_true rfl) ⟨by rw [hc]; rfl, fun w => by omega, fun _ => ⟨h1, _, (h2 o (Or.inr ⟨hbo, hoh⟩)).trans ho⟩, fun x a _ => h2 x a⟩
  · obtain ⟨hc, u', w, rfl, hP, h1, h2⟩ := hq1
    refine z_i2l dL_rowsIn_8 ?_
    refine z_last dL_rowsIn_9 ((h2 o (Or.inr ⟨hbo, hoh⟩)).trans ho) zin01 ?_
    refine z_goto (tgt := 17) dL_rowsIn_10 (by decide) ?_
    refine z_iconst (v := 0) dL_rowsIn_17 (by decide) ?_
    exact z_iret dL_rowsIn_18 rfl (Nat.le_of_ble_eq_true rfl) (Nat.le_of_ble_eq_true rfl) ⟨by rw [hc]; rfl, fun _ => ⟨u', w, hP, h1.fr fun x q => zu_ne (by omega), _, zu_eq _ _ _, zup0⟩, fun w => absurd hc w, fun x a a2 => (zu_ne a2).trans (h2 x a)⟩
set_option maxRecDepth 100000 in
set_option maxHeartbeats 1000000 in
theorem w_rows (hG : zKap G) (hnx : hi ≤ nx) (ok : zOk (nt, lim, mem, wk, slow, r, L, A, tk, sp, cs)) (h : zTG G σ b hi nt lim mem wk slow r L A tk sp cs) (ho : σ o = some (zJ G 1 f0)) (hbo : b + 74 ≤ o) (hoh : o < hi) : zMW G yL_rows kL_rows [.ref b, .int x, .ref o] σ nx (fun v σ' nx' => zD1 G σ σ' b hi o Int32.toInt64 (zPq (nt, lim, mem, wk, slow, r, L, A, tk, sp, cs) (nI (zct lim nt x.toNatClampNeg).flatten.length)) (zk_node nt.length x) (nt, lim, mem, wk, slow, r, L, A, tk, sp, cs) v) := by
  refine zMW.of (ls := [some (.ref b), some (.int x), some (.ref o), none]) (by decide +kernel) ⟨rfl, rfl⟩ (Nat.le_of_ble_eq_true rfl) (fun _ h => h) ?_
  refine z_aload_n dL_rows_0 rfl ?_
  refine z_iconst (v := 0) dL_rows_1 (by decide) ?_
  refine z_aload_n dL_rows_2 rfl ?_
  refine z_iload_n dL_rows_3 rfl ?_
  refine z_callVH dL_rows_4 cv_L_45 (a_rows hG hnx ok h) rfl h.1 rfl rfl ⟨(Nat.le_of_ble_eq_true rfl), (Nat.le_of_ble_eq_true rfl)⟩ (Nat.le_of_ble_eq_true rfl) (Nat.le_of_ble_eq_true rfl) (Nat.le_of_ble_eq_true rfl) (fun E s1 n1 q hx1 hq1 => ?_) (fun v s1 n1 hx1 hq1 => ?_)
  · obtain ⟨h1, h2, hE⟩ := hq1
    simp only [List.mem_cons, List.mem_nil_iff, or_false, Prod.mk.injEq] at hE
    rcases hE with ⟨rfl, hc⟩
    · refine ⟨12, hL_rows_1, ?_⟩
      refine z_astore_n dL_rows_12 (by decide) ?_
      refine z_iconst (v := 1) dL_rows_13 (by decide) ?_
      exact z_iret dL_rows_14 rfl (Nat.le_of_ble_eq_true rfl) (Nat.le_of_ble_eq_true rfl) ⟨by rw [hc]; rfl, fun w => by omega, fun _ => ⟨h1, _, (h2 o (Or.inr ⟨hbo, hoh⟩)).trans ho⟩, fun x a _ => h2 x a⟩
  · obtain ⟨hc, u', w, rfl, hP, h1, h2⟩ := hq1
    refine z_i2l dL_rows_7 ?_
    refine z_last dL_rows_8 ((h2 o (Or.inr ⟨hbo, hoh⟩)).trans ho) zin01 ?_
    refine z_goto (tgt := 15) dL_rows_9 (by decide) ?_
    refine z_iconst (v := 0) dL_rows_15 (by decide) ?_
    exact z_iret dL_rows_16 rfl (Nat.le_of_ble_eq_true rfl) (Nat.le_of_ble_eq_true rfl) ⟨by rw [hc]; rfl, fun _ => ⟨u', w, hP, h1.fr fun x q => zu_ne (by omega), _, zu_eq _ _ _, zup0⟩, fun w => absurd hc w, fun x a a2 => (zu_ne a2).trans (h2 x a)⟩
set_option maxRecDepth 100000 in
set_option maxHeartbeats 1000000 in
theorem w_keyAt (hG : zKap G) (hnx : hi ≤ nx) (ok : zOk (nt, lim, mem, wk, slow, r, L, A, tk, sp, cs)) (h : zTG G σ b hi nt lim mem wk slow r L A tk sp cs) (ho : σ o = some (zJ G 1 f0)) (hbo : b + 74 ≤ o) (hoh : o < hi) : zMW G yL_keyAt kL_keyAt [.ref b, .int x, .int y, .int z, .ref o] σ nx (fun v σ' nx' => zD1 G σ σ' b hi o Int32.toInt64 (zPq (nt, lim, mem, wk, slow, r, L, A, tk, sp, cs) ((zrw (zct lim nt x.toNatClampNeg) y.toNatClampNeg z.toNatClampNeg).1)) (zk_place lim nt x y z) (nt, lim, mem, wk, slow, r, L, A, tk, sp, cs) v) := by
  refine zMW.of (ls := [some (.ref b), some (.int x), some (.int y), some (.int z), some (.ref o), none]) (by decide +kernel) ⟨rfl, rfl⟩ (Nat.le_of_ble_eq_true rfl) (fun _ h => h) ?_
  refine z_aload dL_keyAt_0 rfl ?_
  refine z_iconst (v := 0) dL_keyAt_2 (by decide) ?_
  refine z_aload_n dL_keyAt_3 rfl ?_
  refine z_iload_n dL_keyAt_4 rfl ?_
  refine z_iload_n dL_keyAt_5 rfl ?_
  refine z_iload_n dL_keyAt_6 rfl ?_
  refine z_callVH dL_keyAt_7 cv_L_48 (a_keyAt hG hnx ok h) rfl h.1 rfl rfl ⟨(Nat.le_of_ble_eq_true rfl), (Nat.le_of_ble_eq_true rfl)⟩ (Nat.le_of_ble_eq_true rfl) (Nat.le_of_ble_eq_true rfl) (Nat.le_of_ble_eq_true rfl) (fun E s1 n1 q hx1 hq1 => ?_) (fun v s1 n1 hx1 hq1 => ?_)
  · obtain ⟨h1, h2, hE⟩ := hq1
    simp only [List.mem_cons, List.mem_nil_iff, or_false, Prod.mk.injEq] at hE
    rcases hE with ⟨rfl, hc⟩
    · refine ⟨15, hL_keyAt_1, ?_⟩
      refine z_astore dL_keyAt_15 (by decide) ?_
      refine z_iconst (v := 1) dL_keyAt_17 (by decide) ?_
      exact z_iret dL_keyAt_18 rfl (Nat.le_of_ble_eq_true rfl) (Nat.le_of_ble_eq_true rfl) ⟨by rw [hc]; rfl, fun w => by omega, fun _ => ⟨h1, _, (h2 o (Or.inr ⟨hbo, hoh⟩)).trans ho⟩, fun x a _ => h2 x a⟩
  · obtain ⟨hc, u', w, rfl, hP, h1, h2⟩ := hq1
    refine z_i2l dL_keyAt_10 ?_
    refine z_last dL_keyAt_11 ((h2 o (Or.inr ⟨hbo, hoh⟩)).trans ho) zin01 ?_
    refine z_goto (tgt := 19) dL_keyAt_12 (by decide) ?_
    refine z_iconst (v := 0) dL_keyAt_19 (by decide) ?_
    exact z_iret dL_keyAt_20 rfl (Nat.le_of_ble_eq_true rfl) (Nat.le_of_ble_eq_true rfl) ⟨by rw [hc]; rfl, fun _ => ⟨u', w, hP, h1.fr fun x q => zu_ne (by omega), _, zu_eq _ _ _, zup0⟩, fun w => absurd hc w, fun x a a2 => (zu_ne a2).trans (h2 x a)⟩
set_option maxRecDepth 100000 in
set_option maxHeartbeats 1000000 in
theorem w_valueAt (hG : zKap G) (hnx : hi ≤ nx) (ok : zOk (nt, lim, mem, wk, slow, r, L, A, tk, sp, cs)) (h : zTG G σ b hi nt lim mem wk slow r L A tk sp cs) (ho : σ o = some (zJ G 1 f0)) (hbo : b + 74 ≤ o) (hoh : o < hi) : zMW G yL_valueAt kL_valueAt [.ref b, .int x, .int y, .int z, .ref o] σ nx (fun v σ' nx' => zD1 G σ σ' b hi o Int32.toInt64 (zPq (nt, lim, mem, wk, slow, r, L, A, tk, sp, cs) ((zrw (zct lim nt x.toNatClampNeg) y.toNatClampNeg z.toNatClampNeg).2)) (zk_place lim nt x y z) (nt, lim, mem, wk, slow, r, L, A, tk, sp, cs) v) := by
  refine zMW.of (ls := [some (.ref b), some (.int x), some (.int y), some (.int z), some (.ref o), none]) (by decide +kernel) ⟨rfl, rfl⟩ (Nat.le_of_ble_eq_true rfl) (fun _ h => h) ?_
  refine z_aload dL_valueAt_0 rfl ?_
  refine z_iconst (v := 0) dL_valueAt_2 (by decide) ?_
  refine z_aload_n dL_valueAt_3 rfl ?_
  refine z_iload_n dL_valueAt_4 rfl ?_
  refine z_iload_n dL_valueAt_5 rfl ?_
  refine z_iload_n dL_valueAt_6 rfl ?_
  refine z_callVH dL_valueAt_7 cv_L_51 (a_valueAt hG hnx ok h) rfl h.1 rfl rfl ⟨(Nat.le_of_ble_eq_true rfl), (Nat.le_of_ble_eq_true rfl)⟩ (Nat.le_of_ble_eq_true rfl) (Nat.le_of_ble_eq_true rfl) (Nat.le_of_ble_eq_true rfl) (fun E s1 n1 q hx1 hq1 => ?_) (fun v s1 n1 hx1 hq1 => ?_)
  · obtain ⟨h1, h2, hE⟩ := hq1
    simp only [List.mem_cons, List.mem_nil_iff, or_false, Prod.mk.injEq] at hE
    rcases hE with ⟨rfl, hc⟩
    · refine ⟨15, hL_valueAt_1, ?_⟩
      refine z_astore dL_valueAt_15 (by decide) ?_
      refine z_iconst (v := 1) dL_valueAt_17 (by decide) ?_
      exact z_iret dL_valueAt_18 rfl (Nat.le_of_ble_eq_true rfl) (Nat.le_of_ble_eq_true rfl) ⟨by rw [hc]; rfl, fun w => by omega, fun _ => ⟨h1, _, (h2 o (Or.inr ⟨hbo, hoh⟩)).trans ho⟩, fun x a _ => h2 x a⟩
  · obtain ⟨hc, u', w, rfl, hP, h1, h2⟩ := hq1
    refine z_i2l dL_valueAt_10 ?_
    refine z_last dL_valueAt_11 ((h2 o (Or.inr ⟨hbo, hoh⟩)).trans ho) zin01 ?_
    refine z_goto (tgt := 19) dL_valueAt_12 (by decide) ?_
    refine z_iconst (v := 0) dL_valueAt_19 (by decide) ?_
    exact z_iret dL_valueAt_20 rfl (Nat.le_of_ble_eq_true rfl) (Nat.le_of_ble_eq_true rfl) ⟨by rw [hc]; rfl, fun _ => ⟨u', w, hP, h1.fr fun x q => zu_ne (by omega), _, zu_eq _ _ _, zup0⟩, fun w => absurd hc w, fun x a a2 => (zu_ne a2).trans (h2 x a)⟩
set_option maxRecDepth 100000 in
set_option maxHeartbeats 1000000 in
theorem w_isBroad (hG : zKap G) (hnx : hi ≤ nx) (ok : zOk (nt, lim, mem, wk, slow, r, L, A, tk, sp, cs)) (h : zTG G σ b hi nt lim mem wk slow r L A tk sp cs) (ho : σ o = some (zJ G 1 f0)) (hbo : b + 74 ≤ o) (hoh : o < hi) : zMW G yL_isBroad kL_isBroad [.ref b, .int x, .ref o] σ nx (fun v σ' nx' => zD1 G σ σ' b hi o zbl (zPq (nt, lim, mem, wk, slow, r, L, A, tk, sp, cs) (if zbr lim nt x.toNatClampNeg = true then 1 else 0)) (zk_join5 nt x) (nt, lim, mem, wk, slow, r, L, A, tk, sp, cs) v) := by
  refine zMW.of (ls := [some (.ref b), some (.int x), some (.ref o), none]) (by decide +kernel) ⟨rfl, rfl⟩ (Nat.le_of_ble_eq_true rfl) (fun _ h => h) ?_
  refine z_aload_n dL_isBroad_0 rfl ?_
  refine z_iconst (v := 0) dL_isBroad_1 (by decide) ?_
  refine z_aload_n dL_isBroad_2 rfl ?_
  refine z_iload_n dL_isBroad_3 rfl ?_
  refine z_callVH dL_isBroad_4 cv_L_54 (a_isBroad hG hnx ok h) rfl h.1 rfl rfl ⟨(Nat.le_of_ble_eq_true rfl), (Nat.le_of_ble_eq_true rfl)⟩ (Nat.le_of_ble_eq_true rfl) (Nat.le_of_ble_eq_true rfl) (Nat.le_of_ble_eq_true rfl) (fun E s1 n1 q hx1 hq1 => ?_) (fun v s1 n1 hx1 hq1 => ?_)
  · obtain ⟨h1, h2, hE⟩ := hq1
    simp only [List.mem_cons, List.mem_nil_iff, or_false, Prod.mk.injEq] at hE
    rcases hE with ⟨rfl, hc⟩ | ⟨rfl, hc⟩
    · refine ⟨19, hL_isBroad_1, ?_⟩
      refine z_astore_n dL_isBroad_19 (by decide) ?_
      refine z_iconst (v := 1) dL_isBroad_20 (by decide) ?_
      exact z_iret dL_isBroad_21 rfl (Nat.le_of_ble_eq_true rfl) (Nat.le_of_ble_eq_true rfl) ⟨by rw [hc]; rfl, fun w => by omega, fun _ => ⟨h1, _, (h2 o (Or.inr ⟨hbo, hoh⟩)).trans ho⟩, fun x a _ => h2 x a⟩
    · refine ⟨22, hL_isBroad_2, ?_⟩
      refine z_astore_n dL_isBroad_22 (by decide) ?_
      refine z_iconst (v := 2) dL_isBroad_23 (by decide) ?_
      exact z_iret dL_isBroad_24 rfl (Nat.le_of_ble_eq_true rfl) (Nat.le_of_ble_eq_true rfl) ⟨by rw [hc]; rfl, fun w => by omega, fun _ => ⟨h1, _, (h2 o (Or.inr ⟨hbo, hoh⟩)).trans ho⟩, fun x a _ => h2 x a⟩
  · obtain ⟨hc, u', w, rfl, hP, h1, h2⟩ := hq1
    by_cases hw : w = 0
    · refine z_if_eq (tgt := 14) dL_isBroad_7 (by decide) (fun _ => ?_) (fun q => absurd (hw) q)
      refine z_lconst (v := 0) dL_isBroad_14 (by decide) ?_
      refine z_last dL_isBroad_15 ((h2 o (Or.inr ⟨hbo, hoh⟩)).trans ho) zin01 ?_
      refine z_goto (tgt := 25) dL_isBroad_16 (by decide) ?_
      refine z_iconst (v := 0) dL_isBroad_25 (by decide) ?_
      exact z_iret dL_isBroad_26 rfl (Nat.le_of_ble_eq_true rfl) (Nat.le_of_ble_eq_true rfl) ⟨by rw [hc]; rfl, fun _ => ⟨u', w, hP, h1.fr fun x q => zu_ne (by omega), _, zu_eq _ _ _, (by rw [zbl, if_pos hw]; exact zup0)⟩, fun w => absurd hc w, fun x a a2 => (zu_ne a2).trans (h2 x a)⟩
    · refine z_if_eq (tgt := 14) dL_isBroad_7 (by decide) (fun q => absurd q (hw)) (fun _ => ?_)
      refine z_lconst (v := 1) dL_isBroad_10 (by decide) ?_
      refine z_goto (tgt := 15) dL_isBroad_11 (by decide) ?_
      refine z_last dL_isBroad_15 ((h2 o (Or.inr ⟨hbo, hoh⟩)).trans ho) zin01 ?_
      refine z_goto (tgt := 25) dL_isBroad_16 (by decide) ?_
      refine z_iconst (v := 0) dL_isBroad_25 (by decide) ?_
      exact z_iret dL_isBroad_26 rfl (Nat.le_of_ble_eq_true rfl) (Nat.le_of_ble_eq_true rfl) ⟨by rw [hc]; rfl, fun _ => ⟨u', w, hP, h1.fr fun x q => zu_ne (by omega), _, zu_eq _ _ _, (by rw [zbl, if_neg hw]; exact zup0)⟩, fun w => absurd hc w, fun x a a2 => (zu_ne a2).trans (h2 x a)⟩
set_option maxRecDepth 100000 in
set_option maxHeartbeats 1000000 in
theorem w_digest (hG : zKap G) (hnx : hi ≤ nx) (ok : zOk (nt, lim, mem, wk, slow, r, L, A, tk, sp, cs)) (h : zTG G σ b hi nt lim mem wk slow r L A tk sp cs) (ho : σ o = some (zJ G 1 f0)) (hbo : b + 74 ≤ o) (hoh : o < hi) : zMW G yL_digest kL_digest [.ref b, .int x, .ref o] σ nx (fun v σ' nx' => zD1 G σ σ' b hi o Int32.toInt64 (zPq (nt, lim, mem, wk, slow, r, L, A, tk, sp, cs) (zsq (zct lim nt x.toNatClampNeg).flatten)) (zk_node nt.length x) (nt, lim, mem, wk, slow, r, L, A, tk, sp, cs) v) := by
  refine zMW.of (ls := [some (.ref b), some (.int x), some (.ref o), none]) (by decide +kernel) ⟨rfl, rfl⟩ (Nat.le_of_ble_eq_true rfl) (fun _ h => h) ?_
  refine z_aload_n dL_digest_0 rfl ?_
  refine z_iconst (v := 0) dL_digest_1 (by decide) ?_
  refine z_aload_n dL_digest_2 rfl ?_
  refine z_iload_n dL_digest_3 rfl ?_
  refine z_callVH dL_digest_4 cv_L_58 (a_digest hG hnx ok h) rfl h.1 rfl rfl ⟨(Nat.le_of_ble_eq_true rfl), (Nat.le_of_ble_eq_true rfl)⟩ (Nat.le_of_ble_eq_true rfl) (Nat.le_of_ble_eq_true rfl) (Nat.le_of_ble_eq_true rfl) (fun E s1 n1 q hx1 hq1 => ?_) (fun v s1 n1 hx1 hq1 => ?_)
  · obtain ⟨h1, h2, hE⟩ := hq1
    simp only [List.mem_cons, List.mem_nil_iff, or_false, Prod.mk.injEq] at hE
    rcases hE with ⟨rfl, hc⟩
    · refine ⟨12, hL_digest_1, ?_⟩
      refine z_astore_n dL_digest_12 (by decide) ?_
      refine z_iconst (v := 1) dL_digest_13 (by decide) ?_
      exact z_iret dL_digest_14 rfl (Nat.le_of_ble_eq_true rfl) (Nat.le_of_ble_eq_true rfl) ⟨by rw [hc]; rfl, fun w => by omega, fun _ => ⟨h1, _, (h2 o (Or.inr ⟨hbo, hoh⟩)).trans ho⟩, fun x a _ => h2 x a⟩
  · obtain ⟨hc, u', w, rfl, hP, h1, h2⟩ := hq1
    refine z_i2l dL_digest_7 ?_
    refine z_last dL_digest_8 ((h2 o (Or.inr ⟨hbo, hoh⟩)).trans ho) zin01 ?_
    refine z_goto (tgt := 15) dL_digest_9 (by decide) ?_
    refine z_iconst (v := 0) dL_digest_15 (by decide) ?_
    exact z_iret dL_digest_16 rfl (Nat.le_of_ble_eq_true rfl) (Nat.le_of_ble_eq_true rfl) ⟨by rw [hc]; rfl, fun _ => ⟨u', w, hP, h1.fr fun x q => zu_ne (by omega), _, zu_eq _ _ _, zup0⟩, fun w => absurd hc w, fun x a a2 => (zu_ne a2).trans (h2 x a)⟩
set_option maxRecDepth 100000 in
set_option maxHeartbeats 1000000 in
theorem w_digestInPlace (hG : zKap G) (hnx : hi ≤ nx) (ok : zOk (nt, lim, mem, wk, slow, r, L, A, tk, sp, cs)) (h : zTG G σ b hi nt lim mem wk slow r L A tk sp cs) (ho : σ o = some (zJ G 1 f0)) (hbo : b + 74 ≤ o) (hoh : o < hi) : zMW G yL_digestInPlace kL_digestInPlace [.ref b, .int x, .ref o] σ nx (fun v σ' nx' => zD1 G σ σ' b hi o Int32.toInt64 (zPq (nt, lim, mem, wk, slow, r, L, A, tk, sp, cs) (zsq (zct lim nt x.toNatClampNeg).flatten)) (zk_node nt.length x) (nt, lim, mem, wk, slow, r, L, A, tk, sp, cs) v) := by
  refine zMW.of (ls := [some (.ref b), some (.int x), some (.ref o), none]) (by decide +kernel) ⟨rfl, rfl⟩ (Nat.le_of_ble_eq_true rfl) (fun _ h => h) ?_
  refine z_aload_n dL_digestInPlace_0 rfl ?_
  refine z_iconst (v := 0) dL_digestInPlace_1 (by decide) ?_
  refine z_aload_n dL_digestInPlace_2 rfl ?_
  refine z_iload_n dL_digestInPlace_3 rfl ?_
  refine z_callVH dL_digestInPlace_4 cv_L_61 (a_digestInPlace hG hnx ok h) rfl h.1 rfl rfl ⟨(Nat.le_of_ble_eq_true rfl), (Nat.le_of_ble_eq_true rfl)⟩ (Nat.le_of_ble_eq_true rfl) (Nat.le_of_ble_eq_true rfl) (Nat.le_of_ble_eq_true rfl) (fun E s1 n1 q hx1 hq1 => ?_) (fun v s1 n1 hx1 hq1 => ?_)
  · obtain ⟨h1, h2, hE⟩ := hq1
    simp only [List.mem_cons, List.mem_nil_iff, or_false, Prod.mk.injEq] at hE
    rcases hE with ⟨rfl, hc⟩
    · refine ⟨12, hL_digestInPlace_1, ?_⟩
      refine z_astore_n dL_digestInPlace_12 (by decide) ?_
      refine z_iconst (v := 1) dL_digestInPlace_13 (by decide) ?_
      exact z_iret dL_digestInPlace_14 rfl (Nat.le_of_ble_eq_true rfl) (Nat.le_of_ble_eq_true rfl) ⟨by rw [hc]; rfl, fun w => by omega, fun _ => ⟨h1, _, (h2 o (Or.inr ⟨hbo, hoh⟩)).trans ho⟩, fun x a _ => h2 x a⟩
  · obtain ⟨hc, u', w, rfl, hP, h1, h2⟩ := hq1
    refine z_i2l dL_digestInPlace_7 ?_
    refine z_last dL_digestInPlace_8 ((h2 o (Or.inr ⟨hbo, hoh⟩)).trans ho) zin01 ?_
    refine z_goto (tgt := 15) dL_digestInPlace_9 (by decide) ?_
    refine z_iconst (v := 0) dL_digestInPlace_15 (by decide) ?_
    exact z_iret dL_digestInPlace_16 rfl (Nat.le_of_ble_eq_true rfl) (Nat.le_of_ble_eq_true rfl) ⟨by rw [hc]; rfl, fun _ => ⟨u', w, hP, h1.fr fun x q => zu_ne (by omega), _, zu_eq _ _ _, zup0⟩, fun w => absurd hc w, fun x a a2 => (zu_ne a2).trans (h2 x a)⟩
set_option maxRecDepth 100000 in
set_option maxHeartbeats 1000000 in
theorem w_setWorkers (hG : zKap G) (hnx : hi ≤ nx) (ok : zOk (nt, lim, mem, wk, slow, r, L, A, tk, sp, cs)) (h : zTG G σ b hi nt lim mem wk slow r L A tk sp cs) (ho : σ o = some (zJ G 1 f0)) (hbo : b + 74 ≤ o) (hoh : o < hi) : zMW G yL_setWorkers kL_setWorkers [.ref b, .int x, .ref o] σ nx (fun v σ' nx' => zD1 G σ σ' b hi o Int32.toInt64 (zPq (nt, lim, mem, x.toNatClampNeg, slow, r, L, A, tk, sp, cs) (nI wk)) (zk_work x) (nt, lim, mem, wk, slow, r, L, A, tk, sp, cs) v) := by
  refine zMW.of (ls := [some (.ref b), some (.int x), some (.ref o), none]) (by decide +kernel) ⟨rfl, rfl⟩ (Nat.le_of_ble_eq_true rfl) (fun _ h => h) ?_
  refine z_aload_n dL_setWorkers_0 rfl ?_
  refine z_iconst (v := 0) dL_setWorkers_1 (by decide) ?_
  refine z_aload_n dL_setWorkers_2 rfl ?_
  refine z_iload_n dL_setWorkers_3 rfl ?_
  refine z_callVH dL_setWorkers_4 cv_L_64 (a_setWorkers hG hnx ok h) rfl h.1 rfl rfl ⟨(Nat.le_of_ble_eq_true rfl), (Nat.le_of_ble_eq_true rfl)⟩ (Nat.le_of_ble_eq_true rfl) (Nat.le_of_ble_eq_true rfl) (Nat.le_of_ble_eq_true rfl) (fun E s1 n1 q hx1 hq1 => ?_) (fun v s1 n1 hx1 hq1 => ?_)
  · obtain ⟨h1, h2, hE⟩ := hq1
    simp only [List.mem_cons, List.mem_nil_iff, or_false, Prod.mk.injEq] at hE
    rcases hE with ⟨rfl, hc⟩
    · refine ⟨12, hL_setWorkers_1, ?_⟩
      refine z_astore_n dL_setWorkers_12 (by decide) ?_
      refine z_iconst (v := 1) dL_setWorkers_13 (by decide) ?_
      exact z_iret dL_setWorkers_14 rfl (Nat.le_of_ble_eq_true rfl) (Nat.le_of_ble_eq_true rfl) ⟨by rw [hc]; rfl, fun w => by omega, fun _ => ⟨h1, _, (h2 o (Or.inr ⟨hbo, hoh⟩)).trans ho⟩, fun x a _ => h2 x a⟩
  · obtain ⟨hc, u', w, rfl, hP, h1, h2⟩ := hq1
    refine z_i2l dL_setWorkers_7 ?_
    refine z_last dL_setWorkers_8 ((h2 o (Or.inr ⟨hbo, hoh⟩)).trans ho) zin01 ?_
    refine z_goto (tgt := 15) dL_setWorkers_9 (by decide) ?_
    refine z_iconst (v := 0) dL_setWorkers_15 (by decide) ?_
    exact z_iret dL_setWorkers_16 rfl (Nat.le_of_ble_eq_true rfl) (Nat.le_of_ble_eq_true rfl) ⟨by rw [hc]; rfl, fun _ => ⟨u', w, hP, h1.fr fun x q => zu_ne (by omega), _, zu_eq _ _ _, zup0⟩, fun w => absurd hc w, fun x a a2 => (zu_ne a2).trans (h2 x a)⟩
end
