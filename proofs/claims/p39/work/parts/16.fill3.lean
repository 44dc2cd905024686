/-! Holding: rows by keys -/
theorem zins_take {R : zP2} {j : Nat} {q : Int32 × Int32} (h : R[j]? = some q) : R.take (j + 1) = R.take j ++ [q] := ztake h
theorem zgrp_snoc (D : Nat → Int32) (R : zP2) (q : Int32 × Int32) : zgrp D (R ++ [q]) = zgad D (zgrp D R) q := by simp [zgrp, List.foldl_append]
theorem zsrt_snoc (R : zP2) (q : Int32 × Int32) : zsrt (R ++ [q]) = zins (zsrt R) (zcnt (zsrt R) q.1) q := by simp [zsrt, List.foldl_append]
theorem zsrt_up : ∀ (R : zP2), zUp (zsrt R) ∧ (zsrt R).length = R.length := by
  have key : ∀ (R A : zP2), zUp A → zUp (R.foldl (fun a q => zins a (zcnt a q.1) q) A) ∧ (R.foldl (fun a q => zins a (zcnt a q.1) q) A).length = A.length + R.length := by
    intro R
    induction R with
    | nil => intro A h; exact ⟨h, rfl⟩
    | cons q t ih =>
      intro A h
      have := ih (zins A (zcnt A q.1) q) (zUp_ins h)
      rw [List.foldl_cons]
      refine ⟨this.1, ?_⟩
      rw [this.2, zins_len (zcnt_le A q.1), List.length_cons]
      omega
  intro R
  have := key R [] zUp_nil
  exact ⟨this.1, by rw [zsrt, this.2]; simp⟩
theorem zgad_up {D : Nat → Int32} {R : zP2} {q : Int32 × Int32} (h : zUp R) : zUp (zgad D R q) ∧ (zgad D R q).length ≤ R.length + 1 := by
  unfold zgad
  by_cases c : 0 < zcnt R q.1 ∧ ∃ z, R[zcnt R q.1 - 1]? = some z ∧ z.1 = q.1
  · rw [if_pos c]
    obtain ⟨-, z, h1, h2⟩ := c
    refine ⟨?_, by rw [List.length_set]; omega⟩
    rw [← h2]
    rw [h2]
    have := zUp_set (y := zg1 D (R.getD (zcnt R q.1 - 1) (0, 0)).2 q.2) h h1
    rwa [h2] at this
  · rw [if_neg c]
    have := zUp_ins (q := (q.1, zg0 D q.2)) h
    exact ⟨this, by rw [zins_len (zcnt_le R q.1)]; omega⟩
theorem zgrp_up (D : Nat → Int32) : ∀ (R : zP2), zUp (zgrp D R) ∧ (zgrp D R).length ≤ R.length := by
  have key : ∀ (R A : zP2), zUp A → zUp (R.foldl (zgad D) A) ∧ (R.foldl (zgad D) A).length ≤ A.length + R.length := by
    intro R
    induction R with
    | nil => intro A h; exact ⟨h, by simp⟩
    | cons q t ih =>
      intro A h
      have h1 := zgad_up (D := D) (q := q) h
      have := ih _ h1.1
      rw [List.foldl_cons]
      refine ⟨this.1, ?_⟩
      rw [List.length_cons]
      omega
  intro R
  have := key R [] zUp_nil
  exact ⟨this.1, by simpa [zgrp] using this.2⟩
set_option maxRecDepth 100000 in
/-- sortByKey -/
theorem c_X3_sortByKey {G : zG} {σ : zH} {nx h r1 b m1 : Nat} {v0 v1 v3 : Value} {P : List zP2} {R0 : zP2} {E0 : List Nat} (hh : σ h = some (.inr (4, [v0, v1, .ref b, v3]))) (h1 : zHas G σ r1 m1 P) (hb : zRows G σ b 300 R0 E0) (a1b : zAp r1 b) (ah : h < b ∨ b + 7 ≤ h) : zM G yX3_sortByKey kX3_sortByKey [.ref h, .ref r1] σ nx (fun v σ' nx' => v = none ∧ zRows G σ' b 300 (zsrt P.flatten) [] ∧ zFr σ σ' b 7 ∧ nx' = nx) := by
  refine zM.of2 (ls := [some (.ref h), some (.ref r1), none, none]) (by decide +kernel) ⟨rfl, rfl, rfl⟩ (Nat.le_of_ble_eq_true rfl) (fun _ h => h) (fun Q hQ => ?_)
  have hl := h1.len
  have loop : ∀ d j : Nat, j + d = P.flatten.length → ∀ σ1 : zH, zFr σ σ1 b 7 → zRows G σ1 b 300 (zsrt (P.flatten.take j)) [] → ∀ x1 : Option Value, zWP G kX3_sortByKey (zFM G kX3_sortByKey.2.2.2.1 Q) 9 [some (.ref h), some (.ref r1), some (.int (nI j)), x1] [] σ1 nx 0 0 := by
    intro d
    induction d with
    | zero =>
      intro j hj σ1 f1 t1 x1
      have g1 : zHas G σ1 r1 m1 P := h1.ap f1 a1b
      refine z_iload_n dX3_sortByKey_9 rfl ?_
      refine z_aload_n dX3_sortByKey_10 rfl ?_
      refine z_callV dX3_sortByKey_11 cv_X3_77 (c_X9_size g1) rfl g1.c rfl rfl ⟨(Nat.le_of_ble_eq_true rfl), (Nat.le_of_ble_eq_true rfl)⟩ (Nat.le_of_ble_eq_true rfl) (Nat.le_of_ble_eq_true rfl) (Nat.le_of_ble_eq_true rfl) (fun v σ2 nx2 hx2 hq2 => ?_)
      obtain ⟨rfl, rfl, rfl⟩ := hq2
      refine z_icmp_ge (tgt := 50) dX3_sortByKey_14 (by decide) (fun _ => ?_) (fun q => absurd (nI_le (by omega) (by omega)) q)
      rw [List.take_of_length_le (by omega)] at t1
      exact z_vret dX3_sortByKey_50 rfl (Nat.le_of_ble_eq_true rfl) (Nat.le_of_ble_eq_true rfl) (hQ _ _ _ ⟨rfl, t1, f1, rfl⟩)
    | succ d ih =>
      intro j hj σ1 f1 t1 x1
      have g1 : zHas G σ1 r1 m1 P := h1.ap f1 a1b
      have gh : σ1 h = some (.inr (4, [v0, v1, .ref b, v3])) := (f1 h (by omega)).trans hh
      have hg : P.flatten[j]? = some (P.flatten[j]'(by omega)) := List.getElem?_eq_getElem _
      generalize P.flatten[j]'(by omega) = z at hg
      have hs := zsrt_up (P.flatten.take j)
      rw [List.length_take, Nat.min_eq_left (by omega)] at hs
      refine z_iload_n dX3_sortByKey_9 rfl ?_
      refine z_aload_n dX3_sortByKey_10 rfl ?_
      refine z_callV dX3_sortByKey_11 cv_X3_77 (c_X9_size g1) rfl g1.c rfl rfl ⟨(Nat.le_of_ble_eq_true rfl), (Nat.le_of_ble_eq_true rfl)⟩ (Nat.le_of_ble_eq_true rfl) (Nat.le_of_ble_eq_true rfl) (Nat.le_of_ble_eq_true rfl) (fun v σ2 nx2 hx2 hq2 => ?_)
      obtain ⟨rfl, rfl, rfl⟩ := hq2
      refine z_icmp_ge (tgt := 50) dX3_sortByKey_14 (by decide) (fun q => absurd q (nI_ge (show j < P.flatten.length by omega) (by omega))) (fun _ => ?_)
      refine z_aload_n dX3_sortByKey_17 rfl ?_
      refine z_iload_n dX3_sortByKey_18 rfl ?_
      refine z_callV dX3_sortByKey_19 cv_X3_147 (c_X9_key g1 hg) rfl g1.c rfl rfl ⟨(Nat.le_of_ble_eq_true rfl), (Nat.le_of_ble_eq_true rfl)⟩ (Nat.le_of_ble_eq_true rfl) (Nat.le_of_ble_eq_true rfl) (Nat.le_of_ble_eq_true rfl) (fun v σ2 nx2 hx2 hq2 => ?_)
      obtain ⟨rfl, rfl, rfl⟩ := hq2
      refine z_istore_n dX3_sortByKey_22 (by decide) ?_
      refine z_aload_n dX3_sortByKey_23 rfl ?_
      refine z_getf dX3_sortByKey_24 fl_X3_14 gh rfl ?_
      refine z_aload_n dX3_sortByKey_27 rfl ?_
      refine z_getf dX3_sortByKey_28 fl_X3_14 gh rfl ?_
      refine z_iload_n dX3_sortByKey_31 rfl ?_
      refine z_callV dX3_sortByKey_32 cv_X3_186 (c_X9_placeBehind t1 hs.1) rfl t1.c rfl rfl ⟨(Nat.le_of_ble_eq_true rfl), (Nat.le_of_ble_eq_true rfl)⟩ (Nat.le_of_ble_eq_true rfl) (Nat.le_of_ble_eq_true rfl) (Nat.le_of_ble_eq_true rfl) (fun v σ2 nx2 hx2 hq2 => ?_)
      obtain ⟨⟨c, rfl, c1, c2, c3⟩, rfl, rfl⟩ := hq2
      have hc := zcnt_of _ _ c c1 c2 c3
      refine z_iload_n dX3_sortByKey_35 rfl ?_
      refine z_aload_n dX3_sortByKey_36 rfl ?_
      refine z_iload_n dX3_sortByKey_37 rfl ?_
      refine z_callV dX3_sortByKey_38 cv_X3_151 (c_X9_value g1 hg) rfl g1.c rfl rfl ⟨(Nat.le_of_ble_eq_true rfl), (Nat.le_of_ble_eq_true rfl)⟩ (Nat.le_of_ble_eq_true rfl) (Nat.le_of_ble_eq_true rfl) (Nat.le_of_ble_eq_true rfl) (fun v σ3 nx3 hx3 hq3 => ?_)
      obtain ⟨rfl, rfl, rfl⟩ := hq3
      refine z_callV dX3_sortByKey_41 cv_X3_201 (c_X9_insert t1 (by omega) c1) rfl t1.c rfl rfl ⟨(Nat.le_of_ble_eq_true rfl), (Nat.le_of_ble_eq_true rfl)⟩ (Nat.le_of_ble_eq_true rfl) (Nat.le_of_ble_eq_true rfl) (Nat.le_of_ble_eq_true rfl) (fun v σ3 nx3 hx3 hq3 => ?_)
      obtain ⟨rfl, t3, f3, rfl⟩ := hq3
      refine z_inc1 dX3_sortByKey_44 rfl (by decide) ?_
      refine z_goto (tgt := 9) dX3_sortByKey_47 (by decide) ?_
      rw [nI_1]
      refine ih (j + 1) (by omega) σ3 (f1.tr f3) ?_ _
      rw [ztake hg, zsrt_snoc, ← hc]
      exact t3
  refine z_aload_n dX3_sortByKey_0 rfl ?_
  refine z_getf dX3_sortByKey_1 fl_X3_14 hh rfl ?_
  refine z_callV dX3_sortByKey_4 cv_X3_90 (c_X9_clear hb) rfl hb.c rfl rfl ⟨(Nat.le_of_ble_eq_true rfl), (Nat.le_of_ble_eq_true rfl)⟩ (Nat.le_of_ble_eq_true rfl) (Nat.le_of_ble_eq_true rfl) (Nat.le_of_ble_eq_true rfl) (fun v σ1 nx1 hx1 hq1 => ?_)
  obtain ⟨rfl, t1, f1, rfl⟩ := hq1
  refine z_iconst (v := 0) dX3_sortByKey_7 (by decide) ?_
  refine z_istore_n dX3_sortByKey_8 (by decide) ?_
  exact loop P.flatten.length 0 (by omega) σ1 f1 (by rw [List.take_zero]; exact t1) none
set_option maxRecDepth 100000 in
/-- groupByKey -/
theorem c_X3_groupByKey {G : zG} {σ : zH} {nx h r1 b n k m1 : Nat} {v0 v1 v3 : Value} {P : List zP2} {R0 R : zP2} {E0 : List Nat} {D : Nat → Int32} (hh : σ h = some (.inr (4, [v0, v1, .ref b, v3]))) (h1 : zHas G σ r1 m1 P) (hn : zNode G σ n k D R) (hb : zRows G σ b 300 R0 E0) (a1b : zAp r1 b) (ah : h < b ∨ b + 7 ≤ h) (an : n + 8 ≤ b ∨ b + 7 ≤ n) : zM G yX3_groupByKey kX3_groupByKey [.ref h, .ref r1, .ref n] σ nx (fun v σ' nx' => v = none ∧ zRows G σ' b 300 (zgrp D P.flatten) [] ∧ zFr σ σ' b 7 ∧ nx' = nx) := by
  refine zM.of2 (ls := [some (.ref h), some (.ref r1), some (.ref n), none, none, none, none, none]) (by decide +kernel) ⟨rfl, rfl, rfl⟩ (Nat.le_of_ble_eq_true rfl) (fun _ h => h) (fun Q hQ => ?_)
  have hl := h1.len
  have loop : ∀ d j : Nat, j + d = P.flatten.length → ∀ σ1 : zH, zFr σ σ1 b 7 → zRows G σ1 b 300 (zgrp D (P.flatten.take j)) [] → ∀ x4 x5 x6 x7 : Option Value, zWP G kX3_groupByKey (zFM G kX3_groupByKey.2.2.2.1 Q) 9 [some (.ref h), some (.ref r1), some (.ref n), some (.int (nI j)), x4, x5, x6, x7] [] σ1 nx 0 0 := by
    intro d
    induction d with
    | zero =>
      intro j hj σ1 f1 t1 x4 x5 x6 x7
      have g1 : zHas G σ1 r1 m1 P := h1.ap f1 a1b
      refine z_iload_n dX3_groupByKey_9 rfl ?_
      refine z_aload_n dX3_groupByKey_10 rfl ?_
      refine z_callV dX3_groupByKey_11 cv_X3_77 (c_X9_size g1) rfl g1.c rfl rfl ⟨(Nat.le_of_ble_eq_true rfl), (Nat.le_of_ble_eq_true rfl)⟩ (Nat.le_of_ble_eq_true rfl) (Nat.le_of_ble_eq_true rfl) (Nat.le_of_ble_eq_true rfl) (fun v σ2 nx2 hx2 hq2 => ?_)
      obtain ⟨rfl, rfl, rfl⟩ := hq2
      refine z_icmp_ge (tgt := 116) dX3_groupByKey_14 (by decide) (fun _ => ?_) (fun q => absurd (nI_le (by omega) (by omega)) q)
      rw [List.take_of_length_le (by omega)] at t1
      exact z_vret dX3_groupByKey_116 rfl (Nat.le_of_ble_eq_true rfl) (Nat.le_of_ble_eq_true rfl) (hQ _ _ _ ⟨rfl, t1, f1, rfl⟩)
    | succ d ih =>
      intro j hj σ1 f1 t1 x4 x5 x6 x7
      have g1 : zHas G σ1 r1 m1 P := h1.ap f1 a1b
      have gn := hn.ap f1 an
      have gh : σ1 h = some (.inr (4, [v0, v1, .ref b, v3])) := (f1 h (by omega)).trans hh
      have hg : P.flatten[j]? = some (P.flatten[j]'(by omega)) := List.getElem?_eq_getElem _
      generalize P.flatten[j]'(by omega) = z at hg
      have hs := zgrp_up D (P.flatten.take j)
      rw [List.length_take, Nat.min_eq_left (by omega)] at hs
      have eN : zgrp D (P.flatten.take (j + 1)) = zgad D (zgrp D (P.flatten.take j)) z := by rw [ztake hg, zgrp_snoc]
      generalize zgrp D (P.flatten.take j) = A at t1 hs eN
      refine z_iload_n dX3_groupByKey_9 rfl ?_
      refine z_aload_n dX3_groupByKey_10 rfl ?_
      refine z_callV dX3_groupByKey_11 cv_X3_77 (c_X9_size g1) rfl g1.c rfl rfl ⟨(Nat.le_of_ble_eq_true rfl), (Nat.le_of_ble_eq_true rfl)⟩ (Nat.le_of_ble_eq_true rfl) (Nat.le_of_ble_eq_true rfl) (Nat.le_of_ble_eq_true rfl) (fun v σ2 nx2 hx2 hq2 => ?_)
      obtain ⟨rfl, rfl, rfl⟩ := hq2
      refine z_icmp_ge (tgt := 116) dX3_groupByKey_14 (by decide) (fun q => absurd q (nI_ge (show j < P.flatten.length by omega) (by omega))) (fun _ => ?_)
      refine z_aload_n dX3_groupByKey_17 rfl ?_
      refine z_iload_n dX3_groupByKey_18 rfl ?_
      refine z_callV dX3_groupByKey_19 cv_X3_147 (c_X9_key g1 hg) rfl g1.c rfl rfl ⟨(Nat.le_of_ble_eq_true rfl), (Nat.le_of_ble_eq_true rfl)⟩ (Nat.le_of_ble_eq_true rfl) (Nat.le_of_ble_eq_true rfl) (Nat.le_of_ble_eq_true rfl) (fun v σ2 nx2 hx2 hq2 => ?_)
      obtain ⟨rfl, rfl, rfl⟩ := hq2
      refine z_istore dX3_groupByKey_22 (by decide) ?_
      refine z_aload_n dX3_groupByKey_24 rfl ?_
      refine z_iload_n dX3_groupByKey_25 rfl ?_
      refine z_callV dX3_groupByKey_26 cv_X3_151 (c_X9_value g1 hg) rfl g1.c rfl rfl ⟨(Nat.le_of_ble_eq_true rfl), (Nat.le_of_ble_eq_true rfl)⟩ (Nat.le_of_ble_eq_true rfl) (Nat.le_of_ble_eq_true rfl) (Nat.le_of_ble_eq_true rfl) (fun v σ2 nx2 hx2 hq2 => ?_)
      obtain ⟨rfl, rfl, rfl⟩ := hq2
      refine z_istore dX3_groupByKey_29 (by decide) ?_
      refine z_aload_n dX3_groupByKey_31 rfl ?_
      refine z_getf dX3_groupByKey_32 fl_X3_14 gh rfl ?_
      refine z_iload dX3_groupByKey_35 rfl ?_
      refine z_callV dX3_groupByKey_37 cv_X3_186 (c_X9_placeBehind t1 hs.1) rfl t1.c rfl rfl ⟨(Nat.le_of_ble_eq_true rfl), (Nat.le_of_ble_eq_true rfl)⟩ (Nat.le_of_ble_eq_true rfl) (Nat.le_of_ble_eq_true rfl) (Nat.le_of_ble_eq_true rfl) (fun v σ2 nx2 hx2 hq2 => ?_)
      obtain ⟨⟨c, rfl, c1, c2, c3⟩, rfl, rfl⟩ := hq2
      have hc := zcnt_of _ _ c c1 c2 c3
      refine z_istore dX3_groupByKey_40 (by decide) ?_
      refine z_aload_n dX3_groupByKey_42 rfl ?_
      refine z_getf dX3_groupByKey_43 fl_X3_14 gh rfl ?_
      refine z_iload dX3_groupByKey_46 rfl ?_
      refine z_iconst (v := 1) dX3_groupByKey_48 (by decide) ?_
      refine z_isub dX3_groupByKey_49 ?_
      refine z_iload dX3_groupByKey_50 rfl ?_
      refine z_callV dX3_groupByKey_52 cv_X3_189 (c_X9_hasKey t1 c1) rfl t1.c rfl rfl ⟨(Nat.le_of_ble_eq_true rfl), (Nat.le_of_ble_eq_true rfl)⟩ (Nat.le_of_ble_eq_true rfl) (Nat.le_of_ble_eq_true rfl) (Nat.le_of_ble_eq_true rfl) (fun v σ2 nx2 hx2 hq2 => ?_)
      obtain ⟨rfl, rfl, rfl⟩ := hq2
      refine z_if_eq (tgt := 93) dX3_groupByKey_55 (by decide) (fun h55 => ?_) (fun h55 => ?_)
      · have hno : ¬ (0 < c ∧ ∃ q, A[c - 1]? = some q ∧ q.1 = z.1) := fun q => by rw [if_pos q] at h55; exact absurd h55 (by decide)
        have e2 : zgad D A z = zins A c (z.1, zg0 D z.2) := by rw [zgad, ← hc, if_neg hno]
        refine z_aload_n dX3_groupByKey_93 rfl ?_
        refine z_getf dX3_groupByKey_94 fl_X3_14 gh rfl ?_
        refine z_iload dX3_groupByKey_97 rfl ?_
        refine z_iload dX3_groupByKey_99 rfl ?_
        refine z_aload_n dX3_groupByKey_101 rfl ?_
        refine z_iload dX3_groupByKey_102 rfl ?_
        refine z_callV dX3_groupByKey_104 cv_X3_198 (c_X7_firstOfGroup gn) rfl gn.1 rfl rfl ⟨(Nat.le_of_ble_eq_true rfl), (Nat.le_of_ble_eq_true rfl)⟩ (Nat.le_of_ble_eq_true rfl) (Nat.le_of_ble_eq_true rfl) (Nat.le_of_ble_eq_true rfl) (fun v σ3 nx3 hx3 hq3 => ?_)
        obtain ⟨rfl, rfl, rfl⟩ := hq3
        refine z_callV dX3_groupByKey_107 cv_X3_201 (c_X9_insert t1 (by omega) c1) rfl t1.c rfl rfl ⟨(Nat.le_of_ble_eq_true rfl), (Nat.le_of_ble_eq_true rfl)⟩ (Nat.le_of_ble_eq_true rfl) (Nat.le_of_ble_eq_true rfl) (Nat.le_of_ble_eq_true rfl) (fun v σ3 nx3 hx3 hq3 => ?_)
        obtain ⟨rfl, t3, f3, rfl⟩ := hq3
        refine z_inc1 dX3_groupByKey_110 rfl (by decide) ?_
        refine z_goto (tgt := 9) dX3_groupByKey_113 (by decide) ?_
        rw [nI_1]
        exact ih (j + 1) (by omega) σ3 (f1.tr f3) (by rw [eN, e2]; exact t3) _ _ _ _
      · have hyes : 0 < c ∧ ∃ q, A[c - 1]? = some q ∧ q.1 = z.1 := by
          by_cases q : 0 < c ∧ ∃ q, A[c - 1]? = some q ∧ q.1 = z.1
          · exact q
          · rw [if_neg q] at h55; exact absurd rfl h55
        have e2 : zgad D A z = A.set (c - 1) (z.1, zg1 D (A.getD (c - 1) (0, 0)).2 z.2) := by rw [zgad, ← hc, if_pos hyes]
        obtain ⟨hc0, w, hw1, hw2⟩ := hyes
        have e3 : (A.getD (c - 1) (0, 0)).2 = w.2 := by rw [List.getD_eq_getElem?_getD, hw1]; rfl
        obtain ⟨c', rfl⟩ : ∃ c', c = c' + 1 := ⟨c - 1, by omega⟩
        rw [Nat.add_sub_cancel] at hw1 e2 e3
        refine z_aload_n dX3_groupByKey_58 rfl ?_
        refine z_getf dX3_groupByKey_59 fl_X3_14 gh rfl ?_
        refine z_iload dX3_groupByKey_62 rfl ?_
        refine z_iconst (v := 1) dX3_groupByKey_64 (by decide) ?_
        refine z_isub dX3_groupByKey_65 ?_
        rw [nI_pred]
        refine z_callV dX3_groupByKey_66 cv_X3_151 (c_X9_value t1 hw1) rfl t1.c rfl rfl ⟨(Nat.le_of_ble_eq_true rfl), (Nat.le_of_ble_eq_true rfl)⟩ (Nat.le_of_ble_eq_true rfl) (Nat.le_of_ble_eq_true rfl) (Nat.le_of_ble_eq_true rfl) (fun v σ3 nx3 hx3 hq3 => ?_)
        obtain ⟨rfl, rfl, rfl⟩ := hq3
        refine z_istore dX3_groupByKey_69 (by decide) ?_
        refine z_aload_n dX3_groupByKey_71 rfl ?_
        refine z_getf dX3_groupByKey_72 fl_X3_14 gh rfl ?_
        refine z_iload dX3_groupByKey_75 rfl ?_
        refine z_iconst (v := 1) dX3_groupByKey_77 (by decide) ?_
        refine z_isub dX3_groupByKey_78 ?_
        refine z_aload_n dX3_groupByKey_79 rfl ?_
        refine z_iload dX3_groupByKey_80 rfl ?_
        refine z_iload dX3_groupByKey_82 rfl ?_
        rw [nI_pred]
        refine z_callV dX3_groupByKey_84 cv_X3_192 (c_X7_nextOfGroup gn) rfl gn.1 rfl rfl ⟨(Nat.le_of_ble_eq_true rfl), (Nat.le_of_ble_eq_true rfl)⟩ (Nat.le_of_ble_eq_true rfl) (Nat.le_of_ble_eq_true rfl) (Nat.le_of_ble_eq_true rfl) (fun v σ3 nx3 hx3 hq3 => ?_)
        obtain ⟨rfl, rfl, rfl⟩ := hq3
        refine z_callV dX3_groupByKey_87 cv_X3_195 (c_X9_setValue t1 hw1) rfl t1.c rfl rfl ⟨(Nat.le_of_ble_eq_true rfl), (Nat.le_of_ble_eq_true rfl)⟩ (Nat.le_of_ble_eq_true rfl) (Nat.le_of_ble_eq_true rfl) (Nat.le_of_ble_eq_true rfl) (fun v σ3 nx3 hx3 hq3 => ?_)
        obtain ⟨rfl, t3, f3, rfl⟩ := hq3
        refine z_goto (tgt := 110) dX3_groupByKey_90 (by decide) ?_
        refine z_inc1 dX3_groupByKey_110 rfl (by decide) ?_
        refine z_goto (tgt := 9) dX3_groupByKey_113 (by decide) ?_
        rw [nI_1]
        exact ih (j + 1) (by omega) σ3 (f1.tr f3) (by rw [eN, e2, e3, ← hw2]; exact t3) _ _ _ _
  refine z_aload_n dX3_groupByKey_0 rfl ?_
  refine z_getf dX3_groupByKey_1 fl_X3_14 hh rfl ?_
  refine z_callV dX3_groupByKey_4 cv_X3_90 (c_X9_clear hb) rfl hb.c rfl rfl ⟨(Nat.le_of_ble_eq_true rfl), (Nat.le_of_ble_eq_true rfl)⟩ (Nat.le_of_ble_eq_true rfl) (Nat.le_of_ble_eq_true rfl) (Nat.le_of_ble_eq_true rfl) (fun v σ1 nx1 hx1 hq1 => ?_)
  obtain ⟨rfl, t1, f1, rfl⟩ := hq1
  refine z_iconst (v := 0) dX3_groupByKey_7 (by decide) ?_
  refine z_istore_n dX3_groupByKey_8 (by decide) ?_
  exact loop P.flatten.length 0 (by omega) σ1 f1 (by rw [List.take_zero]; exact t1) none none none none
