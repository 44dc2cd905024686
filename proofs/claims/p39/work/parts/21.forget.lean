/-! Holding: forgetting, broad joins -/
set_option maxRecDepth 100000 in
theorem c_X3_forgetAll {G : zG} {σ : zH} {nx g h hi : Nat} {ip : Bool} {nt : zNT} {fr : Int32} (hh : zHB G σ g h ip nt fr) (ly : zLy nt hi) (l2 : h + 8 ≤ hi) : zM G yX3_forgetAll kX3_forgetAll [.ref h] σ nx (fun v σ' nx' => v = none ∧ zHB G σ' g h ip nt 0 ∧ (∀ x, x ≠ h → σ' x = σ x) ∧ nx' = nx) := by
  refine zM.of (ls := [some (.ref h)]) (by decide +kernel) ⟨rfl, rfl, rfl⟩ (Nat.le_of_ble_eq_true rfl) (fun _ h => h) ?_
  refine z_aload_n dX3_forgetAll_0 rfl ?_
  refine z_iconst (v := 0) dX3_forgetAll_1 (by decide) ?_
  refine z_putf dX3_forgetAll_2 fp_X3_42 hh.1 rfl rfl (Nat.le_of_ble_eq_true rfl) ?_
  rw [zHC_set]
  exact z_vret dX3_forgetAll_5 rfl (Nat.le_of_ble_eq_true rfl) (Nat.le_of_ble_eq_true rfl) ⟨rfl, hh.fresh ly l2, fun x hx => zu_ne hx, rfl⟩
set_option maxRecDepth 100000 in
theorem c_X3_forgetAllOf {G : zG} {σ : zH} {nx g h hi s : Nat} {ip : Bool} {fr lim : Int32} {nt : zNT} (hh : zHB G σ g h ip nt fr) (hg : zGr G σ g hi nt lim) (l1 : g + 24 ≤ h) (l2 : h + 8 ≤ hi) (hs : s < 14) : zM G yX3_forgetAllOf kX3_forgetAllOf [.ref h, .int (nI s)] σ nx (fun v σ' nx' => v = none ∧ (∃ fr', zHB G σ' g h ip nt fr' ∧ ∀ j, j < 14 → bt fr' j = (bt fr j && !(decide (s ≤ j ∧ j < nt.length) && bt (zLin nt j) s))) ∧ (∀ x, x ≠ h → σ' x = σ x) ∧ nx' = nx) := by
  refine zM.of2 (ls := [some (.ref h), some (.int (nI s)), none]) (by decide +kernel) ⟨rfl, rfl, rfl⟩ (Nat.le_of_ble_eq_true rfl) (fun _ h => h) (fun Q hQ => ?_)
  have hl14 : nt.length ≤ 14 := hg.2.2.2.2.2.1
  have loop : ∀ d m : Nat, m + d = 14 → s ≤ m → ∀ (σ1 : zH) (fr1 : Int32), (∀ x, x ≠ h → σ1 x = σ x) → zHB G σ1 g h ip nt fr1 → (∀ j, j < 14 → bt fr1 j = (bt fr j && !(decide (s ≤ j ∧ j < m ∧ j < nt.length) && bt (zLin nt j) s))) →
      zWP G kX3_forgetAllOf (zFM G kX3_forgetAllOf.2.2.2.1 Q) 2 [some (.ref h), some (.int (nI s)), some (.int (nI m))] [] σ1 nx 0 0 := by
    intro d
    induction d with
    | zero =>
      intro m hm hsm σ1 fr1 f1 o1 b1
      have e14 : m = 14 := by omega
      subst e14
      refine z_iload_n dX3_forgetAllOf_2 rfl ?_
      refine z_bipush (v := 14) dX3_forgetAllOf_3 (by decide) ?_
      refine z_icmp_ge (tgt := 48) dX3_forgetAllOf_5 (by decide) (fun _ => ?_) (fun q => absurd (nI_le (Nat.le_refl 14) (by omega)) q)
      exact z_vret dX3_forgetAllOf_48 rfl (Nat.le_of_ble_eq_true rfl) (Nat.le_of_ble_eq_true rfl) (hQ _ _ _ ⟨rfl, ⟨fr1, o1, fun j hj => by rw [b1 j hj]; congr 3; exact decide_eq_decide.mpr ⟨fun q => ⟨q.1, q.2.2⟩, fun q => ⟨q.1, hj, q.2⟩⟩⟩, f1, rfl⟩)
    | succ d ih =>
      intro m hm hsm σ1 fr1 f1 o1 b1
      have g1 : zGr G σ1 g hi nt lim := hg.fr (fun b a c => f1 b (by omega)) (fun b a _ => f1 b (by omega))
      refine z_iload_n dX3_forgetAllOf_2 rfl ?_
      refine z_bipush (v := 14) dX3_forgetAllOf_3 (by decide) ?_
      refine z_icmp_ge (tgt := 48) dX3_forgetAllOf_5 (by decide) (fun q => absurd q ((show ¬ nI 14 ≤ nI m from nI_ge (by omega) (by omega)))) (fun _ => ?_)
      refine z_aload_n dX3_forgetAllOf_8 rfl ?_
      refine z_getf dX3_forgetAllOf_9 fl_X3_20 o1.1 rfl ?_
      refine z_iload_n dX3_forgetAllOf_12 rfl ?_
      refine z_callV dX3_forgetAllOf_13 cv_X3_28 (c_X2_at g1) rfl g1.1 rfl rfl ⟨(Nat.le_of_ble_eq_true rfl), (Nat.le_of_ble_eq_true rfl)⟩ (Nat.le_of_ble_eq_true rfl) (Nat.le_of_ble_eq_true rfl) (Nat.le_of_ble_eq_true rfl) (fun v σ2 nx2 hx2 hq2 => ?_)
      obtain ⟨rfl, rfl, rfl⟩ := hq2
      refine z_getf dX3_forgetAllOf_16 fl_X3_46 (znat_node g1).1 rfl ?_
      refine z_iload_n dX3_forgetAllOf_19 rfl ?_
      refine z_callS dX3_forgetAllOf_20 cv_X3_49 (c_X11_has hs) rfl rfl ⟨(Nat.le_of_ble_eq_true rfl), (Nat.le_of_ble_eq_true rfl)⟩ (Nat.le_of_ble_eq_true rfl) (Nat.le_of_ble_eq_true rfl) (Nat.le_of_ble_eq_true rfl) (fun v σ2 nx2 hx2 hq2 => ?_)
      obtain ⟨rfl, rfl, rfl⟩ := hq2
      have eb : bt ((znat nt g (nI m)).2.2.1 12) s = (decide (m < nt.length) && bt (zLin nt m) s) := by
        by_cases q : m < nt.length
        · rw [znat_in (List.getElem?_eq_getElem q) hl14, zLin_at (List.getElem?_eq_getElem q), decide_eq_true q]; rfl
        · rw [decide_eq_false q, Bool.false_and, znat, if_neg (nI_pos (by omega)), nI_clamp (by omega), List.getD_eq_getElem?_getD, List.getElem?_eq_none (by omega)]
          exact b_0 s
      by_cases hb : bt ((znat nt g (nI m)).2.2.1 12) s = true
      · rw [if_pos hb]
        rw [eb, Bool.and_eq_true, decide_eq_true_eq] at hb
        refine z_if_eq (tgt := 42) dX3_forgetAllOf_23 (by decide) (fun q => absurd q ((by decide))) (fun _ => ?_)
        refine z_aload_n dX3_forgetAllOf_26 rfl ?_
        refine z_dup dX3_forgetAllOf_27 rfl ?_
        refine z_getf dX3_forgetAllOf_28 fl_X3_42 o1.1 rfl ?_
        refine z_iconst (v := 0) dX3_forgetAllOf_31 (by decide) ?_
        refine z_iload_n dX3_forgetAllOf_32 rfl ?_
        refine z_callS dX3_forgetAllOf_33 cv_X3_53 (c_X11_with (show m < 14 by omega)) rfl rfl ⟨(Nat.le_of_ble_eq_true rfl), (Nat.le_of_ble_eq_true rfl)⟩ (Nat.le_of_ble_eq_true rfl) (Nat.le_of_ble_eq_true rfl) (Nat.le_of_ble_eq_true rfl) (fun v σ3 nx3 hx3 hq3 => ?_)
        obtain ⟨rfl, rfl, rfl⟩ := hq3
        refine z_iconst (v := (-1)) dX3_forgetAllOf_36 (by decide) ?_
        refine z_ixor dX3_forgetAllOf_37 ?_
        refine z_iand dX3_forgetAllOf_38 ?_
        refine z_putf dX3_forgetAllOf_39 fp_X3_42 o1.1 rfl rfl (Nat.le_of_ble_eq_true rfl) ?_
        rw [zHC_set]
        refine z_inc1 dX3_forgetAllOf_42 rfl (by decide) ?_
        refine z_goto (tgt := 2) dX3_forgetAllOf_45 (by decide) ?_
        rw [nI_1]
        refine ih (m + 1) (by omega) (by omega) _ _ (fun x hx => (zu_ne hx).trans (f1 x hx)) (o1.fresh hg.ly l2) (fun j hj => ?_)
        rw [bt_mask _ (by omega) (by omega), b1 j hj]
        by_cases ejm : j = m
        · subst ejm
          rw [decide_eq_true (show s ≤ j ∧ j < j + 1 ∧ j < nt.length from ⟨hsm, by omega, hb.1⟩), hb.2]
          simp
        · rw [decide_eq_false ejm]
          simp only [Bool.not_false, Bool.and_true]
          congr 3
          exact decide_eq_decide.mpr (by omega)
      · rw [if_neg hb]
        rw [eb, Bool.and_eq_true, decide_eq_true_eq] at hb
        refine z_if_eq (tgt := 42) dX3_forgetAllOf_23 (by decide) (fun _ => ?_) (fun q => absurd (rfl) q)
        refine z_inc1 dX3_forgetAllOf_42 rfl (by decide) ?_
        refine z_goto (tgt := 2) dX3_forgetAllOf_45 (by decide) ?_
        rw [nI_1]
        refine ih (m + 1) (by omega) (by omega) _ _ f1 o1 (fun j hj => ?_)
        rw [b1 j hj]
        by_cases ejm : j = m
        · subst ejm
          rw [decide_eq_false (show ¬ (s ≤ j ∧ j < j ∧ j < nt.length) by omega)]
          by_cases q : j < nt.length
          · have : bt (zLin nt j) s = false := by
              cases hq : bt (zLin nt j) s with
              | true => exact absurd ⟨q, hq⟩ hb
              | false => rfl
            rw [this]; simp
          · rw [decide_eq_false (show ¬ (s ≤ j ∧ j < j + 1 ∧ j < nt.length) by omega)]
        · congr 3
          exact decide_eq_decide.mpr (by omega)
  refine z_iload_n dX3_forgetAllOf_0 rfl ?_
  refine z_istore_n dX3_forgetAllOf_1 (by decide) ?_
  refine loop (14 - s) s (by omega) (Nat.le_refl _) σ fr (fun _ _ => rfl) hh (fun j hj => ?_)
  rw [decide_eq_false (by omega)]
  simp
/-- is a node a broad join -/
def zbrd (lim : Nat) (nt : zNT) (i : Nat) : Prop := (nt.getD i zdf).2.1 = 5 ∧ (zcon false lim nt ((nt.getD i zdf).2.2.1 2).toNatClampNeg).flatten.length ≤ lim
set_option maxRecDepth 100000 in
theorem c_X3_joinsBroadly {G : zG} {σ : zH} {nx g h hi i lim : Nat} {fr : Int32} {nt : zNT} (hG : zKap G) (hgh : zGH G σ g h hi false lim nt fr) (hw : zWf nt) (hlim : lim ≤ 1000) (hil : i < nt.length) (hfr : ∀ j, j < 14 → bt (zLin nt i) j = true → bt fr j = true) :
    zM G yX3_joinsBroadly kX3_joinsBroadly [.ref h, .int (nI i)] σ nx (fun v σ' nx' => (∃ b : Bool, v = some (.int (if b then 1 else 0)) ∧ (b = true ↔ zbrd lim nt i)) ∧ σ' = σ ∧ nx' = nx) := by
  refine zM.of (ls := [some (.ref h), some (.int (nI i)), none]) (by decide +kernel) ⟨rfl, rfl, rfl⟩ (Nat.le_of_ble_eq_true rfl) (fun _ h => h) ?_
  obtain ⟨gr, ho, l1, l2⟩ := hgh
  have hl14 : nt.length ≤ 14 := gr.2.2.2.2.2.1
  have he : nt[i]? = some (nt[i]'hil) := List.getElem?_eq_getElem _
  generalize nt[i]'hil = e at he
  have eD : nt.getD i zdf = e := by rw [List.getD_eq_getElem?_getD, he]; rfl
  obtain ⟨f, s, p, k6, -, -, -, hs, -, -, -, -, -, -, -, -, -, -, hbt⟩ := hw i e he
  have hn := (gr.2.2.2.1 i e he).1
  refine z_aload_n dX3_joinsBroadly_0 rfl ?_
  refine z_getf dX3_joinsBroadly_1 fl_X3_20 ho.1.1 rfl ?_
  refine z_iload_n dX3_joinsBroadly_4 rfl ?_
  refine z_callV dX3_joinsBroadly_5 cv_X3_28 (c_X2_at gr) rfl gr.1 rfl rfl ⟨(Nat.le_of_ble_eq_true rfl), (Nat.le_of_ble_eq_true rfl)⟩ (Nat.le_of_ble_eq_true rfl) (Nat.le_of_ble_eq_true rfl) (Nat.le_of_ble_eq_true rfl) (fun v σ1 nx1 hx1 hq1 => ?_)
  obtain ⟨rfl, rfl, rfl⟩ := hq1
  rw [znat_in he hl14]
  refine z_astore_n dX3_joinsBroadly_8 (by decide) ?_
  refine z_aload_n dX3_joinsBroadly_9 rfl ?_
  refine z_getf dX3_joinsBroadly_10 fl_X3_65 hn.1 rfl ?_
  refine z_kind dX3_joinsBroadly_13 (by decide) fs_X3_69 ?_
  by_cases k5 : e.2.1 = 5
  · obtain ⟨s1, s2⟩ := hs (Or.inr k5)
    have sfr : bt fr s = true := by
      refine hfr s (by omega) ?_
      rw [zLin_at he, hbt s (by omega)]
      have := (zLin_lt hw hl14 s (by omega)).2
      rw [zLin] at this
      rw [this, decide_eq_true (Or.inr k5), Bool.true_and, Bool.or_true]
    have hS := (ho.2 s (by omega) sfr).2
    have hSl := hS.len
    refine z_racmp_ne (tgt := 44) dX3_joinsBroadly_16 (by decide) (fun q => absurd ((by rw [k5])) q) (fun _ => ?_)
    refine z_aload_n dX3_joinsBroadly_19 rfl ?_
    refine z_aload_n dX3_joinsBroadly_20 rfl ?_
    refine z_getf dX3_joinsBroadly_21 fl_X3_74 hn.1 rfl ?_
    rw [s2]
    refine z_callV dX3_joinsBroadly_24 cv_X3_57 (c_X3_ofn ho.1 gr (show s < nt.length by omega)) rfl ho.1.1 rfl rfl ⟨(Nat.le_of_ble_eq_true rfl), (Nat.le_of_ble_eq_true rfl)⟩ (Nat.le_of_ble_eq_true rfl) (Nat.le_of_ble_eq_true rfl) (Nat.le_of_ble_eq_true rfl) (fun v σ2 nx2 hx2 hq2 => ?_)
    obtain ⟨rfl, rfl, rfl⟩ := hq2
    refine z_callV dX3_joinsBroadly_27 cv_X3_77 (c_X9_size hS) rfl hS.c rfl rfl ⟨(Nat.le_of_ble_eq_true rfl), (Nat.le_of_ble_eq_true rfl)⟩ (Nat.le_of_ble_eq_true rfl) (Nat.le_of_ble_eq_true rfl) (Nat.le_of_ble_eq_true rfl) (fun v σ2 nx2 hx2 hq2 => ?_)
    obtain ⟨rfl, rfl, rfl⟩ := hq2
    refine z_aload_n dX3_joinsBroadly_30 rfl ?_
    refine z_getf dX3_joinsBroadly_31 fl_X3_20 ho.1.1 rfl ?_
    refine z_getf dX3_joinsBroadly_34 fl_X3_81 gr.1 rfl ?_
    have ez : zbrd lim nt i ↔ (zcon false lim nt s).flatten.length ≤ lim := by rw [zbrd, eD, s2, nI_clamp (by omega)]; exact ⟨fun q => q.2, fun q => ⟨k5, q⟩⟩
    refine z_icmp_gt (tgt := 44) dX3_joinsBroadly_37 (by decide) (fun h37 => ?_) (fun h37 => ?_)
    · refine z_iconst (v := 0) dX3_joinsBroadly_44 (by decide) ?_
      exact z_zret dX3_joinsBroadly_45 rfl rfl (Nat.le_of_ble_eq_true rfl) (Nat.le_of_ble_eq_true rfl) ⟨⟨false, rfl, by rw [ez]; exact ⟨fun q => (nomatch q), fun q => absurd (nI_le q (by omega)) (Int32.not_le.mpr h37)⟩⟩, rfl, rfl⟩
    · refine z_iconst (v := 1) dX3_joinsBroadly_40 (by decide) ?_
      refine z_goto (tgt := 45) dX3_joinsBroadly_41 (by decide) ?_
      exact z_zret dX3_joinsBroadly_45 rfl rfl (Nat.le_of_ble_eq_true rfl) (Nat.le_of_ble_eq_true rfl) ⟨⟨true, rfl, by rw [ez]; exact ⟨fun _ => (nI_leI (by omega) (by omega)).mp (Int32.not_lt.mp h37), fun _ => rfl⟩⟩, rfl, rfl⟩
  · refine z_racmp_ne (tgt := 44) dX3_joinsBroadly_16 (by decide) (fun _ => ?_) (fun q => absurd q ((fun q => k5 (hG _ _ k6 (by omega) q))))
    refine z_iconst (v := 0) dX3_joinsBroadly_44 (by decide) ?_
    exact z_zret dX3_joinsBroadly_45 rfl rfl (Nat.le_of_ble_eq_true rfl) (Nat.le_of_ble_eq_true rfl) ⟨⟨false, rfl, by rw [zbrd, eD]; exact ⟨fun q => (nomatch q), fun q => absurd q.1 k5⟩⟩, rfl, rfl⟩
