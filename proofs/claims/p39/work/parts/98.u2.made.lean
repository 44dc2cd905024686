/-! the law: nodes made -/
theorem zSub20 {t : Nat} (h : t < 12) : nI t - 3 ≤ nI 8 := by
  have key : ∀ t, t < 12 → nI t - 3 ≤ nI 8 := by decide +kernel
  exact key t h
theorem zNb {nt : zNT} {R : Nat → Nat → Int32} {i : Nat} (hw : zWf nt) (hr : zRl nt R) (hi : i < nt.length) : R 4 i = nI (zb (nt.getD i zdf)) ∧ R 5 i = nI (zw (nt.getD i zdf)) ∧ (nt.getD i zdf).2.2.1 3 = nI (zb (nt.getD i zdf)) ∧ (nt.getD i zdf).2.2.1 4 = nI (zw (nt.getD i zdf)) ∧ zb (nt.getD i zdf) ≤ 300 ∧ 1 ≤ zw (nt.getD i zdf) ∧ zw (nt.getD i zdf) ≤ 8 := by
  have hg := zget_of hi
  obtain ⟨_, _, _, -, ⟨b1, b2, w1, w2, w3⟩, -⟩ := hw i _ hg
  obtain ⟨-, r4, r5, -⟩ := hr i _ hg
  exact ⟨r4.trans b1, r5.trans w1, b1, w1, b2, w2, w3⟩
theorem zpos1 {x : Int32} (h : ¬ x ≤ 0) : ¬ x < 1 := fun w => h (zlt1 w)
theorem zneg1 {x : Int32} (h : x ≤ 0) : x < 1 := by
  rw [Int32.le_iff_toInt_le] at h
  rw [Int32.lt_iff_toInt_lt]
  have e1 : (1 : Int32).toInt = 1 := by decide
  have e0 : (0 : Int32).toInt = 0 := by decide
  omega
section
variable {G : zG} {σ : zH} {b nx : Nat} {R : Nat → Nat → Int32} {nt : zNT} {lim mem wk r tk sp cs : Nat} {slow : Nat → Nat} {L : zNS} {A : List zAE}
set_option maxRecDepth 100000 in
set_option maxHeartbeats 8000000 in
theorem l_made0 {x1 x2 x3 : Nat} (hG : zKap G) (hnx : b + 82 ≤ nx) (S : zVs G σ b (nt, lim, mem, wk, slow, r, L, A, tk, sp, cs) R) (he : zRe (nt, lim, mem, wk, slow, r, L, A, tk, sp, cs) R) (h1 : x1 < 2 ^ 31) (h2 : x2 < 2 ^ 31) (h3 : x3 < 2 ^ 31) (hwt : x1 % 6 = 0) : zWP G kL_isMade (zFM G kL_isMade.2.2.2.1 (zSt2 G b)) 0 (zMl b x1 x2 x3 [none, none, none, none, none, none, none, none, none, none, none]) [] σ nx 0 0 := by
  have h14 : nt.length ≤ 14 := S.2.1.2.2.1
  have hw : zWf nt := S.2.1.1
  obtain ⟨hr, hg0, -, -, -, -, -, -, -⟩ := id he
  have hL : ∀ q ∈ L, q.1 < nt.length := fun q hq => by
    obtain ⟨k, hk⟩ := List.getElem?_of_mem hq
    exact (S.2.1.2.2.2.2.2.2.2.2.2.1 k q hk).1
  have hne : ¬ nI (nt.length + 1) = 0 := fun w => absurd ((nI_eq (b := 0) (by omega) (by decide)).mp w) (Nat.succ_ne_zero _)
  have hq6 : nI x1 - nI x1 / 6 * 6 = nI 0 := by rw [← hwt]; exact pk_rem (d := 6) h1 (by decide) (by decide)
  have hd6 : nI x1 / 6 = nI (x1 / 6) := pk_div (d := 6) h1 (by decide) (by decide)
  obtain ⟨q, hq⟩ : ∃ q, q = x1 / 6 := ⟨_, rfl⟩
  rw [← hq] at hd6
  have hql : q < 2 ^ 31 := by omega
  have hf9 : nI q - nI q / nI (nt.length + 1) * nI (nt.length + 1) = nI (q % (nt.length + 1)) := pk_rem hql (Nat.succ_pos _) (by omega)
  have hf1 : nI q - nI q / 6 * 6 = nI (q % 6) := pk_rem (d := 6) hql (by decide) (by decide)
  obtain ⟨fv, hfv⟩ : ∃ fv, fv = q % 6 := ⟨_, rfl⟩
  rw [← hfv] at hf1
  have hfb : fv < 6 := by omega
  have hs1 : nI x2 - nI x2 / 6 * 6 = nI (x2 % 6) := pk_rem (d := 6) h2 (by decide) (by decide)
  obtain ⟨s1, hsv⟩ : ∃ s1, s1 = x2 % 6 := ⟨_, rfl⟩
  have hsb : s1 < 6 := by omega
  rw [← hsv] at hs1
  have ht1 : nI x3 - nI x3 / 6 * 6 = nI (x3 % 6) := pk_rem (d := 6) h3 (by decide) (by decide)
  obtain ⟨t1, ht1v⟩ : ∃ t1, t1 = x3 % 6 := ⟨_, rfl⟩
  have htb : t1 < 6 := by omega
  rw [← ht1v] at ht1
  obtain ⟨z, hz⟩ : ∃ z, z = nI t1 := ⟨_, rfl⟩
  obtain ⟨low, hlow⟩ : ∃ low, low = nI x2 - nI x2 / 40 * 40 - 20 := ⟨_, rfl⟩
  have hthere : True → zWP G kL_isMade (zFM G kL_isMade.2.2.2.1 (zSt2 G b)) 269 (zMl b x1 x2 x3 [some (.int (nI 0)), some (.int (nI fv)), some (.int (nI s1)), some (.int z), some (.int low), some (.int 1), some (.int (if 0 < fv ∧ fv < 5 then 1 else 0)), none, none, none, none]) [] σ nx 0 0 := by
    intro hth
    have due : ∀ (rv ww : Int32) (wn : Nat), rv = (if 0 < fv ∧ fv < 5 then 1 else 0) → ww = nI wn → wn ≤ 16 → (0 < fv ∧ fv < 5 → wn ≤ 8 ∧ ww = nI fv) → zWP G kL_isMade (zFM G kL_isMade.2.2.2.1 (zSt2 G b)) 421 (zMl b x1 x2 x3 [some (.int (nI 0)), some (.int (nI fv)), some (.int (nI s1)), some (.int z), some (.int low), some (.int 1), some (.int rv), some (.int 12), some (.int ww), none, none]) [] σ nx 0 0 := by
      intro rv ww wn hrv hwn hwn16 hwc
      by_cases hri : 0 < fv ∧ fv < 5
      rotate_left
      · rw [if_neg hri] at hrv
        subst hrv
        have hzk : zk_source nt.length (nI fv) = 1 := by
          rw [zk_source, if_pos (by
            rcases Nat.eq_zero_or_pos fv with w | w
            · left; rw [w]; decide
            · right; exact nI_lt (a := 4) (by omega) (by omega))]
        refine z_iload dL_isMade_421 rfl ?_
        refine z_if_ne (tgt := 431) dL_isMade_423 (by decide) (fun _ => ?_) (fun q_9 => absurd q_9 (((by decide))))
        refine z_iload dL_isMade_431 rfl ?_
        refine z_if_ne (tgt := 441) dL_isMade_433 (by decide) (fun q_9 => absurd ((rfl)) q_9) (fun _ => ?_)
        refine z_bipush (v := (-20)) dL_isMade_436 (by decide) ?_
        refine z_goto (tgt := 474) dL_isMade_438 (by decide) ?_
        refine z_istore dL_isMade_474 (by decide) ?_
        refine z_aload_n dL_isMade_476 rfl ?_
        refine z_iload dL_isMade_477 rfl ?_
        refine z_iload dL_isMade_479 rfl ?_
        refine z_iload dL_isMade_481 rfl ?_
        refine z_iconst (v := 2) dL_isMade_483 (by decide) ?_
        refine z_icmp_ne (tgt := 492) dL_isMade_484 (by decide) (fun _ => ?_) (fun q_9 => absurd q_9 (((by decide))))
        refine z_iload dL_isMade_492 rfl ?_
        refine z_iload dL_isMade_494 rfl ?_
        refine z_callH dL_isMade_496 ch_L_171 (w_makes_source hG hnx S) rfl rfl ⟨(Nat.le_of_ble_eq_true rfl), (Nat.le_of_ble_eq_true rfl)⟩ (Nat.le_of_ble_eq_true rfl) (Nat.le_of_ble_eq_true rfl) (Nat.le_of_ble_eq_true rfl) (fun v σ1 nx1 hx1 hq1 => ?_)
        obtain ⟨rfl, S⟩ := (hq1.bad2 S).1 hzk
        replace hnx := Nat.le_trans hnx hx1
        rw [zxc_A]
        exact l_madeA (Nat.le_of_ble_eq_true rfl) (Nat.le_of_ble_eq_true rfl) (by decide) S he
      rw [if_pos hri] at hrv
      subst hrv
      have hwc := hwc hri
      by_cases hn14 : nt.length = 14
      · have hzk : zk_source nt.length (nI fv) = 2 := by
          rw [zk_source, if_neg (by
            rintro (w | w)
            · exact nI_nlt (a := fv) (b := 1) (by omega) (by omega) w
            · exact nI_nlt (a := 4) (b := fv) (by omega) (by omega) w), if_pos hn14]
        refine z_iload dL_isMade_421 rfl ?_
        refine z_if_ne (tgt := 431) dL_isMade_423 (by decide) (fun _ => ?_) (fun q_9 => absurd q_9 (((by decide))))
        refine z_iload dL_isMade_431 rfl ?_
        refine z_if_ne (tgt := 441) dL_isMade_433 (by decide) (fun _ => ?_) (fun q_9 => absurd q_9 (((by decide))))
        refine z_aload dL_isMade_441 rfl ?_
        refine z_iconst (v := 0) dL_isMade_443 (by decide) ?_
        refine z_gr dL_isMade_444 S (i := 0) (by decide) hg0 ?_
        refine z_bipush (v := 14) dL_isMade_445 (by decide) ?_
        refine z_icmp_eq (tgt := 465) dL_isMade_447 (by decide) (fun _ => ?_) (fun q_9 => absurd (((by rw [hn14]; rfl))) q_9)
        refine z_bipush (v := (-10)) dL_isMade_465 (by decide) ?_
        refine z_goto (tgt := 474) dL_isMade_467 (by decide) ?_
        refine z_istore dL_isMade_474 (by decide) ?_
        refine z_aload_n dL_isMade_476 rfl ?_
        refine z_iload dL_isMade_477 rfl ?_
        refine z_iload dL_isMade_479 rfl ?_
        refine z_iload dL_isMade_481 rfl ?_
        refine z_iconst (v := 2) dL_isMade_483 (by decide) ?_
        refine z_icmp_ne (tgt := 492) dL_isMade_484 (by decide) (fun _ => ?_) (fun q_9 => absurd q_9 (((by decide))))
        refine z_iload dL_isMade_492 rfl ?_
        refine z_iload dL_isMade_494 rfl ?_
        refine z_callH dL_isMade_496 ch_L_171 (w_makes_source hG hnx S) rfl rfl ⟨(Nat.le_of_ble_eq_true rfl), (Nat.le_of_ble_eq_true rfl)⟩ (Nat.le_of_ble_eq_true rfl) (Nat.le_of_ble_eq_true rfl) (Nat.le_of_ble_eq_true rfl) (fun v σ1 nx1 hx1 hq1 => ?_)
        obtain ⟨rfl, S⟩ := (hq1.bad2 S).2 hzk
        replace hnx := Nat.le_trans hnx hx1
        rw [zxc_S]
        exact l_madeA (Nat.le_of_ble_eq_true rfl) (Nat.le_of_ble_eq_true rfl) (by decide) S he
      have hzk : zk_source nt.length (nI fv) = 0 := by
        rw [zk_source, if_neg (by
          rintro (w | w)
          · exact nI_nlt (a := fv) (b := 1) (by omega) (by omega) w
          · exact nI_nlt (a := 4) (b := fv) (by omega) (by omega) w), if_neg hn14]
      refine z_iload dL_isMade_421 rfl ?_
      refine z_if_ne (tgt := 431) dL_isMade_423 (by decide) (fun _ => ?_) (fun q_9 => absurd q_9 (((by decide))))
      refine z_iload dL_isMade_431 rfl ?_
      refine z_if_ne (tgt := 441) dL_isMade_433 (by decide) (fun _ => ?_) (fun q_9 => absurd q_9 (((by decide))))
      refine z_aload dL_isMade_441 rfl ?_
      refine z_iconst (v := 0) dL_isMade_443 (by decide) ?_
      refine z_gr dL_isMade_444 S (i := 0) (by decide) hg0 ?_
      refine z_bipush (v := 14) dL_isMade_445 (by decide) ?_
      refine z_icmp_eq (tgt := 465) dL_isMade_447 (by decide) (fun q_9 => absurd q_9 (((fun w => hn14 ((nI_eq (b := 14) (by omega) (by decide)).mp w))))) (fun _ => ?_)
      refine z_iload dL_isMade_450 rfl ?_
      refine z_sipush (v := 300) dL_isMade_452 (by decide) ?_
      refine z_icmp_gt (tgt := 465) dL_isMade_455 (by decide) (fun q_9 => absurd q_9 (((by decide)))) (fun _ => ?_)
      refine z_iload dL_isMade_458 rfl ?_
      refine z_bipush (v := 8) dL_isMade_460 (by decide) ?_
      refine z_icmp_le (tgt := 470) dL_isMade_462 (by decide) (fun _ => ?_) (fun q_9 => absurd (((by rw [hwn]; exact nI_le (b := 8) (by omega) (by decide)))) q_9)
      refine z_aload dL_isMade_470 rfl ?_
      refine z_iconst (v := 0) dL_isMade_472 (by decide) ?_
      refine z_gr dL_isMade_473 S (i := 0) (by decide) hg0 ?_
      refine z_istore dL_isMade_474 (by decide) ?_
      refine z_aload_n dL_isMade_476 rfl ?_
      refine z_iload dL_isMade_477 rfl ?_
      refine z_iload dL_isMade_479 rfl ?_
      refine z_iload dL_isMade_481 rfl ?_
      refine z_iconst (v := 2) dL_isMade_483 (by decide) ?_
      refine z_icmp_ne (tgt := 492) dL_isMade_484 (by decide) (fun _ => ?_) (fun q_9 => absurd q_9 (((by decide))))
      refine z_iload dL_isMade_492 rfl ?_
      refine z_iload dL_isMade_494 rfl ?_
      refine z_callH dL_isMade_496 ch_L_171 (w_makes_source hG hnx S) rfl rfl ⟨(Nat.le_of_ble_eq_true rfl), (Nat.le_of_ble_eq_true rfl)⟩ (Nat.le_of_ble_eq_true rfl) (Nat.le_of_ble_eq_true rfl) (Nat.le_of_ble_eq_true rfl) (fun v σ1 nx1 hx1 hq1 => ?_)
      obtain ⟨u', w, rfl, hP, hT, hF⟩ := hq1.good rfl hzk
      replace hnx := Nat.le_trans hnx hx1
      have ok' := o_source S.2.1 hzk hP hT
      obtain ⟨rfl, e, ek, eD, eR, rfl⟩ := hP
      have S' : zVs G σ1 b (nt ++ [e], lim, mem, wk, slow, r, L, A, tk, sp, cs) R := ⟨hT, ok', S.2.2.fr hF⟩
      refine l_madeB hG (Nat.le_of_ble_eq_true rfl) (Nat.le_of_ble_eq_true rfl) (by decide) (by omega) S' hL he ek ?_
      rw [eD]
      exact ⟨rfl, hwc.2.symm, rfl, fun _ => rfl, (fun w => absurd w (by decide)), (fun w => absurd w (by decide)), (fun w => absurd w (by decide)), (fun w => absurd w (by decide)), (fun w => absurd w (by decide)), (fun w => absurd w (by decide)), (fun w => absurd w (by decide))⟩
    refine z_iload dL_isMade_269 rfl ?_
    refine z_if_ne (tgt := 278) dL_isMade_271 (by decide) (fun _ => ?_) (fun q_9 => absurd q_9 (((by decide))))
    refine z_iload dL_isMade_278 rfl ?_
    refine z_if_ne (tgt := 288) dL_isMade_280 (by decide) (fun q_9 => absurd ((rfl)) q_9) (fun _ => ?_)
    refine z_bipush (v := 12) dL_isMade_283 (by decide) ?_
    refine z_goto (tgt := 333) dL_isMade_285 (by decide) ?_
    refine z_istore dL_isMade_333 (by decide) ?_
    refine z_iload dL_isMade_335 rfl ?_
    refine z_if_ne (tgt := 344) dL_isMade_337 (by decide) (fun _ => ?_) (fun q_9 => absurd q_9 (((by decide))))
    refine z_iload dL_isMade_344 rfl ?_
    refine z_if_ne (tgt := 354) dL_isMade_346 (by decide) (fun q_9 => absurd ((rfl)) q_9) (fun _ => ?_)
    refine z_iload dL_isMade_349 rfl ?_
    refine z_goto (tgt := 419) dL_isMade_351 (by decide) ?_
    refine z_istore dL_isMade_419 (by decide) ?_
    exact due _ _ fv rfl rfl (by omega) (fun w => ⟨by omega, rfl⟩)
  have right : ∀ tv : Int32, (zWP G kL_isMade (zFM G kL_isMade.2.2.2.1 (zSt2 G b)) 269 (zMl b x1 x2 x3 [some (.int (nI 0)), some (.int (nI fv)), some (.int (nI s1)), some (.int z), some (.int low), some (.int tv), some (.int (if 0 < fv ∧ fv < 5 then 1 else 0)), none, none, none, none]) [] σ nx 0 0) → zWP G kL_isMade (zFM G kL_isMade.2.2.2.1 (zSt2 G b)) 159 (zMl b x1 x2 x3 [some (.int (nI 0)), some (.int (nI fv)), some (.int (nI s1)), some (.int z), some (.int low), some (.int tv), none, none, none, none, none]) [] σ nx 0 0 := by
    intro tv kk
    by_cases c1 : 0 < fv
    · by_cases c2 : fv < 5
      · rw [if_pos ⟨c1, c2⟩] at kk
        refine z_iload dL_isMade_159 rfl ?_
        refine z_if_ne (tgt := 183) dL_isMade_161 (by decide) (fun q_9 => absurd ((rfl)) q_9) (fun _ => ?_)
        refine z_iload dL_isMade_164 rfl ?_
        refine z_if_le (tgt := 179) dL_isMade_166 (by decide) (fun q_9 => absurd q_9 (((show ¬ nI fv ≤ nI 0 from nI_ge c1 (by omega))))) (fun _ => ?_)
        refine z_iload dL_isMade_169 rfl ?_
        refine z_iconst (v := 5) dL_isMade_171 (by decide) ?_
        refine z_icmp_ge (tgt := 179) dL_isMade_172 (by decide) (fun q_9 => absurd q_9 (((show ¬ nI 5 ≤ nI fv from nI_ge c2 (by omega))))) (fun _ => ?_)
        refine z_iconst (v := 1) dL_isMade_175 (by decide) ?_
        refine z_goto (tgt := 267) dL_isMade_176 (by decide) ?_
        refine z_istore dL_isMade_267 (by decide) ?_
        exact kk
      · rw [if_neg (fun w => c2 w.2)] at kk
        refine z_iload dL_isMade_159 rfl ?_
        refine z_if_ne (tgt := 183) dL_isMade_161 (by decide) (fun q_9 => absurd ((rfl)) q_9) (fun _ => ?_)
        refine z_iload dL_isMade_164 rfl ?_
        refine z_if_le (tgt := 179) dL_isMade_166 (by decide) (fun q_9 => absurd q_9 (((show ¬ nI fv ≤ nI 0 from nI_ge c1 (by omega))))) (fun _ => ?_)
        refine z_iload dL_isMade_169 rfl ?_
        refine z_iconst (v := 5) dL_isMade_171 (by decide) ?_
        refine z_icmp_ge (tgt := 179) dL_isMade_172 (by decide) (fun _ => ?_) (fun q_9 => absurd (((show nI 5 ≤ nI fv from nI_le (by omega) (by omega)))) q_9)
        refine z_iconst (v := 0) dL_isMade_179 (by decide) ?_
        refine z_goto (tgt := 267) dL_isMade_180 (by decide) ?_
        refine z_istore dL_isMade_267 (by decide) ?_
        exact kk
    · rw [if_neg (fun w => c1 w.1)] at kk
      refine z_iload dL_isMade_159 rfl ?_
      refine z_if_ne (tgt := 183) dL_isMade_161 (by decide) (fun q_9 => absurd ((rfl)) q_9) (fun _ => ?_)
      refine z_iload dL_isMade_164 rfl ?_
      refine z_if_le (tgt := 179) dL_isMade_166 (by decide) (fun _ => ?_) (fun q_9 => absurd (((show nI fv ≤ nI 0 from nI_le (by omega) (by omega)))) q_9)
      refine z_iconst (v := 0) dL_isMade_179 (by decide) ?_
      refine z_goto (tgt := 267) dL_isMade_180 (by decide) ?_
      refine z_istore dL_isMade_267 (by decide) ?_
      exact kk
  refine z_iload dL_isMade_0 rfl ?_
  refine z_bipush (v := 6) dL_isMade_2 (by decide) ?_
  refine z_irem dL_isMade_4 (by decide) ?_
  rw [hq6]
  refine z_istore dL_isMade_5 (by decide) ?_
  refine z_iload dL_isMade_7 rfl ?_
  refine z_bipush (v := 6) dL_isMade_9 (by decide) ?_
  refine z_idiv dL_isMade_11 (by decide) ?_
  rw [hd6]
  refine z_aload dL_isMade_12 rfl ?_
  refine z_iconst (v := 0) dL_isMade_14 (by decide) ?_
  refine z_gr dL_isMade_15 S (i := 0) (by decide) hg0 ?_
  refine z_iconst (v := 1) dL_isMade_16 (by decide) ?_
  refine z_iadd dL_isMade_17 ?_
  rw [nI_1]
  refine z_irem dL_isMade_18 hne ?_
  rw [hf9]
  refine z_istore dL_isMade_19 (by decide) ?_
  refine z_iload dL_isMade_21 rfl ?_
  refine z_iconst (v := 3) dL_isMade_23 (by decide) ?_
  refine z_icmp_eq (tgt := 33) dL_isMade_24 (by decide) (fun q_9 => absurd q_9 (((by decide)))) (fun _ => ?_)
  refine z_iload dL_isMade_27 rfl ?_
  refine z_iconst (v := 5) dL_isMade_29 (by decide) ?_
  refine z_icmp_ne (tgt := 45) dL_isMade_30 (by decide) (fun _ => ?_) (fun q_9 => absurd q_9 (((by decide))))
  refine z_iload dL_isMade_45 rfl ?_
  refine z_bipush (v := 6) dL_isMade_47 (by decide) ?_
  refine z_irem dL_isMade_49 (by decide) ?_
  rw [hs1]
  refine z_istore dL_isMade_50 (by decide) ?_
  refine z_iload dL_isMade_52 rfl ?_
  refine z_iconst (v := 2) dL_isMade_54 (by decide) ?_
  refine z_icmp_ne (tgt := 69) dL_isMade_55 (by decide) (fun _ => ?_) (fun q_9 => absurd q_9 (((by decide))))
  refine z_iload dL_isMade_69 rfl ?_
  refine z_iconst (v := 1) dL_isMade_71 (by decide) ?_
  refine z_icmp_ne (tgt := 85) dL_isMade_72 (by decide) (fun _ => ?_) (fun q_9 => absurd q_9 (((by decide))))
  refine z_iload dL_isMade_85 rfl ?_
  refine z_bipush (v := 6) dL_isMade_87 (by decide) ?_
  refine z_irem dL_isMade_89 (by decide) ?_
  rw [ht1, ← hz]
  refine z_istore dL_isMade_90 (by decide) ?_
  refine z_iload dL_isMade_92 rfl ?_
  refine z_if_ne (tgt := 107) dL_isMade_94 (by decide) (fun q_9 => absurd ((rfl)) q_9) (fun _ => ?_)
  refine z_iload dL_isMade_97 rfl ?_
  refine z_bipush (v := 6) dL_isMade_99 (by decide) ?_
  refine z_idiv dL_isMade_101 (by decide) ?_
  rw [hd6]
  refine z_bipush (v := 6) dL_isMade_102 (by decide) ?_
  refine z_irem dL_isMade_104 (by decide) ?_
  rw [hf1]
  refine z_istore dL_isMade_105 (by decide) ?_
  refine z_iload dL_isMade_107 rfl ?_
  refine z_bipush (v := 40) dL_isMade_109 (by decide) ?_
  refine z_irem dL_isMade_111 (by decide) ?_
  refine z_bipush (v := 20) dL_isMade_112 (by decide) ?_
  refine z_isub dL_isMade_114 ?_
  rw [← hlow]
  refine z_istore dL_isMade_115 (by decide) ?_
  refine z_iload dL_isMade_117 rfl ?_
  refine z_if_eq (tgt := 152) dL_isMade_119 (by decide) (fun _ => ?_) (fun q_9 => absurd ((rfl)) q_9)
  refine z_iconst (v := 1) dL_isMade_152 (by decide) ?_
  refine z_goto (tgt := 157) dL_isMade_153 (by decide) ?_
  refine z_istore dL_isMade_157 (by decide) ?_
  exact right 1 (hthere trivial)
set_option maxRecDepth 100000 in
set_option maxHeartbeats 8000000 in
theorem l_made1 {x1 x2 x3 : Nat} (hG : zKap G) (hnx : b + 82 ≤ nx) (S : zVs G σ b (nt, lim, mem, wk, slow, r, L, A, tk, sp, cs) R) (he : zRe (nt, lim, mem, wk, slow, r, L, A, tk, sp, cs) R) (h1 : x1 < 2 ^ 31) (h2 : x2 < 2 ^ 31) (h3 : x3 < 2 ^ 31) (hwt : x1 % 6 = 1) : zWP G kL_isMade (zFM G kL_isMade.2.2.2.1 (zSt2 G b)) 0 (zMl b x1 x2 x3 [none, none, none, none, none, none, none, none, none, none, none]) [] σ nx 0 0 := by
  have h14 : nt.length ≤ 14 := S.2.1.2.2.1
  have hw : zWf nt := S.2.1.1
  obtain ⟨hr, hg0, -, -, -, -, -, -, -⟩ := id he
  have hL : ∀ q ∈ L, q.1 < nt.length := fun q hq => by
    obtain ⟨k, hk⟩ := List.getElem?_of_mem hq
    exact (S.2.1.2.2.2.2.2.2.2.2.2.1 k q hk).1
  have hne : ¬ nI (nt.length + 1) = 0 := fun w => absurd ((nI_eq (b := 0) (by omega) (by decide)).mp w) (Nat.succ_ne_zero _)
  have hq6 : nI x1 - nI x1 / 6 * 6 = nI 1 := by rw [← hwt]; exact pk_rem (d := 6) h1 (by decide) (by decide)
  have hd6 : nI x1 / 6 = nI (x1 / 6) := pk_div (d := 6) h1 (by decide) (by decide)
  obtain ⟨q, hq⟩ : ∃ q, q = x1 / 6 := ⟨_, rfl⟩
  rw [← hq] at hd6
  have hql : q < 2 ^ 31 := by omega
  have hf9 : nI q - nI q / nI (nt.length + 1) * nI (nt.length + 1) = nI (q % (nt.length + 1)) := pk_rem hql (Nat.succ_pos _) (by omega)
  obtain ⟨fv, hfv⟩ : ∃ fv, fv = q % (nt.length + 1) := ⟨_, rfl⟩
  have hfb : fv < nt.length + 1 := by rw [hfv]; exact Nat.mod_lt _ (Nat.succ_pos _)
  rw [← hfv] at hf9
  have hs1 : nI x2 - nI x2 / 6 * 6 = nI (x2 % 6) := pk_rem (d := 6) h2 (by decide) (by decide)
  obtain ⟨s1, hsv⟩ : ∃ s1, s1 = x2 % 6 := ⟨_, rfl⟩
  have hsb : s1 < 6 := by omega
  rw [← hsv] at hs1
  have ht1 : nI x3 - nI x3 / 12 * 12 = nI (x3 % 12) := pk_rem (d := 12) h3 (by decide) (by decide)
  obtain ⟨z, hz⟩ : ∃ z, z = nI (x3 % 12) - 3 := ⟨_, rfl⟩
  have hz8 : z ≤ nI 8 := by rw [hz]; exact zSub20 (Nat.mod_lt _ (by decide))
  obtain ⟨low, hlow⟩ : ∃ low, low = nI x2 - nI x2 / 40 * 40 - 20 := ⟨_, rfl⟩
  have hbf : fv < nt.length → _ := fun h => zNb hw hr h
  have hthere : fv < nt.length → zWP G kL_isMade (zFM G kL_isMade.2.2.2.1 (zSt2 G b)) 269 (zMl b x1 x2 x3 [some (.int (nI 1)), some (.int (nI fv)), some (.int (nI s1)), some (.int z), some (.int low), some (.int 1), some (.int (if s1 < 5 ∧ (s1 ≠ 3 ∨ ¬ z ≤ 0) then 1 else 0)), none, none, none, none]) [] σ nx 0 0 := by
    intro hth
    have hfn := hth
    obtain ⟨b4, b5, b3, b6, b7, b8, b9⟩ := hbf hfn
    have due : ∀ (rv ww : Int32) (wn : Nat), rv = (if s1 < 5 ∧ (s1 ≠ 3 ∨ ¬ z ≤ 0) then 1 else 0) → ww = nI wn → wn ≤ 16 → (s1 < 5 ∧ (s1 ≠ 3 ∨ ¬ z ≤ 0) → wn ≤ 8 ∧ ww = nI (zw (nt.getD fv zdf))) → zWP G kL_isMade (zFM G kL_isMade.2.2.2.1 (zSt2 G b)) 421 (zMl b x1 x2 x3 [some (.int (nI 1)), some (.int (nI fv)), some (.int (nI s1)), some (.int z), some (.int low), some (.int 1), some (.int rv), some (.int (nI (zb (nt.getD fv zdf)))), some (.int ww), none, none]) [] σ nx 0 0 := by
      intro rv ww wn hrv hwn hwn16 hwc
      by_cases hri : s1 < 5 ∧ (s1 ≠ 3 ∨ ¬ z ≤ 0)
      rotate_left
      · rw [if_neg hri] at hrv
        subst hrv
        have hzk : zk_map nt.length (nI fv) (nI s1) z = 2 := by
          rw [zk_map, if_neg (znob_in (by omega) hfn), if_pos (by
            rcases Nat.lt_or_ge s1 5 with w | w
            · by_cases w3 : s1 = 3
              · right; right
                refine ⟨by rw [w3]; rfl, zneg1 ?_⟩
                by_cases w0 : z ≤ 0
                · exact w0
                · exact absurd ⟨w, Or.inr w0⟩ hri
              · exact absurd ⟨w, Or.inl w3⟩ hri
            · right; left; exact nI_lt (a := 4) (by omega) (by omega))]
        refine z_iload dL_isMade_421 rfl ?_
        refine z_if_ne (tgt := 431) dL_isMade_423 (by decide) (fun _ => ?_) (fun q_9 => absurd q_9 (((by decide))))
        refine z_iload dL_isMade_431 rfl ?_
        refine z_if_ne (tgt := 441) dL_isMade_433 (by decide) (fun q_9 => absurd ((rfl)) q_9) (fun _ => ?_)
        refine z_bipush (v := (-20)) dL_isMade_436 (by decide) ?_
        refine z_goto (tgt := 474) dL_isMade_438 (by decide) ?_
        refine z_istore dL_isMade_474 (by decide) ?_
        refine z_aload_n dL_isMade_476 rfl ?_
        refine z_iload dL_isMade_477 rfl ?_
        refine z_iload dL_isMade_479 rfl ?_
        refine z_iload dL_isMade_481 rfl ?_
        refine z_iconst (v := 2) dL_isMade_483 (by decide) ?_
        refine z_icmp_ne (tgt := 492) dL_isMade_484 (by decide) (fun _ => ?_) (fun q_9 => absurd q_9 (((by decide))))
        refine z_iload dL_isMade_492 rfl ?_
        refine z_iload dL_isMade_494 rfl ?_
        refine z_callH dL_isMade_496 ch_L_171 (w_makes_map hG hnx S) rfl rfl ⟨(Nat.le_of_ble_eq_true rfl), (Nat.le_of_ble_eq_true rfl)⟩ (Nat.le_of_ble_eq_true rfl) (Nat.le_of_ble_eq_true rfl) (Nat.le_of_ble_eq_true rfl) (fun v σ1 nx1 hx1 hq1 => ?_)
        obtain ⟨rfl, S⟩ := (hq1.bad3 S).2.1 hzk
        replace hnx := Nat.le_trans hnx hx1
        rw [zxc_A]
        exact l_madeA (Nat.le_of_ble_eq_true rfl) (Nat.le_of_ble_eq_true rfl) (by decide) S he
      rw [if_pos hri] at hrv
      subst hrv
      have hwc := hwc hri
      by_cases hn14 : nt.length = 14
      · have hzk : zk_map nt.length (nI fv) (nI s1) z = 3 := by
          rw [zk_map, if_neg (znob_in (by omega) hfn), if_neg (by
            rintro (w | w | ⟨w, w2⟩)
            · exact nI_pos (by omega) w
            · exact nI_nlt (a := 4) (b := s1) (by omega) (by omega) w
            · rcases hri.2 with y | y
              · exact y ((nI_eq (b := 3) (by omega) (by decide)).mp w)
              · exact zpos1 y w2), if_pos hn14]
        refine z_iload dL_isMade_421 rfl ?_
        refine z_if_ne (tgt := 431) dL_isMade_423 (by decide) (fun _ => ?_) (fun q_9 => absurd q_9 (((by decide))))
        refine z_iload dL_isMade_431 rfl ?_
        refine z_if_ne (tgt := 441) dL_isMade_433 (by decide) (fun _ => ?_) (fun q_9 => absurd q_9 (((by decide))))
        refine z_aload dL_isMade_441 rfl ?_
        refine z_iconst (v := 0) dL_isMade_443 (by decide) ?_
        refine z_gr dL_isMade_444 S (i := 0) (by decide) hg0 ?_
        refine z_bipush (v := 14) dL_isMade_445 (by decide) ?_
        refine z_icmp_eq (tgt := 465) dL_isMade_447 (by decide) (fun _ => ?_) (fun q_9 => absurd (((by rw [hn14]; rfl))) q_9)
        refine z_bipush (v := (-10)) dL_isMade_465 (by decide) ?_
        refine z_goto (tgt := 474) dL_isMade_467 (by decide) ?_
        refine z_istore dL_isMade_474 (by decide) ?_
        refine z_aload_n dL_isMade_476 rfl ?_
        refine z_iload dL_isMade_477 rfl ?_
        refine z_iload dL_isMade_479 rfl ?_
        refine z_iload dL_isMade_481 rfl ?_
        refine z_iconst (v := 2) dL_isMade_483 (by decide) ?_
        refine z_icmp_ne (tgt := 492) dL_isMade_484 (by decide) (fun _ => ?_) (fun q_9 => absurd q_9 (((by decide))))
        refine z_iload dL_isMade_492 rfl ?_
        refine z_iload dL_isMade_494 rfl ?_
        refine z_callH dL_isMade_496 ch_L_171 (w_makes_map hG hnx S) rfl rfl ⟨(Nat.le_of_ble_eq_true rfl), (Nat.le_of_ble_eq_true rfl)⟩ (Nat.le_of_ble_eq_true rfl) (Nat.le_of_ble_eq_true rfl) (Nat.le_of_ble_eq_true rfl) (fun v σ1 nx1 hx1 hq1 => ?_)
        obtain ⟨rfl, S⟩ := (hq1.bad3 S).2.2 hzk
        replace hnx := Nat.le_trans hnx hx1
        rw [zxc_S]
        exact l_madeA (Nat.le_of_ble_eq_true rfl) (Nat.le_of_ble_eq_true rfl) (by decide) S he
      have hzk : zk_map nt.length (nI fv) (nI s1) z = 0 := by
        rw [zk_map, if_neg (znob_in (by omega) hfn), if_neg (by
          rintro (w | w | ⟨w, w2⟩)
          · exact nI_pos (by omega) w
          · exact nI_nlt (a := 4) (b := s1) (by omega) (by omega) w
          · rcases hri.2 with y | y
            · exact y ((nI_eq (b := 3) (by omega) (by decide)).mp w)
            · exact zpos1 y w2), if_neg hn14]
      refine z_iload dL_isMade_421 rfl ?_
      refine z_if_ne (tgt := 431) dL_isMade_423 (by decide) (fun _ => ?_) (fun q_9 => absurd q_9 (((by decide))))
      refine z_iload dL_isMade_431 rfl ?_
      refine z_if_ne (tgt := 441) dL_isMade_433 (by decide) (fun _ => ?_) (fun q_9 => absurd q_9 (((by decide))))
      refine z_aload dL_isMade_441 rfl ?_
      refine z_iconst (v := 0) dL_isMade_443 (by decide) ?_
      refine z_gr dL_isMade_444 S (i := 0) (by decide) hg0 ?_
      refine z_bipush (v := 14) dL_isMade_445 (by decide) ?_
      refine z_icmp_eq (tgt := 465) dL_isMade_447 (by decide) (fun q_9 => absurd q_9 (((fun w => hn14 ((nI_eq (b := 14) (by omega) (by decide)).mp w))))) (fun _ => ?_)
      refine z_iload dL_isMade_450 rfl ?_
      refine z_sipush (v := 300) dL_isMade_452 (by decide) ?_
      refine z_icmp_gt (tgt := 465) dL_isMade_455 (by decide) (fun q_9 => absurd q_9 (((show ¬ nI 300 < nI _ from nI_nlt (by omega) (by omega))))) (fun _ => ?_)
      refine z_iload dL_isMade_458 rfl ?_
      refine z_bipush (v := 8) dL_isMade_460 (by decide) ?_
      refine z_icmp_le (tgt := 470) dL_isMade_462 (by decide) (fun _ => ?_) (fun q_9 => absurd (((by rw [hwn]; exact nI_le (b := 8) (by omega) (by decide)))) q_9)
      refine z_aload dL_isMade_470 rfl ?_
      refine z_iconst (v := 0) dL_isMade_472 (by decide) ?_
      refine z_gr dL_isMade_473 S (i := 0) (by decide) hg0 ?_
      refine z_istore dL_isMade_474 (by decide) ?_
      refine z_aload_n dL_isMade_476 rfl ?_
      refine z_iload dL_isMade_477 rfl ?_
      refine z_iload dL_isMade_479 rfl ?_
      refine z_iload dL_isMade_481 rfl ?_
      refine z_iconst (v := 2) dL_isMade_483 (by decide) ?_
      refine z_icmp_ne (tgt := 492) dL_isMade_484 (by decide) (fun _ => ?_) (fun q_9 => absurd q_9 (((by decide))))
      refine z_iload dL_isMade_492 rfl ?_
      refine z_iload dL_isMade_494 rfl ?_
      refine z_callH dL_isMade_496 ch_L_171 (w_makes_map hG hnx S) rfl rfl ⟨(Nat.le_of_ble_eq_true rfl), (Nat.le_of_ble_eq_true rfl)⟩ (Nat.le_of_ble_eq_true rfl) (Nat.le_of_ble_eq_true rfl) (Nat.le_of_ble_eq_true rfl) (fun v σ1 nx1 hx1 hq1 => ?_)
      obtain ⟨u', w, rfl, hP, hT, hF⟩ := hq1.good rfl hzk
      replace hnx := Nat.le_trans hnx hx1
      have ok' := o_map S.2.1 hzk hP hT
      obtain ⟨rfl, e, ek, eD, eR, rfl⟩ := hP
      have S' : zVs G σ1 b (nt ++ [e], lim, mem, wk, slow, r, L, A, tk, sp, cs) R := ⟨hT, ok', S.2.2.fr hF⟩
      refine l_madeB hG (Nat.le_of_ble_eq_true rfl) (Nat.le_of_ble_eq_true rfl) (by decide) (by omega) S' hL he ek ?_
      rw [eD]
      rw [nI_clamp (show fv < 2 ^ 31 by omega)]
      exact ⟨b3, b6.trans hwc.2.symm, rfl, (fun w => absurd w (by decide)), fun _ => rfl, fun _ => ⟨rfl, rfl⟩, (fun w => absurd w (by decide)), (fun w => absurd w (by decide)), (fun w => absurd w (by decide)), (fun w => absurd w (by decide)), fun _ => hz8⟩
    refine z_iload dL_isMade_269 rfl ?_
    refine z_if_ne (tgt := 278) dL_isMade_271 (by decide) (fun _ => ?_) (fun q_9 => absurd q_9 (((by decide))))
    refine z_iload dL_isMade_278 rfl ?_
    refine z_if_ne (tgt := 288) dL_isMade_280 (by decide) (fun _ => ?_) (fun q_9 => absurd q_9 (((by decide))))
    refine z_iload dL_isMade_288 rfl ?_
    refine z_iconst (v := 3) dL_isMade_290 (by decide) ?_
    refine z_icmp_ne (tgt := 308) dL_isMade_291 (by decide) (fun _ => ?_) (fun q_9 => absurd q_9 (((by decide))))
    refine z_iload dL_isMade_308 rfl ?_
    refine z_iconst (v := 5) dL_isMade_310 (by decide) ?_
    refine z_icmp_ne (tgt := 328) dL_isMade_311 (by decide) (fun _ => ?_) (fun q_9 => absurd q_9 (((by decide))))
    refine z_aload dL_isMade_328 rfl ?_
    refine z_iload dL_isMade_330 rfl ?_
    refine z_ar dL_isMade_332 S (by decide) (by omega) b4 ?_
    refine z_istore dL_isMade_333 (by decide) ?_
    refine z_iload dL_isMade_335 rfl ?_
    refine z_if_ne (tgt := 344) dL_isMade_337 (by decide) (fun _ => ?_) (fun q_9 => absurd q_9 (((by decide))))
    refine z_iload dL_isMade_344 rfl ?_
    refine z_if_ne (tgt := 354) dL_isMade_346 (by decide) (fun _ => ?_) (fun q_9 => absurd q_9 (((by decide))))
    refine z_iload dL_isMade_354 rfl ?_
    refine z_iconst (v := 3) dL_isMade_356 (by decide) ?_
    refine z_icmp_ne (tgt := 374) dL_isMade_357 (by decide) (fun _ => ?_) (fun q_9 => absurd q_9 (((by decide))))
    refine z_iload dL_isMade_374 rfl ?_
    refine z_iconst (v := 4) dL_isMade_376 (by decide) ?_
    refine z_icmp_ne (tgt := 385) dL_isMade_377 (by decide) (fun _ => ?_) (fun q_9 => absurd q_9 (((by decide))))
    refine z_iload dL_isMade_385 rfl ?_
    refine z_iconst (v := 5) dL_isMade_387 (by decide) ?_
    refine z_icmp_ne (tgt := 414) dL_isMade_388 (by decide) (fun _ => ?_) (fun q_9 => absurd q_9 (((by decide))))
    refine z_aload dL_isMade_414 rfl ?_
    refine z_iload dL_isMade_416 rfl ?_
    refine z_ar dL_isMade_418 S (by decide) (by omega) b5 ?_
    refine z_istore dL_isMade_419 (by decide) ?_
    exact due _ _ (zw (nt.getD fv zdf)) rfl rfl (by omega) (fun _ => ⟨b9, rfl⟩)
  have hnot : ∀ rv : Int32, ¬ (fv < nt.length) → zWP G kL_isMade (zFM G kL_isMade.2.2.2.1 (zSt2 G b)) 269 (zMl b x1 x2 x3 [some (.int (nI 1)), some (.int (nI fv)), some (.int (nI s1)), some (.int z), some (.int low), some (.int 0), some (.int rv), none, none, none, none]) [] σ nx 0 0 := by
    intro rv hth
    have hzk : zk_map nt.length (nI fv) (nI s1) z = 1 := by
      rw [zk_map, if_pos (znob_no (Or.inr (nI_le (by omega) (by omega))))]
    refine z_iload dL_isMade_269 rfl ?_
    refine z_if_ne (tgt := 278) dL_isMade_271 (by decide) (fun q_9 => absurd ((rfl)) q_9) (fun _ => ?_)
    refine z_iconst (v := 0) dL_isMade_274 (by decide) ?_
    refine z_goto (tgt := 333) dL_isMade_275 (by decide) ?_
    refine z_istore dL_isMade_333 (by decide) ?_
    refine z_iload dL_isMade_335 rfl ?_
    refine z_if_ne (tgt := 344) dL_isMade_337 (by decide) (fun q_9 => absurd ((rfl)) q_9) (fun _ => ?_)
    refine z_iconst (v := 0) dL_isMade_340 (by decide) ?_
    refine z_goto (tgt := 419) dL_isMade_341 (by decide) ?_
    refine z_istore dL_isMade_419 (by decide) ?_
    refine z_iload dL_isMade_421 rfl ?_
    refine z_if_ne (tgt := 431) dL_isMade_423 (by decide) (fun q_9 => absurd ((rfl)) q_9) (fun _ => ?_)
    refine z_bipush (v := (-30)) dL_isMade_426 (by decide) ?_
    refine z_goto (tgt := 474) dL_isMade_428 (by decide) ?_
    refine z_istore dL_isMade_474 (by decide) ?_
    refine z_aload_n dL_isMade_476 rfl ?_
    refine z_iload dL_isMade_477 rfl ?_
    refine z_iload dL_isMade_479 rfl ?_
    refine z_iload dL_isMade_481 rfl ?_
    refine z_iconst (v := 2) dL_isMade_483 (by decide) ?_
    refine z_icmp_ne (tgt := 492) dL_isMade_484 (by decide) (fun _ => ?_) (fun q_9 => absurd q_9 (((by decide))))
    refine z_iload dL_isMade_492 rfl ?_
    refine z_iload dL_isMade_494 rfl ?_
    refine z_callH dL_isMade_496 ch_L_171 (w_makes_map hG hnx S) rfl rfl ⟨(Nat.le_of_ble_eq_true rfl), (Nat.le_of_ble_eq_true rfl)⟩ (Nat.le_of_ble_eq_true rfl) (Nat.le_of_ble_eq_true rfl) (Nat.le_of_ble_eq_true rfl) (fun v σ1 nx1 hx1 hq1 => ?_)
    obtain ⟨rfl, S⟩ := (hq1.bad3 S).1 hzk
    replace hnx := Nat.le_trans hnx hx1
    rw [zxc_I]
    exact l_madeA (Nat.le_of_ble_eq_true rfl) (Nat.le_of_ble_eq_true rfl) (by decide) S he
  have right : ∀ tv : Int32, (zWP G kL_isMade (zFM G kL_isMade.2.2.2.1 (zSt2 G b)) 269 (zMl b x1 x2 x3 [some (.int (nI 1)), some (.int (nI fv)), some (.int (nI s1)), some (.int z), some (.int low), some (.int tv), some (.int (if s1 < 5 ∧ (s1 ≠ 3 ∨ ¬ z ≤ 0) then 1 else 0)), none, none, none, none]) [] σ nx 0 0) → zWP G kL_isMade (zFM G kL_isMade.2.2.2.1 (zSt2 G b)) 159 (zMl b x1 x2 x3 [some (.int (nI 1)), some (.int (nI fv)), some (.int (nI s1)), some (.int z), some (.int low), some (.int tv), none, none, none, none, none]) [] σ nx 0 0 := by
    intro tv kk
    by_cases c1 : s1 < 5
    · by_cases c2 : s1 = 3
      · by_cases c3 : z ≤ 0
        · rw [if_neg (fun w => w.2.elim (fun y => y c2) (fun y => y c3))] at kk
          refine z_iload dL_isMade_159 rfl ?_
          refine z_if_ne (tgt := 183) dL_isMade_161 (by decide) (fun _ => ?_) (fun q_9 => absurd q_9 (((by decide))))
          refine z_iload dL_isMade_183 rfl ?_
          refine z_iconst (v := 1) dL_isMade_185 (by decide) ?_
          refine z_icmp_ne (tgt := 214) dL_isMade_186 (by decide) (fun q_9 => absurd ((rfl)) q_9) (fun _ => ?_)
          refine z_iload dL_isMade_189 rfl ?_
          refine z_iconst (v := 5) dL_isMade_191 (by decide) ?_
          refine z_icmp_ge (tgt := 210) dL_isMade_192 (by decide) (fun q_9 => absurd q_9 (((show ¬ nI 5 ≤ nI s1 from nI_ge c1 (by omega))))) (fun _ => ?_)
          refine z_iload dL_isMade_195 rfl ?_
          refine z_iconst (v := 3) dL_isMade_197 (by decide) ?_
          refine z_icmp_ne (tgt := 206) dL_isMade_198 (by decide) (fun q_9 => absurd (((by rw [c2]; rfl))) q_9) (fun _ => ?_)
          refine z_iload dL_isMade_201 rfl ?_
          refine z_if_le (tgt := 210) dL_isMade_203 (by decide) (fun _ => ?_) (fun q_9 => absurd ((c3)) q_9)
          refine z_iconst (v := 0) dL_isMade_210 (by decide) ?_
          refine z_goto (tgt := 267) dL_isMade_211 (by decide) ?_
          refine z_istore dL_isMade_267 (by decide) ?_
          exact kk
        · rw [if_pos ⟨c1, Or.inr c3⟩] at kk
          refine z_iload dL_isMade_159 rfl ?_
          refine z_if_ne (tgt := 183) dL_isMade_161 (by decide) (fun _ => ?_) (fun q_9 => absurd q_9 (((by decide))))
          refine z_iload dL_isMade_183 rfl ?_
          refine z_iconst (v := 1) dL_isMade_185 (by decide) ?_
          refine z_icmp_ne (tgt := 214) dL_isMade_186 (by decide) (fun q_9 => absurd ((rfl)) q_9) (fun _ => ?_)
          refine z_iload dL_isMade_189 rfl ?_
          refine z_iconst (v := 5) dL_isMade_191 (by decide) ?_
          refine z_icmp_ge (tgt := 210) dL_isMade_192 (by decide) (fun q_9 => absurd q_9 (((show ¬ nI 5 ≤ nI s1 from nI_ge c1 (by omega))))) (fun _ => ?_)
          refine z_iload dL_isMade_195 rfl ?_
          refine z_iconst (v := 3) dL_isMade_197 (by decide) ?_
          refine z_icmp_ne (tgt := 206) dL_isMade_198 (by decide) (fun q_9 => absurd (((by rw [c2]; rfl))) q_9) (fun _ => ?_)
          refine z_iload dL_isMade_201 rfl ?_
          refine z_if_le (tgt := 210) dL_isMade_203 (by decide) (fun q_9 => absurd q_9 ((c3))) (fun _ => ?_)
          refine z_iconst (v := 1) dL_isMade_206 (by decide) ?_
          refine z_goto (tgt := 267) dL_isMade_207 (by decide) ?_
          refine z_istore dL_isMade_267 (by decide) ?_
          exact kk
      · rw [if_pos ⟨c1, Or.inl c2⟩] at kk
        refine z_iload dL_isMade_159 rfl ?_
        refine z_if_ne (tgt := 183) dL_isMade_161 (by decide) (fun _ => ?_) (fun q_9 => absurd q_9 (((by decide))))
        refine z_iload dL_isMade_183 rfl ?_
        refine z_iconst (v := 1) dL_isMade_185 (by decide) ?_
        refine z_icmp_ne (tgt := 214) dL_isMade_186 (by decide) (fun q_9 => absurd ((rfl)) q_9) (fun _ => ?_)
        refine z_iload dL_isMade_189 rfl ?_
        refine z_iconst (v := 5) dL_isMade_191 (by decide) ?_
        refine z_icmp_ge (tgt := 210) dL_isMade_192 (by decide) (fun q_9 => absurd q_9 (((show ¬ nI 5 ≤ nI s1 from nI_ge c1 (by omega))))) (fun _ => ?_)
        refine z_iload dL_isMade_195 rfl ?_
        refine z_iconst (v := 3) dL_isMade_197 (by decide) ?_
        refine z_icmp_ne (tgt := 206) dL_isMade_198 (by decide) (fun _ => ?_) (fun q_9 => absurd q_9 (((fun w => c2 ((nI_eq (b := 3) (by omega) (by decide)).mp w)))))
        refine z_iconst (v := 1) dL_isMade_206 (by decide) ?_
        refine z_goto (tgt := 267) dL_isMade_207 (by decide) ?_
        refine z_istore dL_isMade_267 (by decide) ?_
        exact kk
    · rw [if_neg (fun w => c1 w.1)] at kk
      refine z_iload dL_isMade_159 rfl ?_
      refine z_if_ne (tgt := 183) dL_isMade_161 (by decide) (fun _ => ?_) (fun q_9 => absurd q_9 (((by decide))))
      refine z_iload dL_isMade_183 rfl ?_
      refine z_iconst (v := 1) dL_isMade_185 (by decide) ?_
      refine z_icmp_ne (tgt := 214) dL_isMade_186 (by decide) (fun q_9 => absurd ((rfl)) q_9) (fun _ => ?_)
      refine z_iload dL_isMade_189 rfl ?_
      refine z_iconst (v := 5) dL_isMade_191 (by decide) ?_
      refine z_icmp_ge (tgt := 210) dL_isMade_192 (by decide) (fun _ => ?_) (fun q_9 => absurd (((show nI 5 ≤ nI s1 from nI_le (by omega) (by omega)))) q_9)
      refine z_iconst (v := 0) dL_isMade_210 (by decide) ?_
      refine z_goto (tgt := 267) dL_isMade_211 (by decide) ?_
      refine z_istore dL_isMade_267 (by decide) ?_
      exact kk
  refine z_iload dL_isMade_0 rfl ?_
  refine z_bipush (v := 6) dL_isMade_2 (by decide) ?_
  refine z_irem dL_isMade_4 (by decide) ?_
  rw [hq6]
  refine z_istore dL_isMade_5 (by decide) ?_
  refine z_iload dL_isMade_7 rfl ?_
  refine z_bipush (v := 6) dL_isMade_9 (by decide) ?_
  refine z_idiv dL_isMade_11 (by decide) ?_
  rw [hd6]
  refine z_aload dL_isMade_12 rfl ?_
  refine z_iconst (v := 0) dL_isMade_14 (by decide) ?_
  refine z_gr dL_isMade_15 S (i := 0) (by decide) hg0 ?_
  refine z_iconst (v := 1) dL_isMade_16 (by decide) ?_
  refine z_iadd dL_isMade_17 ?_
  rw [nI_1]
  refine z_irem dL_isMade_18 hne ?_
  rw [hf9]
  refine z_istore dL_isMade_19 (by decide) ?_
  refine z_iload dL_isMade_21 rfl ?_
  refine z_iconst (v := 3) dL_isMade_23 (by decide) ?_
  refine z_icmp_eq (tgt := 33) dL_isMade_24 (by decide) (fun q_9 => absurd q_9 (((by decide)))) (fun _ => ?_)
  refine z_iload dL_isMade_27 rfl ?_
  refine z_iconst (v := 5) dL_isMade_29 (by decide) ?_
  refine z_icmp_ne (tgt := 45) dL_isMade_30 (by decide) (fun _ => ?_) (fun q_9 => absurd q_9 (((by decide))))
  refine z_iload dL_isMade_45 rfl ?_
  refine z_bipush (v := 6) dL_isMade_47 (by decide) ?_
  refine z_irem dL_isMade_49 (by decide) ?_
  rw [hs1]
  refine z_istore dL_isMade_50 (by decide) ?_
  refine z_iload dL_isMade_52 rfl ?_
  refine z_iconst (v := 2) dL_isMade_54 (by decide) ?_
  refine z_icmp_ne (tgt := 69) dL_isMade_55 (by decide) (fun _ => ?_) (fun q_9 => absurd q_9 (((by decide))))
  refine z_iload dL_isMade_69 rfl ?_
  refine z_iconst (v := 1) dL_isMade_71 (by decide) ?_
  refine z_icmp_ne (tgt := 85) dL_isMade_72 (by decide) (fun q_9 => absurd ((rfl)) q_9) (fun _ => ?_)
  refine z_iload dL_isMade_75 rfl ?_
  refine z_bipush (v := 12) dL_isMade_77 (by decide) ?_
  refine z_irem dL_isMade_79 (by decide) ?_
  rw [ht1]
  refine z_iconst (v := 3) dL_isMade_80 (by decide) ?_
  refine z_isub dL_isMade_81 ?_
  refine z_goto (tgt := 90) dL_isMade_82 (by decide) ?_
  rw [← hz]
  refine z_istore dL_isMade_90 (by decide) ?_
  refine z_iload dL_isMade_92 rfl ?_
  refine z_if_ne (tgt := 107) dL_isMade_94 (by decide) (fun _ => ?_) (fun q_9 => absurd q_9 (((by decide))))
  refine z_iload dL_isMade_107 rfl ?_
  refine z_bipush (v := 40) dL_isMade_109 (by decide) ?_
  refine z_irem dL_isMade_111 (by decide) ?_
  refine z_bipush (v := 20) dL_isMade_112 (by decide) ?_
  refine z_isub dL_isMade_114 ?_
  rw [← hlow]
  refine z_istore dL_isMade_115 (by decide) ?_
  by_cases hf : fv < nt.length
  · refine z_iload dL_isMade_117 rfl ?_
    refine z_if_eq (tgt := 152) dL_isMade_119 (by decide) (fun q_9 => absurd q_9 (((by decide)))) (fun _ => ?_)
    refine z_iload dL_isMade_122 rfl ?_
    refine z_aload dL_isMade_124 rfl ?_
    refine z_iconst (v := 0) dL_isMade_126 (by decide) ?_
    refine z_gr dL_isMade_127 S (i := 0) (by decide) hg0 ?_
    refine z_icmp_ge (tgt := 156) dL_isMade_128 (by decide) (fun q_9 => absurd q_9 ((nI_ge hf (by omega)))) (fun _ => ?_)
    refine z_iload dL_isMade_131 rfl ?_
    refine z_iconst (v := 3) dL_isMade_133 (by decide) ?_
    refine z_icmp_eq (tgt := 143) dL_isMade_134 (by decide) (fun q_9 => absurd q_9 (((by decide)))) (fun _ => ?_)
    refine z_iload dL_isMade_137 rfl ?_
    refine z_iconst (v := 5) dL_isMade_139 (by decide) ?_
    refine z_icmp_ne (tgt := 152) dL_isMade_140 (by decide) (fun _ => ?_) (fun q_9 => absurd q_9 (((by decide))))
    refine z_iconst (v := 1) dL_isMade_152 (by decide) ?_
    refine z_goto (tgt := 157) dL_isMade_153 (by decide) ?_
    refine z_istore dL_isMade_157 (by decide) ?_
    exact right 1 (hthere hf)
  · refine z_iload dL_isMade_117 rfl ?_
    refine z_if_eq (tgt := 152) dL_isMade_119 (by decide) (fun q_9 => absurd q_9 (((by decide)))) (fun _ => ?_)
    refine z_iload dL_isMade_122 rfl ?_
    refine z_aload dL_isMade_124 rfl ?_
    refine z_iconst (v := 0) dL_isMade_126 (by decide) ?_
    refine z_gr dL_isMade_127 S (i := 0) (by decide) hg0 ?_
    refine z_icmp_ge (tgt := 156) dL_isMade_128 (by decide) (fun _ => ?_) (fun q_9 => absurd ((nI_le (by omega) (by omega))) q_9)
    refine z_iconst (v := 0) dL_isMade_156 (by decide) ?_
    refine z_istore dL_isMade_157 (by decide) ?_
    exact right 0 (hnot _ hf)
set_option maxRecDepth 100000 in
set_option maxHeartbeats 8000000 in
theorem l_made2 {x1 x2 x3 : Nat} (hG : zKap G) (hnx : b + 82 ≤ nx) (S : zVs G σ b (nt, lim, mem, wk, slow, r, L, A, tk, sp, cs) R) (he : zRe (nt, lim, mem, wk, slow, r, L, A, tk, sp, cs) R) (h1 : x1 < 2 ^ 31) (h2 : x2 < 2 ^ 31) (h3 : x3 < 2 ^ 31) (hwt : x1 % 6 = 2) : zWP G kL_isMade (zFM G kL_isMade.2.2.2.1 (zSt2 G b)) 0 (zMl b x1 x2 x3 [none, none, none, none, none, none, none, none, none, none, none]) [] σ nx 0 0 := by
  have h14 : nt.length ≤ 14 := S.2.1.2.2.1
  have hw : zWf nt := S.2.1.1
  obtain ⟨hr, hg0, -, -, -, -, -, -, -⟩ := id he
  have hL : ∀ q ∈ L, q.1 < nt.length := fun q hq => by
    obtain ⟨k, hk⟩ := List.getElem?_of_mem hq
    exact (S.2.1.2.2.2.2.2.2.2.2.2.1 k q hk).1
  have hne : ¬ nI (nt.length + 1) = 0 := fun w => absurd ((nI_eq (b := 0) (by omega) (by decide)).mp w) (Nat.succ_ne_zero _)
  have hq6 : nI x1 - nI x1 / 6 * 6 = nI 2 := by rw [← hwt]; exact pk_rem (d := 6) h1 (by decide) (by decide)
  have hd6 : nI x1 / 6 = nI (x1 / 6) := pk_div (d := 6) h1 (by decide) (by decide)
  obtain ⟨q, hq⟩ : ∃ q, q = x1 / 6 := ⟨_, rfl⟩
  rw [← hq] at hd6
  have hql : q < 2 ^ 31 := by omega
  have hf9 : nI q - nI q / nI (nt.length + 1) * nI (nt.length + 1) = nI (q % (nt.length + 1)) := pk_rem hql (Nat.succ_pos _) (by omega)
  obtain ⟨fv, hfv⟩ : ∃ fv, fv = q % (nt.length + 1) := ⟨_, rfl⟩
  have hfb : fv < nt.length + 1 := by rw [hfv]; exact Nat.mod_lt _ (Nat.succ_pos _)
  rw [← hfv] at hf9
  have hs1 : nI x2 - nI x2 / 6 * 6 = nI (x2 % 6) := pk_rem (d := 6) h2 (by decide) (by decide)
  obtain ⟨s1, hsv⟩ : ∃ s1, s1 = x2 % 6 := ⟨_, rfl⟩
  have hsb : s1 < 6 := by omega
  rw [← hsv] at hs1
  obtain ⟨z, hz⟩ : ∃ z, z = nI x3 - nI x3 / 90 * 90 - 20 := ⟨_, rfl⟩
  obtain ⟨low, hlow⟩ : ∃ low, low = nI x2 - nI x2 / 40 * 40 - 20 := ⟨_, rfl⟩
  have hbf : fv < nt.length → _ := fun h => zNb hw hr h
  have hthere : fv < nt.length → zWP G kL_isMade (zFM G kL_isMade.2.2.2.1 (zSt2 G b)) 269 (zMl b x1 x2 x3 [some (.int (nI 2)), some (.int (nI fv)), some (.int (nI s1)), some (.int z), some (.int low), some (.int 1), some (.int (if True then 1 else 0)), none, none, none, none]) [] σ nx 0 0 := by
    intro hth
    have hfn := hth
    obtain ⟨b4, b5, b3, b6, b7, b8, b9⟩ := hbf hfn
    have due : ∀ (rv ww : Int32) (wn : Nat), rv = (if True then 1 else 0) → ww = nI wn → wn ≤ 16 → (True → wn ≤ 8 ∧ ww = nI (zw (nt.getD fv zdf))) → zWP G kL_isMade (zFM G kL_isMade.2.2.2.1 (zSt2 G b)) 421 (zMl b x1 x2 x3 [some (.int (nI 2)), some (.int (nI fv)), some (.int (nI s1)), some (.int z), some (.int low), some (.int 1), some (.int rv), some (.int (nI (zb (nt.getD fv zdf)))), some (.int ww), none, none]) [] σ nx 0 0 := by
      intro rv ww wn hrv hwn hwn16 hwc
      have hri : True := trivial
      rw [if_pos hri] at hrv
      subst hrv
      have hwc := hwc hri
      by_cases hn14 : nt.length = 14
      · have hzk : zk_filter nt.length (nI fv) = 2 := by
          rw [zk_filter, if_neg (znob_in (by omega) hfn), if_pos hn14]
        refine z_iload dL_isMade_421 rfl ?_
        refine z_if_ne (tgt := 431) dL_isMade_423 (by decide) (fun _ => ?_) (fun q_9 => absurd q_9 (((by decide))))
        refine z_iload dL_isMade_431 rfl ?_
        refine z_if_ne (tgt := 441) dL_isMade_433 (by decide) (fun _ => ?_) (fun q_9 => absurd q_9 (((by decide))))
        refine z_aload dL_isMade_441 rfl ?_
        refine z_iconst (v := 0) dL_isMade_443 (by decide) ?_
        refine z_gr dL_isMade_444 S (i := 0) (by decide) hg0 ?_
        refine z_bipush (v := 14) dL_isMade_445 (by decide) ?_
        refine z_icmp_eq (tgt := 465) dL_isMade_447 (by decide) (fun _ => ?_) (fun q_9 => absurd (((by rw [hn14]; rfl))) q_9)
        refine z_bipush (v := (-10)) dL_isMade_465 (by decide) ?_
        refine z_goto (tgt := 474) dL_isMade_467 (by decide) ?_
        refine z_istore dL_isMade_474 (by decide) ?_
        refine z_aload_n dL_isMade_476 rfl ?_
        refine z_iload dL_isMade_477 rfl ?_
        refine z_iload dL_isMade_479 rfl ?_
        refine z_iload dL_isMade_481 rfl ?_
        refine z_iconst (v := 2) dL_isMade_483 (by decide) ?_
        refine z_icmp_ne (tgt := 492) dL_isMade_484 (by decide) (fun q_9 => absurd ((rfl)) q_9) (fun _ => ?_)
        refine z_iload dL_isMade_487 rfl ?_
        refine z_goto (tgt := 494) dL_isMade_489 (by decide) ?_
        refine z_iload dL_isMade_494 rfl ?_
        refine z_callH dL_isMade_496 ch_L_171 (w_makes_filter hG hnx S) rfl rfl ⟨(Nat.le_of_ble_eq_true rfl), (Nat.le_of_ble_eq_true rfl)⟩ (Nat.le_of_ble_eq_true rfl) (Nat.le_of_ble_eq_true rfl) (Nat.le_of_ble_eq_true rfl) (fun v σ1 nx1 hx1 hq1 => ?_)
        obtain ⟨rfl, S⟩ := (hq1.bad2 S).2 hzk
        replace hnx := Nat.le_trans hnx hx1
        rw [zxc_S]
        exact l_madeA (Nat.le_of_ble_eq_true rfl) (Nat.le_of_ble_eq_true rfl) (by decide) S he
      have hzk : zk_filter nt.length (nI fv) = 0 := by
        rw [zk_filter, if_neg (znob_in (by omega) hfn), if_neg hn14]
      refine z_iload dL_isMade_421 rfl ?_
      refine z_if_ne (tgt := 431) dL_isMade_423 (by decide) (fun _ => ?_) (fun q_9 => absurd q_9 (((by decide))))
      refine z_iload dL_isMade_431 rfl ?_
      refine z_if_ne (tgt := 441) dL_isMade_433 (by decide) (fun _ => ?_) (fun q_9 => absurd q_9 (((by decide))))
      refine z_aload dL_isMade_441 rfl ?_
      refine z_iconst (v := 0) dL_isMade_443 (by decide) ?_
      refine z_gr dL_isMade_444 S (i := 0) (by decide) hg0 ?_
      refine z_bipush (v := 14) dL_isMade_445 (by decide) ?_
      refine z_icmp_eq (tgt := 465) dL_isMade_447 (by decide) (fun q_9 => absurd q_9 (((fun w => hn14 ((nI_eq (b := 14) (by omega) (by decide)).mp w))))) (fun _ => ?_)
      refine z_iload dL_isMade_450 rfl ?_
      refine z_sipush (v := 300) dL_isMade_452 (by decide) ?_
      refine z_icmp_gt (tgt := 465) dL_isMade_455 (by decide) (fun q_9 => absurd q_9 (((show ¬ nI 300 < nI _ from nI_nlt (by omega) (by omega))))) (fun _ => ?_)
      refine z_iload dL_isMade_458 rfl ?_
      refine z_bipush (v := 8) dL_isMade_460 (by decide) ?_
      refine z_icmp_le (tgt := 470) dL_isMade_462 (by decide) (fun _ => ?_) (fun q_9 => absurd (((by rw [hwn]; exact nI_le (b := 8) (by omega) (by decide)))) q_9)
      refine z_aload dL_isMade_470 rfl ?_
      refine z_iconst (v := 0) dL_isMade_472 (by decide) ?_
      refine z_gr dL_isMade_473 S (i := 0) (by decide) hg0 ?_
      refine z_istore dL_isMade_474 (by decide) ?_
      refine z_aload_n dL_isMade_476 rfl ?_
      refine z_iload dL_isMade_477 rfl ?_
      refine z_iload dL_isMade_479 rfl ?_
      refine z_iload dL_isMade_481 rfl ?_
      refine z_iconst (v := 2) dL_isMade_483 (by decide) ?_
      refine z_icmp_ne (tgt := 492) dL_isMade_484 (by decide) (fun q_9 => absurd ((rfl)) q_9) (fun _ => ?_)
      refine z_iload dL_isMade_487 rfl ?_
      refine z_goto (tgt := 494) dL_isMade_489 (by decide) ?_
      refine z_iload dL_isMade_494 rfl ?_
      refine z_callH dL_isMade_496 ch_L_171 (w_makes_filter hG hnx S) rfl rfl ⟨(Nat.le_of_ble_eq_true rfl), (Nat.le_of_ble_eq_true rfl)⟩ (Nat.le_of_ble_eq_true rfl) (Nat.le_of_ble_eq_true rfl) (Nat.le_of_ble_eq_true rfl) (fun v σ1 nx1 hx1 hq1 => ?_)
      obtain ⟨u', w, rfl, hP, hT, hF⟩ := hq1.good rfl hzk
      replace hnx := Nat.le_trans hnx hx1
      have ok' := o_filter S.2.1 hzk hP hT
      obtain ⟨rfl, e, ek, eD, eR, rfl⟩ := hP
      have S' : zVs G σ1 b (nt ++ [e], lim, mem, wk, slow, r, L, A, tk, sp, cs) R := ⟨hT, ok', S.2.2.fr hF⟩
      refine l_madeB hG (Nat.le_of_ble_eq_true rfl) (Nat.le_of_ble_eq_true rfl) (by decide) (by omega) S' hL he ek ?_
      rw [eD]
      rw [nI_clamp (show fv < 2 ^ 31 by omega)]
      exact ⟨b3, b6.trans hwc.2.symm, rfl, (fun w => absurd w (by decide)), fun _ => rfl, (fun w => absurd w (by decide)), fun _ => ⟨rfl, rfl⟩, (fun w => absurd w (by decide)), (fun w => absurd w (by decide)), (fun w => absurd w (by decide)), (fun w => absurd w (by decide))⟩
    refine z_iload dL_isMade_269 rfl ?_
    refine z_if_ne (tgt := 278) dL_isMade_271 (by decide) (fun _ => ?_) (fun q_9 => absurd q_9 (((by decide))))
    refine z_iload dL_isMade_278 rfl ?_
    refine z_if_ne (tgt := 288) dL_isMade_280 (by decide) (fun _ => ?_) (fun q_9 => absurd q_9 (((by decide))))
    refine z_iload dL_isMade_288 rfl ?_
    refine z_iconst (v := 3) dL_isMade_290 (by decide) ?_
    refine z_icmp_ne (tgt := 308) dL_isMade_291 (by decide) (fun _ => ?_) (fun q_9 => absurd q_9 (((by decide))))
    refine z_iload dL_isMade_308 rfl ?_
    refine z_iconst (v := 5) dL_isMade_310 (by decide) ?_
    refine z_icmp_ne (tgt := 328) dL_isMade_311 (by decide) (fun _ => ?_) (fun q_9 => absurd q_9 (((by decide))))
    refine z_aload dL_isMade_328 rfl ?_
    refine z_iload dL_isMade_330 rfl ?_
    refine z_ar dL_isMade_332 S (by decide) (by omega) b4 ?_
    refine z_istore dL_isMade_333 (by decide) ?_
    refine z_iload dL_isMade_335 rfl ?_
    refine z_if_ne (tgt := 344) dL_isMade_337 (by decide) (fun _ => ?_) (fun q_9 => absurd q_9 (((by decide))))
    refine z_iload dL_isMade_344 rfl ?_
    refine z_if_ne (tgt := 354) dL_isMade_346 (by decide) (fun _ => ?_) (fun q_9 => absurd q_9 (((by decide))))
    refine z_iload dL_isMade_354 rfl ?_
    refine z_iconst (v := 3) dL_isMade_356 (by decide) ?_
    refine z_icmp_ne (tgt := 374) dL_isMade_357 (by decide) (fun _ => ?_) (fun q_9 => absurd q_9 (((by decide))))
    refine z_iload dL_isMade_374 rfl ?_
    refine z_iconst (v := 4) dL_isMade_376 (by decide) ?_
    refine z_icmp_ne (tgt := 385) dL_isMade_377 (by decide) (fun _ => ?_) (fun q_9 => absurd q_9 (((by decide))))
    refine z_iload dL_isMade_385 rfl ?_
    refine z_iconst (v := 5) dL_isMade_387 (by decide) ?_
    refine z_icmp_ne (tgt := 414) dL_isMade_388 (by decide) (fun _ => ?_) (fun q_9 => absurd q_9 (((by decide))))
    refine z_aload dL_isMade_414 rfl ?_
    refine z_iload dL_isMade_416 rfl ?_
    refine z_ar dL_isMade_418 S (by decide) (by omega) b5 ?_
    refine z_istore dL_isMade_419 (by decide) ?_
    exact due _ _ (zw (nt.getD fv zdf)) rfl rfl (by omega) (fun _ => ⟨b9, rfl⟩)
  have hnot : ∀ rv : Int32, ¬ (fv < nt.length) → zWP G kL_isMade (zFM G kL_isMade.2.2.2.1 (zSt2 G b)) 269 (zMl b x1 x2 x3 [some (.int (nI 2)), some (.int (nI fv)), some (.int (nI s1)), some (.int z), some (.int low), some (.int 0), some (.int rv), none, none, none, none]) [] σ nx 0 0 := by
    intro rv hth
    have hzk : zk_filter nt.length (nI fv) = 1 := by
      rw [zk_filter, if_pos (znob_no (Or.inr (nI_le (by omega) (by omega))))]
    refine z_iload dL_isMade_269 rfl ?_
    refine z_if_ne (tgt := 278) dL_isMade_271 (by decide) (fun q_9 => absurd ((rfl)) q_9) (fun _ => ?_)
    refine z_iconst (v := 0) dL_isMade_274 (by decide) ?_
    refine z_goto (tgt := 333) dL_isMade_275 (by decide) ?_
    refine z_istore dL_isMade_333 (by decide) ?_
    refine z_iload dL_isMade_335 rfl ?_
    refine z_if_ne (tgt := 344) dL_isMade_337 (by decide) (fun q_9 => absurd ((rfl)) q_9) (fun _ => ?_)
    refine z_iconst (v := 0) dL_isMade_340 (by decide) ?_
    refine z_goto (tgt := 419) dL_isMade_341 (by decide) ?_
    refine z_istore dL_isMade_419 (by decide) ?_
    refine z_iload dL_isMade_421 rfl ?_
    refine z_if_ne (tgt := 431) dL_isMade_423 (by decide) (fun q_9 => absurd ((rfl)) q_9) (fun _ => ?_)
    refine z_bipush (v := (-30)) dL_isMade_426 (by decide) ?_
    refine z_goto (tgt := 474) dL_isMade_428 (by decide) ?_
    refine z_istore dL_isMade_474 (by decide) ?_
    refine z_aload_n dL_isMade_476 rfl ?_
    refine z_iload dL_isMade_477 rfl ?_
    refine z_iload dL_isMade_479 rfl ?_
    refine z_iload dL_isMade_481 rfl ?_
    refine z_iconst (v := 2) dL_isMade_483 (by decide) ?_
    refine z_icmp_ne (tgt := 492) dL_isMade_484 (by decide) (fun q_9 => absurd ((rfl)) q_9) (fun _ => ?_)
    refine z_iload dL_isMade_487 rfl ?_
    refine z_goto (tgt := 494) dL_isMade_489 (by decide) ?_
    refine z_iload dL_isMade_494 rfl ?_
    refine z_callH dL_isMade_496 ch_L_171 (w_makes_filter hG hnx S) rfl rfl ⟨(Nat.le_of_ble_eq_true rfl), (Nat.le_of_ble_eq_true rfl)⟩ (Nat.le_of_ble_eq_true rfl) (Nat.le_of_ble_eq_true rfl) (Nat.le_of_ble_eq_true rfl) (fun v σ1 nx1 hx1 hq1 => ?_)
    obtain ⟨rfl, S⟩ := (hq1.bad2 S).1 hzk
    replace hnx := Nat.le_trans hnx hx1
    rw [zxc_I]
    exact l_madeA (Nat.le_of_ble_eq_true rfl) (Nat.le_of_ble_eq_true rfl) (by decide) S he
  have right : ∀ tv : Int32, (zWP G kL_isMade (zFM G kL_isMade.2.2.2.1 (zSt2 G b)) 269 (zMl b x1 x2 x3 [some (.int (nI 2)), some (.int (nI fv)), some (.int (nI s1)), some (.int z), some (.int low), some (.int tv), some (.int (if True then 1 else 0)), none, none, none, none]) [] σ nx 0 0) → zWP G kL_isMade (zFM G kL_isMade.2.2.2.1 (zSt2 G b)) 159 (zMl b x1 x2 x3 [some (.int (nI 2)), some (.int (nI fv)), some (.int (nI s1)), some (.int z), some (.int low), some (.int tv), none, none, none, none, none]) [] σ nx 0 0 := by
    intro tv kk
    rw [if_pos trivial] at kk
    refine z_iload dL_isMade_159 rfl ?_
    refine z_if_ne (tgt := 183) dL_isMade_161 (by decide) (fun _ => ?_) (fun q_9 => absurd q_9 (((by decide))))
    refine z_iload dL_isMade_183 rfl ?_
    refine z_iconst (v := 1) dL_isMade_185 (by decide) ?_
    refine z_icmp_ne (tgt := 214) dL_isMade_186 (by decide) (fun _ => ?_) (fun q_9 => absurd q_9 (((by decide))))
    refine z_iload dL_isMade_214 rfl ?_
    refine z_iconst (v := 4) dL_isMade_216 (by decide) ?_
    refine z_icmp_ne (tgt := 245) dL_isMade_217 (by decide) (fun _ => ?_) (fun q_9 => absurd q_9 (((by decide))))
    refine z_iload dL_isMade_245 rfl ?_
    refine z_iconst (v := 5) dL_isMade_247 (by decide) ?_
    refine z_icmp_ne (tgt := 262) dL_isMade_248 (by decide) (fun _ => ?_) (fun q_9 => absurd q_9 (((by decide))))
    refine z_iconst (v := 1) dL_isMade_262 (by decide) ?_
    refine z_goto (tgt := 267) dL_isMade_263 (by decide) ?_
    refine z_istore dL_isMade_267 (by decide) ?_
    exact kk
  refine z_iload dL_isMade_0 rfl ?_
  refine z_bipush (v := 6) dL_isMade_2 (by decide) ?_
  refine z_irem dL_isMade_4 (by decide) ?_
  rw [hq6]
  refine z_istore dL_isMade_5 (by decide) ?_
  refine z_iload dL_isMade_7 rfl ?_
  refine z_bipush (v := 6) dL_isMade_9 (by decide) ?_
  refine z_idiv dL_isMade_11 (by decide) ?_
  rw [hd6]
  refine z_aload dL_isMade_12 rfl ?_
  refine z_iconst (v := 0) dL_isMade_14 (by decide) ?_
  refine z_gr dL_isMade_15 S (i := 0) (by decide) hg0 ?_
  refine z_iconst (v := 1) dL_isMade_16 (by decide) ?_
  refine z_iadd dL_isMade_17 ?_
  rw [nI_1]
  refine z_irem dL_isMade_18 hne ?_
  rw [hf9]
  refine z_istore dL_isMade_19 (by decide) ?_
  refine z_iload dL_isMade_21 rfl ?_
  refine z_iconst (v := 3) dL_isMade_23 (by decide) ?_
  refine z_icmp_eq (tgt := 33) dL_isMade_24 (by decide) (fun q_9 => absurd q_9 (((by decide)))) (fun _ => ?_)
  refine z_iload dL_isMade_27 rfl ?_
  refine z_iconst (v := 5) dL_isMade_29 (by decide) ?_
  refine z_icmp_ne (tgt := 45) dL_isMade_30 (by decide) (fun _ => ?_) (fun q_9 => absurd q_9 (((by decide))))
  refine z_iload dL_isMade_45 rfl ?_
  refine z_bipush (v := 6) dL_isMade_47 (by decide) ?_
  refine z_irem dL_isMade_49 (by decide) ?_
  rw [hs1]
  refine z_istore dL_isMade_50 (by decide) ?_
  refine z_iload dL_isMade_52 rfl ?_
  refine z_iconst (v := 2) dL_isMade_54 (by decide) ?_
  refine z_icmp_ne (tgt := 69) dL_isMade_55 (by decide) (fun q_9 => absurd ((rfl)) q_9) (fun _ => ?_)
  refine z_iload dL_isMade_58 rfl ?_
  refine z_bipush (v := 90) dL_isMade_60 (by decide) ?_
  refine z_irem dL_isMade_62 (by decide) ?_
  refine z_bipush (v := 20) dL_isMade_63 (by decide) ?_
  refine z_isub dL_isMade_65 ?_
  refine z_goto (tgt := 90) dL_isMade_66 (by decide) ?_
  rw [← hz]
  refine z_istore dL_isMade_90 (by decide) ?_
  refine z_iload dL_isMade_92 rfl ?_
  refine z_if_ne (tgt := 107) dL_isMade_94 (by decide) (fun _ => ?_) (fun q_9 => absurd q_9 (((by decide))))
  refine z_iload dL_isMade_107 rfl ?_
  refine z_bipush (v := 40) dL_isMade_109 (by decide) ?_
  refine z_irem dL_isMade_111 (by decide) ?_
  refine z_bipush (v := 20) dL_isMade_112 (by decide) ?_
  refine z_isub dL_isMade_114 ?_
  rw [← hlow]
  refine z_istore dL_isMade_115 (by decide) ?_
  by_cases hf : fv < nt.length
  · refine z_iload dL_isMade_117 rfl ?_
    refine z_if_eq (tgt := 152) dL_isMade_119 (by decide) (fun q_9 => absurd q_9 (((by decide)))) (fun _ => ?_)
    refine z_iload dL_isMade_122 rfl ?_
    refine z_aload dL_isMade_124 rfl ?_
    refine z_iconst (v := 0) dL_isMade_126 (by decide) ?_
    refine z_gr dL_isMade_127 S (i := 0) (by decide) hg0 ?_
    refine z_icmp_ge (tgt := 156) dL_isMade_128 (by decide) (fun q_9 => absurd q_9 ((nI_ge hf (by omega)))) (fun _ => ?_)
    refine z_iload dL_isMade_131 rfl ?_
    refine z_iconst (v := 3) dL_isMade_133 (by decide) ?_
    refine z_icmp_eq (tgt := 143) dL_isMade_134 (by decide) (fun q_9 => absurd q_9 (((by decide)))) (fun _ => ?_)
    refine z_iload dL_isMade_137 rfl ?_
    refine z_iconst (v := 5) dL_isMade_139 (by decide) ?_
    refine z_icmp_ne (tgt := 152) dL_isMade_140 (by decide) (fun _ => ?_) (fun q_9 => absurd q_9 (((by decide))))
    refine z_iconst (v := 1) dL_isMade_152 (by decide) ?_
    refine z_goto (tgt := 157) dL_isMade_153 (by decide) ?_
    refine z_istore dL_isMade_157 (by decide) ?_
    exact right 1 (hthere hf)
  · refine z_iload dL_isMade_117 rfl ?_
    refine z_if_eq (tgt := 152) dL_isMade_119 (by decide) (fun q_9 => absurd q_9 (((by decide)))) (fun _ => ?_)
    refine z_iload dL_isMade_122 rfl ?_
    refine z_aload dL_isMade_124 rfl ?_
    refine z_iconst (v := 0) dL_isMade_126 (by decide) ?_
    refine z_gr dL_isMade_127 S (i := 0) (by decide) hg0 ?_
    refine z_icmp_ge (tgt := 156) dL_isMade_128 (by decide) (fun _ => ?_) (fun q_9 => absurd ((nI_le (by omega) (by omega))) q_9)
    refine z_iconst (v := 0) dL_isMade_156 (by decide) ?_
    refine z_istore dL_isMade_157 (by decide) ?_
    exact right 0 (hnot _ hf)
set_option maxRecDepth 100000 in
set_option maxHeartbeats 8000000 in
theorem l_made3 {x1 x2 x3 : Nat} (hG : zKap G) (hnx : b + 82 ≤ nx) (S : zVs G σ b (nt, lim, mem, wk, slow, r, L, A, tk, sp, cs) R) (he : zRe (nt, lim, mem, wk, slow, r, L, A, tk, sp, cs) R) (h1 : x1 < 2 ^ 31) (h2 : x2 < 2 ^ 31) (h3 : x3 < 2 ^ 31) (hwt : x1 % 6 = 3) : zWP G kL_isMade (zFM G kL_isMade.2.2.2.1 (zSt2 G b)) 0 (zMl b x1 x2 x3 [none, none, none, none, none, none, none, none, none, none, none]) [] σ nx 0 0 := by
  have h14 : nt.length ≤ 14 := S.2.1.2.2.1
  have hw : zWf nt := S.2.1.1
  obtain ⟨hr, hg0, -, -, -, -, -, -, -⟩ := id he
  have hL : ∀ q ∈ L, q.1 < nt.length := fun q hq => by
    obtain ⟨k, hk⟩ := List.getElem?_of_mem hq
    exact (S.2.1.2.2.2.2.2.2.2.2.2.1 k q hk).1
  have hne : ¬ nI (nt.length + 1) = 0 := fun w => absurd ((nI_eq (b := 0) (by omega) (by decide)).mp w) (Nat.succ_ne_zero _)
  have hq6 : nI x1 - nI x1 / 6 * 6 = nI 3 := by rw [← hwt]; exact pk_rem (d := 6) h1 (by decide) (by decide)
  have hd6 : nI x1 / 6 = nI (x1 / 6) := pk_div (d := 6) h1 (by decide) (by decide)
  obtain ⟨q, hq⟩ : ∃ q, q = x1 / 6 := ⟨_, rfl⟩
  rw [← hq] at hd6
  have hql : q < 2 ^ 31 := by omega
  have hf9 : nI q - nI q / nI (nt.length + 1) * nI (nt.length + 1) = nI (q % (nt.length + 1)) := pk_rem hql (Nat.succ_pos _) (by omega)
  obtain ⟨fv, hfv⟩ : ∃ fv, fv = q % (nt.length + 1) := ⟨_, rfl⟩
  have hfb : fv < nt.length + 1 := by rw [hfv]; exact Nat.mod_lt _ (Nat.succ_pos _)
  rw [← hfv] at hf9
  have hs1 : nI x2 - nI x2 / nI (nt.length + 1) * nI (nt.length + 1) = nI (x2 % (nt.length + 1)) := pk_rem h2 (Nat.succ_pos _) (by omega)
  obtain ⟨s1, hsv⟩ : ∃ s1, s1 = x2 % (nt.length + 1) := ⟨_, rfl⟩
  have hsb : s1 < nt.length + 1 := by rw [hsv]; exact Nat.mod_lt _ (Nat.succ_pos _)
  rw [← hsv] at hs1
  have ht1 : nI x3 - nI x3 / 6 * 6 = nI (x3 % 6) := pk_rem (d := 6) h3 (by decide) (by decide)
  obtain ⟨t1, ht1v⟩ : ∃ t1, t1 = x3 % 6 := ⟨_, rfl⟩
  have htb : t1 < 6 := by omega
  rw [← ht1v] at ht1
  obtain ⟨z, hz⟩ : ∃ z, z = nI t1 := ⟨_, rfl⟩
  obtain ⟨low, hlow⟩ : ∃ low, low = nI x2 - nI x2 / 40 * 40 - 20 := ⟨_, rfl⟩
  have hbf : fv < nt.length → _ := fun h => zNb hw hr h
  have hbs : s1 < nt.length → _ := fun h => zNb hw hr h
  have hthere : fv < nt.length ∧ s1 < nt.length → zWP G kL_isMade (zFM G kL_isMade.2.2.2.1 (zSt2 G b)) 269 (zMl b x1 x2 x3 [some (.int (nI 3)), some (.int (nI fv)), some (.int (nI s1)), some (.int z), some (.int low), some (.int 1), some (.int (if True then 1 else 0)), none, none, none, none]) [] σ nx 0 0 := by
    intro hth
    obtain ⟨hfn, hsn⟩ := hth
    obtain ⟨b4, b5, b3, b6, b7, b8, b9⟩ := hbf hfn
    obtain ⟨c4, c5, c3, c6, c7, c8, c9⟩ := hbs hsn
    have due : ∀ (rv ww : Int32) (wn : Nat), rv = (if True then 1 else 0) → ww = nI wn → wn ≤ 16 → (True → wn = zw (nt.getD fv zdf) + zw (nt.getD s1 zdf)) → zWP G kL_isMade (zFM G kL_isMade.2.2.2.1 (zSt2 G b)) 421 (zMl b x1 x2 x3 [some (.int (nI 3)), some (.int (nI fv)), some (.int (nI s1)), some (.int z), some (.int low), some (.int 1), some (.int rv), some (.int (nI (zb (nt.getD fv zdf) + zb (nt.getD s1 zdf)))), some (.int ww), none, none]) [] σ nx 0 0 := by
      intro rv ww wn hrv hwn hwn16 hwc
      have hri : True := trivial
      rw [if_pos hri] at hrv
      subst hrv
      have hwc := hwc hri
      by_cases hn14 : nt.length = 14
      · have hzk : zk_union nt (nI fv) (nI s1) = 2 := by
          rw [zk_union, if_neg (fun w => w.elim (znob_in (by omega) hfn) (znob_in (by omega) hsn)), nI_clamp (by omega), nI_clamp (by omega), if_pos (Or.inl hn14)]
        refine z_iload dL_isMade_421 rfl ?_
        refine z_if_ne (tgt := 431) dL_isMade_423 (by decide) (fun _ => ?_) (fun q_9 => absurd q_9 (((by decide))))
        refine z_iload dL_isMade_431 rfl ?_
        refine z_if_ne (tgt := 441) dL_isMade_433 (by decide) (fun _ => ?_) (fun q_9 => absurd q_9 (((by decide))))
        refine z_aload dL_isMade_441 rfl ?_
        refine z_iconst (v := 0) dL_isMade_443 (by decide) ?_
        refine z_gr dL_isMade_444 S (i := 0) (by decide) hg0 ?_
        refine z_bipush (v := 14) dL_isMade_445 (by decide) ?_
        refine z_icmp_eq (tgt := 465) dL_isMade_447 (by decide) (fun _ => ?_) (fun q_9 => absurd (((by rw [hn14]; rfl))) q_9)
        refine z_bipush (v := (-10)) dL_isMade_465 (by decide) ?_
        refine z_goto (tgt := 474) dL_isMade_467 (by decide) ?_
        refine z_istore dL_isMade_474 (by decide) ?_
        refine z_aload_n dL_isMade_476 rfl ?_
        refine z_iload dL_isMade_477 rfl ?_
        refine z_iload dL_isMade_479 rfl ?_
        refine z_iload dL_isMade_481 rfl ?_
        refine z_iconst (v := 2) dL_isMade_483 (by decide) ?_
        refine z_icmp_ne (tgt := 492) dL_isMade_484 (by decide) (fun _ => ?_) (fun q_9 => absurd q_9 (((by decide))))
        refine z_iload dL_isMade_492 rfl ?_
        refine z_iload dL_isMade_494 rfl ?_
        refine z_callH dL_isMade_496 ch_L_171 (w_makes_union hG hnx S) rfl rfl ⟨(Nat.le_of_ble_eq_true rfl), (Nat.le_of_ble_eq_true rfl)⟩ (Nat.le_of_ble_eq_true rfl) (Nat.le_of_ble_eq_true rfl) (Nat.le_of_ble_eq_true rfl) (fun v σ1 nx1 hx1 hq1 => ?_)
        obtain ⟨rfl, S⟩ := (hq1.bad2 S).2 hzk
        replace hnx := Nat.le_trans hnx hx1
        rw [zxc_S]
        exact l_madeA (Nat.le_of_ble_eq_true rfl) (Nat.le_of_ble_eq_true rfl) (by decide) S he
      by_cases hb300 : 300 < (zb (nt.getD fv zdf) + zb (nt.getD s1 zdf))
      · have hmul : (zb (nt.getD fv zdf) + zb (nt.getD s1 zdf)) < 2 ^ 31 := by
          omega
        have hzk : zk_union nt (nI fv) (nI s1) = 2 := by
          rw [zk_union, if_neg (fun w => w.elim (znob_in (by omega) hfn) (znob_in (by omega) hsn)), nI_clamp (by omega), nI_clamp (by omega), if_pos (Or.inr (Or.inl hb300))]
        refine z_iload dL_isMade_421 rfl ?_
        refine z_if_ne (tgt := 431) dL_isMade_423 (by decide) (fun _ => ?_) (fun q_9 => absurd q_9 (((by decide))))
        refine z_iload dL_isMade_431 rfl ?_
        refine z_if_ne (tgt := 441) dL_isMade_433 (by decide) (fun _ => ?_) (fun q_9 => absurd q_9 (((by decide))))
        refine z_aload dL_isMade_441 rfl ?_
        refine z_iconst (v := 0) dL_isMade_443 (by decide) ?_
        refine z_gr dL_isMade_444 S (i := 0) (by decide) hg0 ?_
        refine z_bipush (v := 14) dL_isMade_445 (by decide) ?_
        refine z_icmp_eq (tgt := 465) dL_isMade_447 (by decide) (fun q_9 => absurd q_9 (((fun w => hn14 ((nI_eq (b := 14) (by omega) (by decide)).mp w))))) (fun _ => ?_)
        refine z_iload dL_isMade_450 rfl ?_
        refine z_sipush (v := 300) dL_isMade_452 (by decide) ?_
        refine z_icmp_gt (tgt := 465) dL_isMade_455 (by decide) (fun _ => ?_) (fun q_9 => absurd (((show nI 300 < nI _ from nI_lt hb300 hmul))) q_9)
        refine z_bipush (v := (-10)) dL_isMade_465 (by decide) ?_
        refine z_goto (tgt := 474) dL_isMade_467 (by decide) ?_
        refine z_istore dL_isMade_474 (by decide) ?_
        refine z_aload_n dL_isMade_476 rfl ?_
        refine z_iload dL_isMade_477 rfl ?_
        refine z_iload dL_isMade_479 rfl ?_
        refine z_iload dL_isMade_481 rfl ?_
        refine z_iconst (v := 2) dL_isMade_483 (by decide) ?_
        refine z_icmp_ne (tgt := 492) dL_isMade_484 (by decide) (fun _ => ?_) (fun q_9 => absurd q_9 (((by decide))))
        refine z_iload dL_isMade_492 rfl ?_
        refine z_iload dL_isMade_494 rfl ?_
        refine z_callH dL_isMade_496 ch_L_171 (w_makes_union hG hnx S) rfl rfl ⟨(Nat.le_of_ble_eq_true rfl), (Nat.le_of_ble_eq_true rfl)⟩ (Nat.le_of_ble_eq_true rfl) (Nat.le_of_ble_eq_true rfl) (Nat.le_of_ble_eq_true rfl) (fun v σ1 nx1 hx1 hq1 => ?_)
        obtain ⟨rfl, S⟩ := (hq1.bad2 S).2 hzk
        replace hnx := Nat.le_trans hnx hx1
        rw [zxc_S]
        exact l_madeA (Nat.le_of_ble_eq_true rfl) (Nat.le_of_ble_eq_true rfl) (by decide) S he
      by_cases hw8 : 8 < wn
      · have hzk : zk_union nt (nI fv) (nI s1) = 2 := by
          rw [zk_union, if_neg (fun w => w.elim (znob_in (by omega) hfn) (znob_in (by omega) hsn)), nI_clamp (by omega), nI_clamp (by omega), if_pos (Or.inr (Or.inr (by omega)))]
        refine z_iload dL_isMade_421 rfl ?_
        refine z_if_ne (tgt := 431) dL_isMade_423 (by decide) (fun _ => ?_) (fun q_9 => absurd q_9 (((by decide))))
        refine z_iload dL_isMade_431 rfl ?_
        refine z_if_ne (tgt := 441) dL_isMade_433 (by decide) (fun _ => ?_) (fun q_9 => absurd q_9 (((by decide))))
        refine z_aload dL_isMade_441 rfl ?_
        refine z_iconst (v := 0) dL_isMade_443 (by decide) ?_
        refine z_gr dL_isMade_444 S (i := 0) (by decide) hg0 ?_
        refine z_bipush (v := 14) dL_isMade_445 (by decide) ?_
        refine z_icmp_eq (tgt := 465) dL_isMade_447 (by decide) (fun q_9 => absurd q_9 (((fun w => hn14 ((nI_eq (b := 14) (by omega) (by decide)).mp w))))) (fun _ => ?_)
        refine z_iload dL_isMade_450 rfl ?_
        refine z_sipush (v := 300) dL_isMade_452 (by decide) ?_
        refine z_icmp_gt (tgt := 465) dL_isMade_455 (by decide) (fun q_9 => absurd q_9 (((show ¬ nI 300 < nI _ from nI_nlt (by omega) (by omega))))) (fun _ => ?_)
        refine z_iload dL_isMade_458 rfl ?_
        refine z_bipush (v := 8) dL_isMade_460 (by decide) ?_
        refine z_icmp_le (tgt := 470) dL_isMade_462 (by decide) (fun q_9 => absurd q_9 (((by rw [hwn]; exact nI_ge (b := wn) (a := 8) hw8 (by omega))))) (fun _ => ?_)
        refine z_bipush (v := (-10)) dL_isMade_465 (by decide) ?_
        refine z_goto (tgt := 474) dL_isMade_467 (by decide) ?_
        refine z_istore dL_isMade_474 (by decide) ?_
        refine z_aload_n dL_isMade_476 rfl ?_
        refine z_iload dL_isMade_477 rfl ?_
        refine z_iload dL_isMade_479 rfl ?_
        refine z_iload dL_isMade_481 rfl ?_
        refine z_iconst (v := 2) dL_isMade_483 (by decide) ?_
        refine z_icmp_ne (tgt := 492) dL_isMade_484 (by decide) (fun _ => ?_) (fun q_9 => absurd q_9 (((by decide))))
        refine z_iload dL_isMade_492 rfl ?_
        refine z_iload dL_isMade_494 rfl ?_
        refine z_callH dL_isMade_496 ch_L_171 (w_makes_union hG hnx S) rfl rfl ⟨(Nat.le_of_ble_eq_true rfl), (Nat.le_of_ble_eq_true rfl)⟩ (Nat.le_of_ble_eq_true rfl) (Nat.le_of_ble_eq_true rfl) (Nat.le_of_ble_eq_true rfl) (fun v σ1 nx1 hx1 hq1 => ?_)
        obtain ⟨rfl, S⟩ := (hq1.bad2 S).2 hzk
        replace hnx := Nat.le_trans hnx hx1
        rw [zxc_S]
        exact l_madeA (Nat.le_of_ble_eq_true rfl) (Nat.le_of_ble_eq_true rfl) (by decide) S he
      have hzk : zk_union nt (nI fv) (nI s1) = 0 := by
        rw [zk_union, if_neg (fun w => w.elim (znob_in (by omega) hfn) (znob_in (by omega) hsn)), nI_clamp (by omega), nI_clamp (by omega), if_neg (fun w => w.elim hn14 (fun y => y.elim hb300 (fun y => hw8 (by omega))))]
      refine z_iload dL_isMade_421 rfl ?_
      refine z_if_ne (tgt := 431) dL_isMade_423 (by decide) (fun _ => ?_) (fun q_9 => absurd q_9 (((by decide))))
      refine z_iload dL_isMade_431 rfl ?_
      refine z_if_ne (tgt := 441) dL_isMade_433 (by decide) (fun _ => ?_) (fun q_9 => absurd q_9 (((by decide))))
      refine z_aload dL_isMade_441 rfl ?_
      refine z_iconst (v := 0) dL_isMade_443 (by decide) ?_
      refine z_gr dL_isMade_444 S (i := 0) (by decide) hg0 ?_
      refine z_bipush (v := 14) dL_isMade_445 (by decide) ?_
      refine z_icmp_eq (tgt := 465) dL_isMade_447 (by decide) (fun q_9 => absurd q_9 (((fun w => hn14 ((nI_eq (b := 14) (by omega) (by decide)).mp w))))) (fun _ => ?_)
      refine z_iload dL_isMade_450 rfl ?_
      refine z_sipush (v := 300) dL_isMade_452 (by decide) ?_
      refine z_icmp_gt (tgt := 465) dL_isMade_455 (by decide) (fun q_9 => absurd q_9 (((show ¬ nI 300 < nI _ from nI_nlt (by omega) (by omega))))) (fun _ => ?_)
      refine z_iload dL_isMade_458 rfl ?_
      refine z_bipush (v := 8) dL_isMade_460 (by decide) ?_
      refine z_icmp_le (tgt := 470) dL_isMade_462 (by decide) (fun _ => ?_) (fun q_9 => absurd (((by rw [hwn]; exact nI_le (b := 8) (by omega) (by decide)))) q_9)
      refine z_aload dL_isMade_470 rfl ?_
      refine z_iconst (v := 0) dL_isMade_472 (by decide) ?_
      refine z_gr dL_isMade_473 S (i := 0) (by decide) hg0 ?_
      refine z_istore dL_isMade_474 (by decide) ?_
      refine z_aload_n dL_isMade_476 rfl ?_
      refine z_iload dL_isMade_477 rfl ?_
      refine z_iload dL_isMade_479 rfl ?_
      refine z_iload dL_isMade_481 rfl ?_
      refine z_iconst (v := 2) dL_isMade_483 (by decide) ?_
      refine z_icmp_ne (tgt := 492) dL_isMade_484 (by decide) (fun _ => ?_) (fun q_9 => absurd q_9 (((by decide))))
      refine z_iload dL_isMade_492 rfl ?_
      refine z_iload dL_isMade_494 rfl ?_
      refine z_callH dL_isMade_496 ch_L_171 (w_makes_union hG hnx S) rfl rfl ⟨(Nat.le_of_ble_eq_true rfl), (Nat.le_of_ble_eq_true rfl)⟩ (Nat.le_of_ble_eq_true rfl) (Nat.le_of_ble_eq_true rfl) (Nat.le_of_ble_eq_true rfl) (fun v σ1 nx1 hx1 hq1 => ?_)
      obtain ⟨u', w, rfl, hP, hT, hF⟩ := hq1.good rfl hzk
      replace hnx := Nat.le_trans hnx hx1
      have ok' := o_union S.2.1 hzk hP hT
      obtain ⟨rfl, e, ek, eD, eR, rfl⟩ := hP
      have S' : zVs G σ1 b (nt ++ [e], lim, mem, wk, slow, r, L, A, tk, sp, cs) R := ⟨hT, ok', S.2.2.fr hF⟩
      refine l_madeB hG (Nat.le_of_ble_eq_true rfl) (Nat.le_of_ble_eq_true rfl) (by decide) (by omega) S' hL he ek ?_
      rw [eD]
      rw [nI_clamp (show fv < 2 ^ 31 by omega)]
      rw [nI_clamp (show s1 < 2 ^ 31 by omega)]
      exact ⟨by show (nt.getD fv zdf).2.2.1 3 + (nt.getD s1 zdf).2.2.1 3 = _; rw [b3, c3, nI_add], by show (nt.getD fv zdf).2.2.1 4 + (nt.getD s1 zdf).2.2.1 4 = _; rw [b6, c6, nI_add, hwn, hwc], rfl, (fun w => absurd w (by decide)), fun _ => rfl, (fun w => absurd w (by decide)), (fun w => absurd w (by decide)), fun _ => rfl, (fun w => absurd w (by decide)), (fun w => absurd w (by decide)), (fun w => absurd w (by decide))⟩
    refine z_iload dL_isMade_269 rfl ?_
    refine z_if_ne (tgt := 278) dL_isMade_271 (by decide) (fun _ => ?_) (fun q_9 => absurd q_9 (((by decide))))
    refine z_iload dL_isMade_278 rfl ?_
    refine z_if_ne (tgt := 288) dL_isMade_280 (by decide) (fun _ => ?_) (fun q_9 => absurd q_9 (((by decide))))
    refine z_iload dL_isMade_288 rfl ?_
    refine z_iconst (v := 3) dL_isMade_290 (by decide) ?_
    refine z_icmp_ne (tgt := 308) dL_isMade_291 (by decide) (fun q_9 => absurd ((rfl)) q_9) (fun _ => ?_)
    refine z_aload dL_isMade_294 rfl ?_
    refine z_iload dL_isMade_296 rfl ?_
    refine z_ar dL_isMade_298 S (by decide) (by omega) b4 ?_
    refine z_aload dL_isMade_299 rfl ?_
    refine z_iload dL_isMade_301 rfl ?_
    refine z_ar dL_isMade_303 S (by decide) (by omega) c4 ?_
    refine z_iadd dL_isMade_304 ?_
    refine z_goto (tgt := 333) dL_isMade_305 (by decide) ?_
    rw [nI_add]
    refine z_istore dL_isMade_333 (by decide) ?_
    refine z_iload dL_isMade_335 rfl ?_
    refine z_if_ne (tgt := 344) dL_isMade_337 (by decide) (fun _ => ?_) (fun q_9 => absurd q_9 (((by decide))))
    refine z_iload dL_isMade_344 rfl ?_
    refine z_if_ne (tgt := 354) dL_isMade_346 (by decide) (fun _ => ?_) (fun q_9 => absurd q_9 (((by decide))))
    refine z_iload dL_isMade_354 rfl ?_
    refine z_iconst (v := 3) dL_isMade_356 (by decide) ?_
    refine z_icmp_ne (tgt := 374) dL_isMade_357 (by decide) (fun q_9 => absurd ((rfl)) q_9) (fun _ => ?_)
    refine z_aload dL_isMade_360 rfl ?_
    refine z_iload dL_isMade_362 rfl ?_
    refine z_ar dL_isMade_364 S (by decide) (by omega) b5 ?_
    refine z_aload dL_isMade_365 rfl ?_
    refine z_iload dL_isMade_367 rfl ?_
    refine z_ar dL_isMade_369 S (by decide) (by omega) c5 ?_
    refine z_iadd dL_isMade_370 ?_
    refine z_goto (tgt := 419) dL_isMade_371 (by decide) ?_
    rw [nI_add]
    refine z_istore dL_isMade_419 (by decide) ?_
    exact due _ _ (zw (nt.getD fv zdf) + zw (nt.getD s1 zdf)) rfl rfl (by omega) (fun _ => rfl)
  have hnot : ∀ rv : Int32, ¬ (fv < nt.length ∧ s1 < nt.length) → zWP G kL_isMade (zFM G kL_isMade.2.2.2.1 (zSt2 G b)) 269 (zMl b x1 x2 x3 [some (.int (nI 3)), some (.int (nI fv)), some (.int (nI s1)), some (.int z), some (.int low), some (.int 0), some (.int rv), none, none, none, none]) [] σ nx 0 0 := by
    intro rv hth
    have hzk : zk_union nt (nI fv) (nI s1) = 1 := by
      rw [zk_union, if_pos (by
        rcases Nat.lt_or_ge fv nt.length with w | w
        · exact Or.inr (znob_no (Or.inr (nI_le (by omega) (by omega))))
        · exact Or.inl (znob_no (Or.inr (nI_le (by omega) (by omega)))))]
    refine z_iload dL_isMade_269 rfl ?_
    refine z_if_ne (tgt := 278) dL_isMade_271 (by decide) (fun q_9 => absurd ((rfl)) q_9) (fun _ => ?_)
    refine z_iconst (v := 0) dL_isMade_274 (by decide) ?_
    refine z_goto (tgt := 333) dL_isMade_275 (by decide) ?_
    refine z_istore dL_isMade_333 (by decide) ?_
    refine z_iload dL_isMade_335 rfl ?_
    refine z_if_ne (tgt := 344) dL_isMade_337 (by decide) (fun q_9 => absurd ((rfl)) q_9) (fun _ => ?_)
    refine z_iconst (v := 0) dL_isMade_340 (by decide) ?_
    refine z_goto (tgt := 419) dL_isMade_341 (by decide) ?_
    refine z_istore dL_isMade_419 (by decide) ?_
    refine z_iload dL_isMade_421 rfl ?_
    refine z_if_ne (tgt := 431) dL_isMade_423 (by decide) (fun q_9 => absurd ((rfl)) q_9) (fun _ => ?_)
    refine z_bipush (v := (-30)) dL_isMade_426 (by decide) ?_
    refine z_goto (tgt := 474) dL_isMade_428 (by decide) ?_
    refine z_istore dL_isMade_474 (by decide) ?_
    refine z_aload_n dL_isMade_476 rfl ?_
    refine z_iload dL_isMade_477 rfl ?_
    refine z_iload dL_isMade_479 rfl ?_
    refine z_iload dL_isMade_481 rfl ?_
    refine z_iconst (v := 2) dL_isMade_483 (by decide) ?_
    refine z_icmp_ne (tgt := 492) dL_isMade_484 (by decide) (fun _ => ?_) (fun q_9 => absurd q_9 (((by decide))))
    refine z_iload dL_isMade_492 rfl ?_
    refine z_iload dL_isMade_494 rfl ?_
    refine z_callH dL_isMade_496 ch_L_171 (w_makes_union hG hnx S) rfl rfl ⟨(Nat.le_of_ble_eq_true rfl), (Nat.le_of_ble_eq_true rfl)⟩ (Nat.le_of_ble_eq_true rfl) (Nat.le_of_ble_eq_true rfl) (Nat.le_of_ble_eq_true rfl) (fun v σ1 nx1 hx1 hq1 => ?_)
    obtain ⟨rfl, S⟩ := (hq1.bad2 S).1 hzk
    replace hnx := Nat.le_trans hnx hx1
    rw [zxc_I]
    exact l_madeA (Nat.le_of_ble_eq_true rfl) (Nat.le_of_ble_eq_true rfl) (by decide) S he
  have right : ∀ tv : Int32, (zWP G kL_isMade (zFM G kL_isMade.2.2.2.1 (zSt2 G b)) 269 (zMl b x1 x2 x3 [some (.int (nI 3)), some (.int (nI fv)), some (.int (nI s1)), some (.int z), some (.int low), some (.int tv), some (.int (if True then 1 else 0)), none, none, none, none]) [] σ nx 0 0) → zWP G kL_isMade (zFM G kL_isMade.2.2.2.1 (zSt2 G b)) 159 (zMl b x1 x2 x3 [some (.int (nI 3)), some (.int (nI fv)), some (.int (nI s1)), some (.int z), some (.int low), some (.int tv), none, none, none, none, none]) [] σ nx 0 0 := by
    intro tv kk
    rw [if_pos trivial] at kk
    refine z_iload dL_isMade_159 rfl ?_
    refine z_if_ne (tgt := 183) dL_isMade_161 (by decide) (fun _ => ?_) (fun q_9 => absurd q_9 (((by decide))))
    refine z_iload dL_isMade_183 rfl ?_
    refine z_iconst (v := 1) dL_isMade_185 (by decide) ?_
    refine z_icmp_ne (tgt := 214) dL_isMade_186 (by decide) (fun _ => ?_) (fun q_9 => absurd q_9 (((by decide))))
    refine z_iload dL_isMade_214 rfl ?_
    refine z_iconst (v := 4) dL_isMade_216 (by decide) ?_
    refine z_icmp_ne (tgt := 245) dL_isMade_217 (by decide) (fun _ => ?_) (fun q_9 => absurd q_9 (((by decide))))
    refine z_iload dL_isMade_245 rfl ?_
    refine z_iconst (v := 5) dL_isMade_247 (by decide) ?_
    refine z_icmp_ne (tgt := 262) dL_isMade_248 (by decide) (fun _ => ?_) (fun q_9 => absurd q_9 (((by decide))))
    refine z_iconst (v := 1) dL_isMade_262 (by decide) ?_
    refine z_goto (tgt := 267) dL_isMade_263 (by decide) ?_
    refine z_istore dL_isMade_267 (by decide) ?_
    exact kk
  refine z_iload dL_isMade_0 rfl ?_
  refine z_bipush (v := 6) dL_isMade_2 (by decide) ?_
  refine z_irem dL_isMade_4 (by decide) ?_
  rw [hq6]
  refine z_istore dL_isMade_5 (by decide) ?_
  refine z_iload dL_isMade_7 rfl ?_
  refine z_bipush (v := 6) dL_isMade_9 (by decide) ?_
  refine z_idiv dL_isMade_11 (by decide) ?_
  rw [hd6]
  refine z_aload dL_isMade_12 rfl ?_
  refine z_iconst (v := 0) dL_isMade_14 (by decide) ?_
  refine z_gr dL_isMade_15 S (i := 0) (by decide) hg0 ?_
  refine z_iconst (v := 1) dL_isMade_16 (by decide) ?_
  refine z_iadd dL_isMade_17 ?_
  rw [nI_1]
  refine z_irem dL_isMade_18 hne ?_
  rw [hf9]
  refine z_istore dL_isMade_19 (by decide) ?_
  refine z_iload dL_isMade_21 rfl ?_
  refine z_iconst (v := 3) dL_isMade_23 (by decide) ?_
  refine z_icmp_eq (tgt := 33) dL_isMade_24 (by decide) (fun _ => ?_) (fun q_9 => absurd ((rfl)) q_9)
  refine z_iload dL_isMade_33 rfl ?_
  refine z_aload dL_isMade_35 rfl ?_
  refine z_iconst (v := 0) dL_isMade_37 (by decide) ?_
  refine z_gr dL_isMade_38 S (i := 0) (by decide) hg0 ?_
  refine z_iconst (v := 1) dL_isMade_39 (by decide) ?_
  refine z_iadd dL_isMade_40 ?_
  rw [nI_1]
  refine z_irem dL_isMade_41 hne ?_
  rw [hs1]
  refine z_goto (tgt := 50) dL_isMade_42 (by decide) ?_
  refine z_istore dL_isMade_50 (by decide) ?_
  refine z_iload dL_isMade_52 rfl ?_
  refine z_iconst (v := 2) dL_isMade_54 (by decide) ?_
  refine z_icmp_ne (tgt := 69) dL_isMade_55 (by decide) (fun _ => ?_) (fun q_9 => absurd q_9 (((by decide))))
  refine z_iload dL_isMade_69 rfl ?_
  refine z_iconst (v := 1) dL_isMade_71 (by decide) ?_
  refine z_icmp_ne (tgt := 85) dL_isMade_72 (by decide) (fun _ => ?_) (fun q_9 => absurd q_9 (((by decide))))
  refine z_iload dL_isMade_85 rfl ?_
  refine z_bipush (v := 6) dL_isMade_87 (by decide) ?_
  refine z_irem dL_isMade_89 (by decide) ?_
  rw [ht1, ← hz]
  refine z_istore dL_isMade_90 (by decide) ?_
  refine z_iload dL_isMade_92 rfl ?_
  refine z_if_ne (tgt := 107) dL_isMade_94 (by decide) (fun _ => ?_) (fun q_9 => absurd q_9 (((by decide))))
  refine z_iload dL_isMade_107 rfl ?_
  refine z_bipush (v := 40) dL_isMade_109 (by decide) ?_
  refine z_irem dL_isMade_111 (by decide) ?_
  refine z_bipush (v := 20) dL_isMade_112 (by decide) ?_
  refine z_isub dL_isMade_114 ?_
  rw [← hlow]
  refine z_istore dL_isMade_115 (by decide) ?_
  by_cases hf : fv < nt.length
  · by_cases hs : s1 < nt.length
    · refine z_iload dL_isMade_117 rfl ?_
      refine z_if_eq (tgt := 152) dL_isMade_119 (by decide) (fun q_9 => absurd q_9 (((by decide)))) (fun _ => ?_)
      refine z_iload dL_isMade_122 rfl ?_
      refine z_aload dL_isMade_124 rfl ?_
      refine z_iconst (v := 0) dL_isMade_126 (by decide) ?_
      refine z_gr dL_isMade_127 S (i := 0) (by decide) hg0 ?_
      refine z_icmp_ge (tgt := 156) dL_isMade_128 (by decide) (fun q_9 => absurd q_9 ((nI_ge hf (by omega)))) (fun _ => ?_)
      refine z_iload dL_isMade_131 rfl ?_
      refine z_iconst (v := 3) dL_isMade_133 (by decide) ?_
      refine z_icmp_eq (tgt := 143) dL_isMade_134 (by decide) (fun _ => ?_) (fun q_9 => absurd ((rfl)) q_9)
      refine z_iload dL_isMade_143 rfl ?_
      refine z_aload dL_isMade_145 rfl ?_
      refine z_iconst (v := 0) dL_isMade_147 (by decide) ?_
      refine z_gr dL_isMade_148 S (i := 0) (by decide) hg0 ?_
      refine z_icmp_ge (tgt := 156) dL_isMade_149 (by decide) (fun q_9 => absurd q_9 ((nI_ge hs (by omega)))) (fun _ => ?_)
      refine z_iconst (v := 1) dL_isMade_152 (by decide) ?_
      refine z_goto (tgt := 157) dL_isMade_153 (by decide) ?_
      refine z_istore dL_isMade_157 (by decide) ?_
      exact right 1 (hthere ⟨hf, hs⟩)
    · refine z_iload dL_isMade_117 rfl ?_
      refine z_if_eq (tgt := 152) dL_isMade_119 (by decide) (fun q_9 => absurd q_9 (((by decide)))) (fun _ => ?_)
      refine z_iload dL_isMade_122 rfl ?_
      refine z_aload dL_isMade_124 rfl ?_
      refine z_iconst (v := 0) dL_isMade_126 (by decide) ?_
      refine z_gr dL_isMade_127 S (i := 0) (by decide) hg0 ?_
      refine z_icmp_ge (tgt := 156) dL_isMade_128 (by decide) (fun q_9 => absurd q_9 ((nI_ge hf (by omega)))) (fun _ => ?_)
      refine z_iload dL_isMade_131 rfl ?_
      refine z_iconst (v := 3) dL_isMade_133 (by decide) ?_
      refine z_icmp_eq (tgt := 143) dL_isMade_134 (by decide) (fun _ => ?_) (fun q_9 => absurd ((rfl)) q_9)
      refine z_iload dL_isMade_143 rfl ?_
      refine z_aload dL_isMade_145 rfl ?_
      refine z_iconst (v := 0) dL_isMade_147 (by decide) ?_
      refine z_gr dL_isMade_148 S (i := 0) (by decide) hg0 ?_
      refine z_icmp_ge (tgt := 156) dL_isMade_149 (by decide) (fun _ => ?_) (fun q_9 => absurd ((nI_le (by omega) (by omega))) q_9)
      refine z_iconst (v := 0) dL_isMade_156 (by decide) ?_
      refine z_istore dL_isMade_157 (by decide) ?_
      exact right 0 (hnot _ (fun w => hs w.2))
  · refine z_iload dL_isMade_117 rfl ?_
    refine z_if_eq (tgt := 152) dL_isMade_119 (by decide) (fun q_9 => absurd q_9 (((by decide)))) (fun _ => ?_)
    refine z_iload dL_isMade_122 rfl ?_
    refine z_aload dL_isMade_124 rfl ?_
    refine z_iconst (v := 0) dL_isMade_126 (by decide) ?_
    refine z_gr dL_isMade_127 S (i := 0) (by decide) hg0 ?_
    refine z_icmp_ge (tgt := 156) dL_isMade_128 (by decide) (fun _ => ?_) (fun q_9 => absurd ((nI_le (by omega) (by omega))) q_9)
    refine z_iconst (v := 0) dL_isMade_156 (by decide) ?_
    refine z_istore dL_isMade_157 (by decide) ?_
    exact right 0 (hnot _ (fun w => hf w.1))
set_option maxRecDepth 100000 in
set_option maxHeartbeats 8000000 in
theorem l_made4 {x1 x2 x3 : Nat} (hG : zKap G) (hnx : b + 82 ≤ nx) (S : zVs G σ b (nt, lim, mem, wk, slow, r, L, A, tk, sp, cs) R) (he : zRe (nt, lim, mem, wk, slow, r, L, A, tk, sp, cs) R) (h1 : x1 < 2 ^ 31) (h2 : x2 < 2 ^ 31) (h3 : x3 < 2 ^ 31) (hwt : x1 % 6 = 4) : zWP G kL_isMade (zFM G kL_isMade.2.2.2.1 (zSt2 G b)) 0 (zMl b x1 x2 x3 [none, none, none, none, none, none, none, none, none, none, none]) [] σ nx 0 0 := by
  have h14 : nt.length ≤ 14 := S.2.1.2.2.1
  have hw : zWf nt := S.2.1.1
  obtain ⟨hr, hg0, -, -, -, -, -, -, -⟩ := id he
  have hL : ∀ q ∈ L, q.1 < nt.length := fun q hq => by
    obtain ⟨k, hk⟩ := List.getElem?_of_mem hq
    exact (S.2.1.2.2.2.2.2.2.2.2.2.1 k q hk).1
  have hne : ¬ nI (nt.length + 1) = 0 := fun w => absurd ((nI_eq (b := 0) (by omega) (by decide)).mp w) (Nat.succ_ne_zero _)
  have hq6 : nI x1 - nI x1 / 6 * 6 = nI 4 := by rw [← hwt]; exact pk_rem (d := 6) h1 (by decide) (by decide)
  have hd6 : nI x1 / 6 = nI (x1 / 6) := pk_div (d := 6) h1 (by decide) (by decide)
  obtain ⟨q, hq⟩ : ∃ q, q = x1 / 6 := ⟨_, rfl⟩
  rw [← hq] at hd6
  have hql : q < 2 ^ 31 := by omega
  have hf9 : nI q - nI q / nI (nt.length + 1) * nI (nt.length + 1) = nI (q % (nt.length + 1)) := pk_rem hql (Nat.succ_pos _) (by omega)
  obtain ⟨fv, hfv⟩ : ∃ fv, fv = q % (nt.length + 1) := ⟨_, rfl⟩
  have hfb : fv < nt.length + 1 := by rw [hfv]; exact Nat.mod_lt _ (Nat.succ_pos _)
  rw [← hfv] at hf9
  have hs1 : nI x2 - nI x2 / 6 * 6 = nI (x2 % 6) := pk_rem (d := 6) h2 (by decide) (by decide)
  obtain ⟨s1, hsv⟩ : ∃ s1, s1 = x2 % 6 := ⟨_, rfl⟩
  have hsb : s1 < 6 := by omega
  rw [← hsv] at hs1
  have ht1 : nI x3 - nI x3 / 6 * 6 = nI (x3 % 6) := pk_rem (d := 6) h3 (by decide) (by decide)
  obtain ⟨t1, ht1v⟩ : ∃ t1, t1 = x3 % 6 := ⟨_, rfl⟩
  have htb : t1 < 6 := by omega
  rw [← ht1v] at ht1
  obtain ⟨z, hz⟩ : ∃ z, z = nI t1 := ⟨_, rfl⟩
  obtain ⟨low, hlow⟩ : ∃ low, low = nI x2 - nI x2 / 40 * 40 - 20 := ⟨_, rfl⟩
  have hbf : fv < nt.length → _ := fun h => zNb hw hr h
  have hthere : fv < nt.length → zWP G kL_isMade (zFM G kL_isMade.2.2.2.1 (zSt2 G b)) 269 (zMl b x1 x2 x3 [some (.int (nI 4)), some (.int (nI fv)), some (.int (nI s1)), some (.int z), some (.int low), some (.int 1), some (.int (if s1 < 4 ∧ 0 < t1 ∧ t1 < 5 then 1 else 0)), none, none, none, none]) [] σ nx 0 0 := by
    intro hth
    have hfn := hth
    obtain ⟨b4, b5, b3, b6, b7, b8, b9⟩ := hbf hfn
    have due : ∀ (rv ww : Int32) (wn : Nat), rv = (if s1 < 4 ∧ 0 < t1 ∧ t1 < 5 then 1 else 0) → ww = nI wn → wn ≤ 16 → (s1 < 4 ∧ 0 < t1 ∧ t1 < 5 → wn ≤ 8 ∧ ww = z) → zWP G kL_isMade (zFM G kL_isMade.2.2.2.1 (zSt2 G b)) 421 (zMl b x1 x2 x3 [some (.int (nI 4)), some (.int (nI fv)), some (.int (nI s1)), some (.int z), some (.int low), some (.int 1), some (.int rv), some (.int (nI (zb (nt.getD fv zdf)))), some (.int ww), none, none]) [] σ nx 0 0 := by
      intro rv ww wn hrv hwn hwn16 hwc
      by_cases hri : s1 < 4 ∧ 0 < t1 ∧ t1 < 5
      rotate_left
      · rw [if_neg hri] at hrv
        subst hrv
        have hzk : zk_group nt.length (nI fv) (nI s1) z = 2 := by
          rw [zk_group, if_neg (znob_in (by omega) hfn), if_pos (by
            rw [hz]
            rcases Nat.lt_or_ge s1 4 with w | w
            · right
              rcases Nat.eq_zero_or_pos t1 with y | y
              · left; rw [y]; decide
              · right; exact nI_lt (a := 4) (by omega) (by omega)
            · left; right; exact nI_lt (a := 3) (by omega) (by omega))]
        refine z_iload dL_isMade_421 rfl ?_
        refine z_if_ne (tgt := 431) dL_isMade_423 (by decide) (fun _ => ?_) (fun q_9 => absurd q_9 (((by decide))))
        refine z_iload dL_isMade_431 rfl ?_
        refine z_if_ne (tgt := 441) dL_isMade_433 (by decide) (fun q_9 => absurd ((rfl)) q_9) (fun _ => ?_)
        refine z_bipush (v := (-20)) dL_isMade_436 (by decide) ?_
        refine z_goto (tgt := 474) dL_isMade_438 (by decide) ?_
        refine z_istore dL_isMade_474 (by decide) ?_
        refine z_aload_n dL_isMade_476 rfl ?_
        refine z_iload dL_isMade_477 rfl ?_
        refine z_iload dL_isMade_479 rfl ?_
        refine z_iload dL_isMade_481 rfl ?_
        refine z_iconst (v := 2) dL_isMade_483 (by decide) ?_
        refine z_icmp_ne (tgt := 492) dL_isMade_484 (by decide) (fun _ => ?_) (fun q_9 => absurd q_9 (((by decide))))
        refine z_iload dL_isMade_492 rfl ?_
        refine z_iload dL_isMade_494 rfl ?_
        refine z_callH dL_isMade_496 ch_L_171 (w_makes_group hG hnx S) rfl rfl ⟨(Nat.le_of_ble_eq_true rfl), (Nat.le_of_ble_eq_true rfl)⟩ (Nat.le_of_ble_eq_true rfl) (Nat.le_of_ble_eq_true rfl) (Nat.le_of_ble_eq_true rfl) (fun v σ1 nx1 hx1 hq1 => ?_)
        obtain ⟨rfl, S⟩ := (hq1.bad3 S).2.1 hzk
        replace hnx := Nat.le_trans hnx hx1
        rw [zxc_A]
        exact l_madeA (Nat.le_of_ble_eq_true rfl) (Nat.le_of_ble_eq_true rfl) (by decide) S he
      rw [if_pos hri] at hrv
      subst hrv
      have hwc := hwc hri
      by_cases hn14 : nt.length = 14
      · have hzk : zk_group nt.length (nI fv) (nI s1) z = 3 := by
          rw [zk_group, if_neg (znob_in (by omega) hfn), if_neg (by
            rw [hz]
            rintro ((w | w) | (w | w))
            · exact nI_pos (by omega) w
            · exact nI_nlt (a := 3) (b := s1) (by omega) (by omega) w
            · exact nI_nlt (a := t1) (b := 1) (by omega) (by omega) w
            · exact nI_nlt (a := 4) (b := t1) (by omega) (by omega) w), if_pos hn14]
        refine z_iload dL_isMade_421 rfl ?_
        refine z_if_ne (tgt := 431) dL_isMade_423 (by decide) (fun _ => ?_) (fun q_9 => absurd q_9 (((by decide))))
        refine z_iload dL_isMade_431 rfl ?_
        refine z_if_ne (tgt := 441) dL_isMade_433 (by decide) (fun _ => ?_) (fun q_9 => absurd q_9 (((by decide))))
        refine z_aload dL_isMade_441 rfl ?_
        refine z_iconst (v := 0) dL_isMade_443 (by decide) ?_
        refine z_gr dL_isMade_444 S (i := 0) (by decide) hg0 ?_
        refine z_bipush (v := 14) dL_isMade_445 (by decide) ?_
        refine z_icmp_eq (tgt := 465) dL_isMade_447 (by decide) (fun _ => ?_) (fun q_9 => absurd (((by rw [hn14]; rfl))) q_9)
        refine z_bipush (v := (-10)) dL_isMade_465 (by decide) ?_
        refine z_goto (tgt := 474) dL_isMade_467 (by decide) ?_
        refine z_istore dL_isMade_474 (by decide) ?_
        refine z_aload_n dL_isMade_476 rfl ?_
        refine z_iload dL_isMade_477 rfl ?_
        refine z_iload dL_isMade_479 rfl ?_
        refine z_iload dL_isMade_481 rfl ?_
        refine z_iconst (v := 2) dL_isMade_483 (by decide) ?_
        refine z_icmp_ne (tgt := 492) dL_isMade_484 (by decide) (fun _ => ?_) (fun q_9 => absurd q_9 (((by decide))))
        refine z_iload dL_isMade_492 rfl ?_
        refine z_iload dL_isMade_494 rfl ?_
        refine z_callH dL_isMade_496 ch_L_171 (w_makes_group hG hnx S) rfl rfl ⟨(Nat.le_of_ble_eq_true rfl), (Nat.le_of_ble_eq_true rfl)⟩ (Nat.le_of_ble_eq_true rfl) (Nat.le_of_ble_eq_true rfl) (Nat.le_of_ble_eq_true rfl) (fun v σ1 nx1 hx1 hq1 => ?_)
        obtain ⟨rfl, S⟩ := (hq1.bad3 S).2.2 hzk
        replace hnx := Nat.le_trans hnx hx1
        rw [zxc_S]
        exact l_madeA (Nat.le_of_ble_eq_true rfl) (Nat.le_of_ble_eq_true rfl) (by decide) S he
      have hzk : zk_group nt.length (nI fv) (nI s1) z = 0 := by
        rw [zk_group, if_neg (znob_in (by omega) hfn), if_neg (by
          rw [hz]
          rintro ((w | w) | (w | w))
          · exact nI_pos (by omega) w
          · exact nI_nlt (a := 3) (b := s1) (by omega) (by omega) w
          · exact nI_nlt (a := t1) (b := 1) (by omega) (by omega) w
          · exact nI_nlt (a := 4) (b := t1) (by omega) (by omega) w), if_neg hn14]
      refine z_iload dL_isMade_421 rfl ?_
      refine z_if_ne (tgt := 431) dL_isMade_423 (by decide) (fun _ => ?_) (fun q_9 => absurd q_9 (((by decide))))
      refine z_iload dL_isMade_431 rfl ?_
      refine z_if_ne (tgt := 441) dL_isMade_433 (by decide) (fun _ => ?_) (fun q_9 => absurd q_9 (((by decide))))
      refine z_aload dL_isMade_441 rfl ?_
      refine z_iconst (v := 0) dL_isMade_443 (by decide) ?_
      refine z_gr dL_isMade_444 S (i := 0) (by decide) hg0 ?_
      refine z_bipush (v := 14) dL_isMade_445 (by decide) ?_
      refine z_icmp_eq (tgt := 465) dL_isMade_447 (by decide) (fun q_9 => absurd q_9 (((fun w => hn14 ((nI_eq (b := 14) (by omega) (by decide)).mp w))))) (fun _ => ?_)
      refine z_iload dL_isMade_450 rfl ?_
      refine z_sipush (v := 300) dL_isMade_452 (by decide) ?_
      refine z_icmp_gt (tgt := 465) dL_isMade_455 (by decide) (fun q_9 => absurd q_9 (((show ¬ nI 300 < nI _ from nI_nlt (by omega) (by omega))))) (fun _ => ?_)
      refine z_iload dL_isMade_458 rfl ?_
      refine z_bipush (v := 8) dL_isMade_460 (by decide) ?_
      refine z_icmp_le (tgt := 470) dL_isMade_462 (by decide) (fun _ => ?_) (fun q_9 => absurd (((by rw [hwn]; exact nI_le (b := 8) (by omega) (by decide)))) q_9)
      refine z_aload dL_isMade_470 rfl ?_
      refine z_iconst (v := 0) dL_isMade_472 (by decide) ?_
      refine z_gr dL_isMade_473 S (i := 0) (by decide) hg0 ?_
      refine z_istore dL_isMade_474 (by decide) ?_
      refine z_aload_n dL_isMade_476 rfl ?_
      refine z_iload dL_isMade_477 rfl ?_
      refine z_iload dL_isMade_479 rfl ?_
      refine z_iload dL_isMade_481 rfl ?_
      refine z_iconst (v := 2) dL_isMade_483 (by decide) ?_
      refine z_icmp_ne (tgt := 492) dL_isMade_484 (by decide) (fun _ => ?_) (fun q_9 => absurd q_9 (((by decide))))
      refine z_iload dL_isMade_492 rfl ?_
      refine z_iload dL_isMade_494 rfl ?_
      refine z_callH dL_isMade_496 ch_L_171 (w_makes_group hG hnx S) rfl rfl ⟨(Nat.le_of_ble_eq_true rfl), (Nat.le_of_ble_eq_true rfl)⟩ (Nat.le_of_ble_eq_true rfl) (Nat.le_of_ble_eq_true rfl) (Nat.le_of_ble_eq_true rfl) (fun v σ1 nx1 hx1 hq1 => ?_)
      obtain ⟨u', w, rfl, hP, hT, hF⟩ := hq1.good rfl hzk
      replace hnx := Nat.le_trans hnx hx1
      have ok' := o_group S.2.1 hzk hP hT
      obtain ⟨rfl, e, ek, eD, eR, rfl⟩ := hP
      have S' : zVs G σ1 b (nt ++ [e], lim, mem, wk, slow, r, L, A, tk, sp, cs) R := ⟨hT, ok', S.2.2.fr hF⟩
      refine l_madeB hG (Nat.le_of_ble_eq_true rfl) (Nat.le_of_ble_eq_true rfl) (by decide) (by omega) S' hL he ek ?_
      rw [eD]
      rw [nI_clamp (show fv < 2 ^ 31 by omega)]
      exact ⟨b3, hwc.2.symm, rfl, (fun w => absurd w (by decide)), fun _ => rfl, (fun w => absurd w (by decide)), (fun w => absurd w (by decide)), (fun w => absurd w (by decide)), fun _ => ⟨rfl, rfl⟩, (fun w => absurd w (by decide)), (fun w => absurd w (by decide))⟩
    refine z_iload dL_isMade_269 rfl ?_
    refine z_if_ne (tgt := 278) dL_isMade_271 (by decide) (fun _ => ?_) (fun q_9 => absurd q_9 (((by decide))))
    refine z_iload dL_isMade_278 rfl ?_
    refine z_if_ne (tgt := 288) dL_isMade_280 (by decide) (fun _ => ?_) (fun q_9 => absurd q_9 (((by decide))))
    refine z_iload dL_isMade_288 rfl ?_
    refine z_iconst (v := 3) dL_isMade_290 (by decide) ?_
    refine z_icmp_ne (tgt := 308) dL_isMade_291 (by decide) (fun _ => ?_) (fun q_9 => absurd q_9 (((by decide))))
    refine z_iload dL_isMade_308 rfl ?_
    refine z_iconst (v := 5) dL_isMade_310 (by decide) ?_
    refine z_icmp_ne (tgt := 328) dL_isMade_311 (by decide) (fun _ => ?_) (fun q_9 => absurd q_9 (((by decide))))
    refine z_aload dL_isMade_328 rfl ?_
    refine z_iload dL_isMade_330 rfl ?_
    refine z_ar dL_isMade_332 S (by decide) (by omega) b4 ?_
    refine z_istore dL_isMade_333 (by decide) ?_
    refine z_iload dL_isMade_335 rfl ?_
    refine z_if_ne (tgt := 344) dL_isMade_337 (by decide) (fun _ => ?_) (fun q_9 => absurd q_9 (((by decide))))
    refine z_iload dL_isMade_344 rfl ?_
    refine z_if_ne (tgt := 354) dL_isMade_346 (by decide) (fun _ => ?_) (fun q_9 => absurd q_9 (((by decide))))
    refine z_iload dL_isMade_354 rfl ?_
    refine z_iconst (v := 3) dL_isMade_356 (by decide) ?_
    refine z_icmp_ne (tgt := 374) dL_isMade_357 (by decide) (fun _ => ?_) (fun q_9 => absurd q_9 (((by decide))))
    refine z_iload dL_isMade_374 rfl ?_
    refine z_iconst (v := 4) dL_isMade_376 (by decide) ?_
    refine z_icmp_ne (tgt := 385) dL_isMade_377 (by decide) (fun q_9 => absurd ((rfl)) q_9) (fun _ => ?_)
    refine z_iload dL_isMade_380 rfl ?_
    refine z_goto (tgt := 419) dL_isMade_382 (by decide) ?_
    refine z_istore dL_isMade_419 (by decide) ?_
    exact due _ _ t1 rfl hz (by omega) (fun w => ⟨by omega, rfl⟩)
  have hnot : ∀ rv : Int32, ¬ (fv < nt.length) → zWP G kL_isMade (zFM G kL_isMade.2.2.2.1 (zSt2 G b)) 269 (zMl b x1 x2 x3 [some (.int (nI 4)), some (.int (nI fv)), some (.int (nI s1)), some (.int z), some (.int low), some (.int 0), some (.int rv), none, none, none, none]) [] σ nx 0 0 := by
    intro rv hth
    have hzk : zk_group nt.length (nI fv) (nI s1) z = 1 := by
      rw [zk_group, if_pos (znob_no (Or.inr (nI_le (by omega) (by omega))))]
    refine z_iload dL_isMade_269 rfl ?_
    refine z_if_ne (tgt := 278) dL_isMade_271 (by decide) (fun q_9 => absurd ((rfl)) q_9) (fun _ => ?_)
    refine z_iconst (v := 0) dL_isMade_274 (by decide) ?_
    refine z_goto (tgt := 333) dL_isMade_275 (by decide) ?_
    refine z_istore dL_isMade_333 (by decide) ?_
    refine z_iload dL_isMade_335 rfl ?_
    refine z_if_ne (tgt := 344) dL_isMade_337 (by decide) (fun q_9 => absurd ((rfl)) q_9) (fun _ => ?_)
    refine z_iconst (v := 0) dL_isMade_340 (by decide) ?_
    refine z_goto (tgt := 419) dL_isMade_341 (by decide) ?_
    refine z_istore dL_isMade_419 (by decide) ?_
    refine z_iload dL_isMade_421 rfl ?_
    refine z_if_ne (tgt := 431) dL_isMade_423 (by decide) (fun q_9 => absurd ((rfl)) q_9) (fun _ => ?_)
    refine z_bipush (v := (-30)) dL_isMade_426 (by decide) ?_
    refine z_goto (tgt := 474) dL_isMade_428 (by decide) ?_
    refine z_istore dL_isMade_474 (by decide) ?_
    refine z_aload_n dL_isMade_476 rfl ?_
    refine z_iload dL_isMade_477 rfl ?_
    refine z_iload dL_isMade_479 rfl ?_
    refine z_iload dL_isMade_481 rfl ?_
    refine z_iconst (v := 2) dL_isMade_483 (by decide) ?_
    refine z_icmp_ne (tgt := 492) dL_isMade_484 (by decide) (fun _ => ?_) (fun q_9 => absurd q_9 (((by decide))))
    refine z_iload dL_isMade_492 rfl ?_
    refine z_iload dL_isMade_494 rfl ?_
    refine z_callH dL_isMade_496 ch_L_171 (w_makes_group hG hnx S) rfl rfl ⟨(Nat.le_of_ble_eq_true rfl), (Nat.le_of_ble_eq_true rfl)⟩ (Nat.le_of_ble_eq_true rfl) (Nat.le_of_ble_eq_true rfl) (Nat.le_of_ble_eq_true rfl) (fun v σ1 nx1 hx1 hq1 => ?_)
    obtain ⟨rfl, S⟩ := (hq1.bad3 S).1 hzk
    replace hnx := Nat.le_trans hnx hx1
    rw [zxc_I]
    exact l_madeA (Nat.le_of_ble_eq_true rfl) (Nat.le_of_ble_eq_true rfl) (by decide) S he
  have right : ∀ tv : Int32, (zWP G kL_isMade (zFM G kL_isMade.2.2.2.1 (zSt2 G b)) 269 (zMl b x1 x2 x3 [some (.int (nI 4)), some (.int (nI fv)), some (.int (nI s1)), some (.int z), some (.int low), some (.int tv), some (.int (if s1 < 4 ∧ 0 < t1 ∧ t1 < 5 then 1 else 0)), none, none, none, none]) [] σ nx 0 0) → zWP G kL_isMade (zFM G kL_isMade.2.2.2.1 (zSt2 G b)) 159 (zMl b x1 x2 x3 [some (.int (nI 4)), some (.int (nI fv)), some (.int (nI s1)), some (.int z), some (.int low), some (.int tv), none, none, none, none, none]) [] σ nx 0 0 := by
    intro tv kk
    by_cases c1 : s1 < 4
    · by_cases c2 : 0 < t1
      · by_cases c3 : t1 < 5
        · rw [if_pos ⟨c1, c2, c3⟩] at kk
          refine z_iload dL_isMade_159 rfl ?_
          refine z_if_ne (tgt := 183) dL_isMade_161 (by decide) (fun _ => ?_) (fun q_9 => absurd q_9 (((by decide))))
          refine z_iload dL_isMade_183 rfl ?_
          refine z_iconst (v := 1) dL_isMade_185 (by decide) ?_
          refine z_icmp_ne (tgt := 214) dL_isMade_186 (by decide) (fun _ => ?_) (fun q_9 => absurd q_9 (((by decide))))
          refine z_iload dL_isMade_214 rfl ?_
          refine z_iconst (v := 4) dL_isMade_216 (by decide) ?_
          refine z_icmp_ne (tgt := 245) dL_isMade_217 (by decide) (fun q_9 => absurd ((rfl)) q_9) (fun _ => ?_)
          refine z_iload dL_isMade_220 rfl ?_
          refine z_iconst (v := 4) dL_isMade_222 (by decide) ?_
          refine z_icmp_ge (tgt := 241) dL_isMade_223 (by decide) (fun q_9 => absurd q_9 (((show ¬ nI 4 ≤ nI s1 from nI_ge c1 (by omega))))) (fun _ => ?_)
          refine z_iload dL_isMade_226 rfl ?_
          refine z_if_le (tgt := 241) dL_isMade_228 (by decide) (fun q_9 => absurd q_9 (((by rw [hz]; exact nI_ge (a := 0) c2 (by omega))))) (fun _ => ?_)
          refine z_iload dL_isMade_231 rfl ?_
          refine z_iconst (v := 5) dL_isMade_233 (by decide) ?_
          refine z_icmp_ge (tgt := 241) dL_isMade_234 (by decide) (fun q_9 => absurd q_9 (((by rw [hz]; exact nI_ge (b := 5) c3 (by decide))))) (fun _ => ?_)
          refine z_iconst (v := 1) dL_isMade_237 (by decide) ?_
          refine z_goto (tgt := 267) dL_isMade_238 (by decide) ?_
          refine z_istore dL_isMade_267 (by decide) ?_
          exact kk
        · rw [if_neg (fun w => c3 w.2.2)] at kk
          refine z_iload dL_isMade_159 rfl ?_
          refine z_if_ne (tgt := 183) dL_isMade_161 (by decide) (fun _ => ?_) (fun q_9 => absurd q_9 (((by decide))))
          refine z_iload dL_isMade_183 rfl ?_
          refine z_iconst (v := 1) dL_isMade_185 (by decide) ?_
          refine z_icmp_ne (tgt := 214) dL_isMade_186 (by decide) (fun _ => ?_) (fun q_9 => absurd q_9 (((by decide))))
          refine z_iload dL_isMade_214 rfl ?_
          refine z_iconst (v := 4) dL_isMade_216 (by decide) ?_
          refine z_icmp_ne (tgt := 245) dL_isMade_217 (by decide) (fun q_9 => absurd ((rfl)) q_9) (fun _ => ?_)
          refine z_iload dL_isMade_220 rfl ?_
          refine z_iconst (v := 4) dL_isMade_222 (by decide) ?_
          refine z_icmp_ge (tgt := 241) dL_isMade_223 (by decide) (fun q_9 => absurd q_9 (((show ¬ nI 4 ≤ nI s1 from nI_ge c1 (by omega))))) (fun _ => ?_)
          refine z_iload dL_isMade_226 rfl ?_
          refine z_if_le (tgt := 241) dL_isMade_228 (by decide) (fun q_9 => absurd q_9 (((by rw [hz]; exact nI_ge (a := 0) c2 (by omega))))) (fun _ => ?_)
          refine z_iload dL_isMade_231 rfl ?_
          refine z_iconst (v := 5) dL_isMade_233 (by decide) ?_
          refine z_icmp_ge (tgt := 241) dL_isMade_234 (by decide) (fun _ => ?_) (fun q_9 => absurd (((by rw [hz]; exact nI_le (a := 5) (by omega) (by omega)))) q_9)
          refine z_iconst (v := 0) dL_isMade_241 (by decide) ?_
          refine z_goto (tgt := 267) dL_isMade_242 (by decide) ?_
          refine z_istore dL_isMade_267 (by decide) ?_
          exact kk
      · rw [if_neg (fun w => c2 w.2.1)] at kk
        refine z_iload dL_isMade_159 rfl ?_
        refine z_if_ne (tgt := 183) dL_isMade_161 (by decide) (fun _ => ?_) (fun q_9 => absurd q_9 (((by decide))))
        refine z_iload dL_isMade_183 rfl ?_
        refine z_iconst (v := 1) dL_isMade_185 (by decide) ?_
        refine z_icmp_ne (tgt := 214) dL_isMade_186 (by decide) (fun _ => ?_) (fun q_9 => absurd q_9 (((by decide))))
        refine z_iload dL_isMade_214 rfl ?_
        refine z_iconst (v := 4) dL_isMade_216 (by decide) ?_
        refine z_icmp_ne (tgt := 245) dL_isMade_217 (by decide) (fun q_9 => absurd ((rfl)) q_9) (fun _ => ?_)
        refine z_iload dL_isMade_220 rfl ?_
        refine z_iconst (v := 4) dL_isMade_222 (by decide) ?_
        refine z_icmp_ge (tgt := 241) dL_isMade_223 (by decide) (fun q_9 => absurd q_9 (((show ¬ nI 4 ≤ nI s1 from nI_ge c1 (by omega))))) (fun _ => ?_)
        refine z_iload dL_isMade_226 rfl ?_
        refine z_if_le (tgt := 241) dL_isMade_228 (by decide) (fun _ => ?_) (fun q_9 => absurd (((by rw [hz]; exact nI_le (b := 0) (by omega) (by decide)))) q_9)
        refine z_iconst (v := 0) dL_isMade_241 (by decide) ?_
        refine z_goto (tgt := 267) dL_isMade_242 (by decide) ?_
        refine z_istore dL_isMade_267 (by decide) ?_
        exact kk
    · rw [if_neg (fun w => c1 w.1)] at kk
      refine z_iload dL_isMade_159 rfl ?_
      refine z_if_ne (tgt := 183) dL_isMade_161 (by decide) (fun _ => ?_) (fun q_9 => absurd q_9 (((by decide))))
      refine z_iload dL_isMade_183 rfl ?_
      refine z_iconst (v := 1) dL_isMade_185 (by decide) ?_
      refine z_icmp_ne (tgt := 214) dL_isMade_186 (by decide) (fun _ => ?_) (fun q_9 => absurd q_9 (((by decide))))
      refine z_iload dL_isMade_214 rfl ?_
      refine z_iconst (v := 4) dL_isMade_216 (by decide) ?_
      refine z_icmp_ne (tgt := 245) dL_isMade_217 (by decide) (fun q_9 => absurd ((rfl)) q_9) (fun _ => ?_)
      refine z_iload dL_isMade_220 rfl ?_
      refine z_iconst (v := 4) dL_isMade_222 (by decide) ?_
      refine z_icmp_ge (tgt := 241) dL_isMade_223 (by decide) (fun _ => ?_) (fun q_9 => absurd (((show nI 4 ≤ nI s1 from nI_le (by omega) (by omega)))) q_9)
      refine z_iconst (v := 0) dL_isMade_241 (by decide) ?_
      refine z_goto (tgt := 267) dL_isMade_242 (by decide) ?_
      refine z_istore dL_isMade_267 (by decide) ?_
      exact kk
  refine z_iload dL_isMade_0 rfl ?_
  refine z_bipush (v := 6) dL_isMade_2 (by decide) ?_
  refine z_irem dL_isMade_4 (by decide) ?_
  rw [hq6]
  refine z_istore dL_isMade_5 (by decide) ?_
  refine z_iload dL_isMade_7 rfl ?_
  refine z_bipush (v := 6) dL_isMade_9 (by decide) ?_
  refine z_idiv dL_isMade_11 (by decide) ?_
  rw [hd6]
  refine z_aload dL_isMade_12 rfl ?_
  refine z_iconst (v := 0) dL_isMade_14 (by decide) ?_
  refine z_gr dL_isMade_15 S (i := 0) (by decide) hg0 ?_
  refine z_iconst (v := 1) dL_isMade_16 (by decide) ?_
  refine z_iadd dL_isMade_17 ?_
  rw [nI_1]
  refine z_irem dL_isMade_18 hne ?_
  rw [hf9]
  refine z_istore dL_isMade_19 (by decide) ?_
  refine z_iload dL_isMade_21 rfl ?_
  refine z_iconst (v := 3) dL_isMade_23 (by decide) ?_
  refine z_icmp_eq (tgt := 33) dL_isMade_24 (by decide) (fun q_9 => absurd q_9 (((by decide)))) (fun _ => ?_)
  refine z_iload dL_isMade_27 rfl ?_
  refine z_iconst (v := 5) dL_isMade_29 (by decide) ?_
  refine z_icmp_ne (tgt := 45) dL_isMade_30 (by decide) (fun _ => ?_) (fun q_9 => absurd q_9 (((by decide))))
  refine z_iload dL_isMade_45 rfl ?_
  refine z_bipush (v := 6) dL_isMade_47 (by decide) ?_
  refine z_irem dL_isMade_49 (by decide) ?_
  rw [hs1]
  refine z_istore dL_isMade_50 (by decide) ?_
  refine z_iload dL_isMade_52 rfl ?_
  refine z_iconst (v := 2) dL_isMade_54 (by decide) ?_
  refine z_icmp_ne (tgt := 69) dL_isMade_55 (by decide) (fun _ => ?_) (fun q_9 => absurd q_9 (((by decide))))
  refine z_iload dL_isMade_69 rfl ?_
  refine z_iconst (v := 1) dL_isMade_71 (by decide) ?_
  refine z_icmp_ne (tgt := 85) dL_isMade_72 (by decide) (fun _ => ?_) (fun q_9 => absurd q_9 (((by decide))))
  refine z_iload dL_isMade_85 rfl ?_
  refine z_bipush (v := 6) dL_isMade_87 (by decide) ?_
  refine z_irem dL_isMade_89 (by decide) ?_
  rw [ht1, ← hz]
  refine z_istore dL_isMade_90 (by decide) ?_
  refine z_iload dL_isMade_92 rfl ?_
  refine z_if_ne (tgt := 107) dL_isMade_94 (by decide) (fun _ => ?_) (fun q_9 => absurd q_9 (((by decide))))
  refine z_iload dL_isMade_107 rfl ?_
  refine z_bipush (v := 40) dL_isMade_109 (by decide) ?_
  refine z_irem dL_isMade_111 (by decide) ?_
  refine z_bipush (v := 20) dL_isMade_112 (by decide) ?_
  refine z_isub dL_isMade_114 ?_
  rw [← hlow]
  refine z_istore dL_isMade_115 (by decide) ?_
  by_cases hf : fv < nt.length
  · refine z_iload dL_isMade_117 rfl ?_
    refine z_if_eq (tgt := 152) dL_isMade_119 (by decide) (fun q_9 => absurd q_9 (((by decide)))) (fun _ => ?_)
    refine z_iload dL_isMade_122 rfl ?_
    refine z_aload dL_isMade_124 rfl ?_
    refine z_iconst (v := 0) dL_isMade_126 (by decide) ?_
    refine z_gr dL_isMade_127 S (i := 0) (by decide) hg0 ?_
    refine z_icmp_ge (tgt := 156) dL_isMade_128 (by decide) (fun q_9 => absurd q_9 ((nI_ge hf (by omega)))) (fun _ => ?_)
    refine z_iload dL_isMade_131 rfl ?_
    refine z_iconst (v := 3) dL_isMade_133 (by decide) ?_
    refine z_icmp_eq (tgt := 143) dL_isMade_134 (by decide) (fun q_9 => absurd q_9 (((by decide)))) (fun _ => ?_)
    refine z_iload dL_isMade_137 rfl ?_
    refine z_iconst (v := 5) dL_isMade_139 (by decide) ?_
    refine z_icmp_ne (tgt := 152) dL_isMade_140 (by decide) (fun _ => ?_) (fun q_9 => absurd q_9 (((by decide))))
    refine z_iconst (v := 1) dL_isMade_152 (by decide) ?_
    refine z_goto (tgt := 157) dL_isMade_153 (by decide) ?_
    refine z_istore dL_isMade_157 (by decide) ?_
    exact right 1 (hthere hf)
  · refine z_iload dL_isMade_117 rfl ?_
    refine z_if_eq (tgt := 152) dL_isMade_119 (by decide) (fun q_9 => absurd q_9 (((by decide)))) (fun _ => ?_)
    refine z_iload dL_isMade_122 rfl ?_
    refine z_aload dL_isMade_124 rfl ?_
    refine z_iconst (v := 0) dL_isMade_126 (by decide) ?_
    refine z_gr dL_isMade_127 S (i := 0) (by decide) hg0 ?_
    refine z_icmp_ge (tgt := 156) dL_isMade_128 (by decide) (fun _ => ?_) (fun q_9 => absurd ((nI_le (by omega) (by omega))) q_9)
    refine z_iconst (v := 0) dL_isMade_156 (by decide) ?_
    refine z_istore dL_isMade_157 (by decide) ?_
    exact right 0 (hnot _ hf)
set_option maxRecDepth 100000 in
set_option maxHeartbeats 8000000 in
theorem l_made5 {x1 x2 x3 : Nat} (hG : zKap G) (hnx : b + 82 ≤ nx) (S : zVs G σ b (nt, lim, mem, wk, slow, r, L, A, tk, sp, cs) R) (he : zRe (nt, lim, mem, wk, slow, r, L, A, tk, sp, cs) R) (h1 : x1 < 2 ^ 31) (h2 : x2 < 2 ^ 31) (h3 : x3 < 2 ^ 31) (hwt : x1 % 6 = 5) : zWP G kL_isMade (zFM G kL_isMade.2.2.2.1 (zSt2 G b)) 0 (zMl b x1 x2 x3 [none, none, none, none, none, none, none, none, none, none, none]) [] σ nx 0 0 := by
  have h14 : nt.length ≤ 14 := S.2.1.2.2.1
  have hw : zWf nt := S.2.1.1
  obtain ⟨hr, hg0, -, -, -, -, -, -, -⟩ := id he
  have hL : ∀ q ∈ L, q.1 < nt.length := fun q hq => by
    obtain ⟨k, hk⟩ := List.getElem?_of_mem hq
    exact (S.2.1.2.2.2.2.2.2.2.2.2.1 k q hk).1
  have hne : ¬ nI (nt.length + 1) = 0 := fun w => absurd ((nI_eq (b := 0) (by omega) (by decide)).mp w) (Nat.succ_ne_zero _)
  have hq6 : nI x1 - nI x1 / 6 * 6 = nI 5 := by rw [← hwt]; exact pk_rem (d := 6) h1 (by decide) (by decide)
  have hd6 : nI x1 / 6 = nI (x1 / 6) := pk_div (d := 6) h1 (by decide) (by decide)
  obtain ⟨q, hq⟩ : ∃ q, q = x1 / 6 := ⟨_, rfl⟩
  rw [← hq] at hd6
  have hql : q < 2 ^ 31 := by omega
  have hf9 : nI q - nI q / nI (nt.length + 1) * nI (nt.length + 1) = nI (q % (nt.length + 1)) := pk_rem hql (Nat.succ_pos _) (by omega)
  obtain ⟨fv, hfv⟩ : ∃ fv, fv = q % (nt.length + 1) := ⟨_, rfl⟩
  have hfb : fv < nt.length + 1 := by rw [hfv]; exact Nat.mod_lt _ (Nat.succ_pos _)
  rw [← hfv] at hf9
  have hs1 : nI x2 - nI x2 / nI (nt.length + 1) * nI (nt.length + 1) = nI (x2 % (nt.length + 1)) := pk_rem h2 (Nat.succ_pos _) (by omega)
  obtain ⟨s1, hsv⟩ : ∃ s1, s1 = x2 % (nt.length + 1) := ⟨_, rfl⟩
  have hsb : s1 < nt.length + 1 := by rw [hsv]; exact Nat.mod_lt _ (Nat.succ_pos _)
  rw [← hsv] at hs1
  have ht1 : nI x3 - nI x3 / 6 * 6 = nI (x3 % 6) := pk_rem (d := 6) h3 (by decide) (by decide)
  obtain ⟨t1, ht1v⟩ : ∃ t1, t1 = x3 % 6 := ⟨_, rfl⟩
  have htb : t1 < 6 := by omega
  rw [← ht1v] at ht1
  obtain ⟨z, hz⟩ : ∃ z, z = nI t1 := ⟨_, rfl⟩
  obtain ⟨low, hlow⟩ : ∃ low, low = nI x2 - nI x2 / 40 * 40 - 20 := ⟨_, rfl⟩
  have hbf : fv < nt.length → _ := fun h => zNb hw hr h
  have hbs : s1 < nt.length → _ := fun h => zNb hw hr h
  have hthere : fv < nt.length ∧ s1 < nt.length → zWP G kL_isMade (zFM G kL_isMade.2.2.2.1 (zSt2 G b)) 269 (zMl b x1 x2 x3 [some (.int (nI 5)), some (.int (nI fv)), some (.int (nI s1)), some (.int z), some (.int low), some (.int 1), some (.int (if 0 < t1 ∧ t1 < 5 then 1 else 0)), none, none, none, none]) [] σ nx 0 0 := by
    intro hth
    obtain ⟨hfn, hsn⟩ := hth
    obtain ⟨b4, b5, b3, b6, b7, b8, b9⟩ := hbf hfn
    obtain ⟨c4, c5, c3, c6, c7, c8, c9⟩ := hbs hsn
    have due : ∀ (rv ww : Int32) (wn : Nat), rv = (if 0 < t1 ∧ t1 < 5 then 1 else 0) → ww = nI wn → wn ≤ 16 → (0 < t1 ∧ t1 < 5 → wn ≤ 8 ∧ ww = (if z < nI (zw (nt.getD fv zdf)) then nI (zw (nt.getD fv zdf)) else z)) → zWP G kL_isMade (zFM G kL_isMade.2.2.2.1 (zSt2 G b)) 421 (zMl b x1 x2 x3 [some (.int (nI 5)), some (.int (nI fv)), some (.int (nI s1)), some (.int z), some (.int low), some (.int 1), some (.int rv), some (.int (nI (zb (nt.getD fv zdf) * zb (nt.getD s1 zdf)))), some (.int ww), none, none]) [] σ nx 0 0 := by
      intro rv ww wn hrv hwn hwn16 hwc
      by_cases hri : 0 < t1 ∧ t1 < 5
      rotate_left
      · rw [if_neg hri] at hrv
        subst hrv
        have hzk : zk_join nt (nI fv) (nI s1) z = 2 := by
          rw [zk_join, if_neg (fun w => w.elim (znob_in (by omega) hfn) (znob_in (by omega) hsn)), if_pos (by
            rw [hz]
            rcases Nat.eq_zero_or_pos t1 with y | y
            · left; rw [y]; decide
            · right; exact nI_lt (a := 4) (by omega) (by omega))]
        refine z_iload dL_isMade_421 rfl ?_
        refine z_if_ne (tgt := 431) dL_isMade_423 (by decide) (fun _ => ?_) (fun q_9 => absurd q_9 (((by decide))))
        refine z_iload dL_isMade_431 rfl ?_
        refine z_if_ne (tgt := 441) dL_isMade_433 (by decide) (fun q_9 => absurd ((rfl)) q_9) (fun _ => ?_)
        refine z_bipush (v := (-20)) dL_isMade_436 (by decide) ?_
        refine z_goto (tgt := 474) dL_isMade_438 (by decide) ?_
        refine z_istore dL_isMade_474 (by decide) ?_
        refine z_aload_n dL_isMade_476 rfl ?_
        refine z_iload dL_isMade_477 rfl ?_
        refine z_iload dL_isMade_479 rfl ?_
        refine z_iload dL_isMade_481 rfl ?_
        refine z_iconst (v := 2) dL_isMade_483 (by decide) ?_
        refine z_icmp_ne (tgt := 492) dL_isMade_484 (by decide) (fun _ => ?_) (fun q_9 => absurd q_9 (((by decide))))
        refine z_iload dL_isMade_492 rfl ?_
        refine z_iload dL_isMade_494 rfl ?_
        refine z_callH dL_isMade_496 ch_L_171 (w_makes_join hG hnx S) rfl rfl ⟨(Nat.le_of_ble_eq_true rfl), (Nat.le_of_ble_eq_true rfl)⟩ (Nat.le_of_ble_eq_true rfl) (Nat.le_of_ble_eq_true rfl) (Nat.le_of_ble_eq_true rfl) (fun v σ1 nx1 hx1 hq1 => ?_)
        obtain ⟨rfl, S⟩ := (hq1.bad3 S).2.1 hzk
        replace hnx := Nat.le_trans hnx hx1
        rw [zxc_A]
        exact l_madeA (Nat.le_of_ble_eq_true rfl) (Nat.le_of_ble_eq_true rfl) (by decide) S he
      rw [if_pos hri] at hrv
      subst hrv
      have hwc := hwc hri
      by_cases hn14 : nt.length = 14
      · have hzk : zk_join nt (nI fv) (nI s1) z = 3 := by
          rw [zk_join, if_neg (fun w => w.elim (znob_in (by omega) hfn) (znob_in (by omega) hsn)), if_neg (by
            rw [hz]
            rintro (w | w)
            · exact nI_nlt (a := t1) (b := 1) (by omega) (by omega) w
            · exact nI_nlt (a := 4) (b := t1) (by omega) (by omega) w), nI_clamp (by omega), nI_clamp (by omega), if_pos (Or.inl hn14)]
        refine z_iload dL_isMade_421 rfl ?_
        refine z_if_ne (tgt := 431) dL_isMade_423 (by decide) (fun _ => ?_) (fun q_9 => absurd q_9 (((by decide))))
        refine z_iload dL_isMade_431 rfl ?_
        refine z_if_ne (tgt := 441) dL_isMade_433 (by decide) (fun _ => ?_) (fun q_9 => absurd q_9 (((by decide))))
        refine z_aload dL_isMade_441 rfl ?_
        refine z_iconst (v := 0) dL_isMade_443 (by decide) ?_
        refine z_gr dL_isMade_444 S (i := 0) (by decide) hg0 ?_
        refine z_bipush (v := 14) dL_isMade_445 (by decide) ?_
        refine z_icmp_eq (tgt := 465) dL_isMade_447 (by decide) (fun _ => ?_) (fun q_9 => absurd (((by rw [hn14]; rfl))) q_9)
        refine z_bipush (v := (-10)) dL_isMade_465 (by decide) ?_
        refine z_goto (tgt := 474) dL_isMade_467 (by decide) ?_
        refine z_istore dL_isMade_474 (by decide) ?_
        refine z_aload_n dL_isMade_476 rfl ?_
        refine z_iload dL_isMade_477 rfl ?_
        refine z_iload dL_isMade_479 rfl ?_
        refine z_iload dL_isMade_481 rfl ?_
        refine z_iconst (v := 2) dL_isMade_483 (by decide) ?_
        refine z_icmp_ne (tgt := 492) dL_isMade_484 (by decide) (fun _ => ?_) (fun q_9 => absurd q_9 (((by decide))))
        refine z_iload dL_isMade_492 rfl ?_
        refine z_iload dL_isMade_494 rfl ?_
        refine z_callH dL_isMade_496 ch_L_171 (w_makes_join hG hnx S) rfl rfl ⟨(Nat.le_of_ble_eq_true rfl), (Nat.le_of_ble_eq_true rfl)⟩ (Nat.le_of_ble_eq_true rfl) (Nat.le_of_ble_eq_true rfl) (Nat.le_of_ble_eq_true rfl) (fun v σ1 nx1 hx1 hq1 => ?_)
        obtain ⟨rfl, S⟩ := (hq1.bad3 S).2.2 hzk
        replace hnx := Nat.le_trans hnx hx1
        rw [zxc_S]
        exact l_madeA (Nat.le_of_ble_eq_true rfl) (Nat.le_of_ble_eq_true rfl) (by decide) S he
      by_cases hb300 : 300 < (zb (nt.getD fv zdf) * zb (nt.getD s1 zdf))
      · have hmul : (zb (nt.getD fv zdf) * zb (nt.getD s1 zdf)) < 2 ^ 31 := by
          have := Nat.mul_le_mul b7 c7; omega
        have hzk : zk_join nt (nI fv) (nI s1) z = 3 := by
          rw [zk_join, if_neg (fun w => w.elim (znob_in (by omega) hfn) (znob_in (by omega) hsn)), if_neg (by
            rw [hz]
            rintro (w | w)
            · exact nI_nlt (a := t1) (b := 1) (by omega) (by omega) w
            · exact nI_nlt (a := 4) (b := t1) (by omega) (by omega) w), nI_clamp (by omega), nI_clamp (by omega), if_pos (Or.inr hb300)]
        refine z_iload dL_isMade_421 rfl ?_
        refine z_if_ne (tgt := 431) dL_isMade_423 (by decide) (fun _ => ?_) (fun q_9 => absurd q_9 (((by decide))))
        refine z_iload dL_isMade_431 rfl ?_
        refine z_if_ne (tgt := 441) dL_isMade_433 (by decide) (fun _ => ?_) (fun q_9 => absurd q_9 (((by decide))))
        refine z_aload dL_isMade_441 rfl ?_
        refine z_iconst (v := 0) dL_isMade_443 (by decide) ?_
        refine z_gr dL_isMade_444 S (i := 0) (by decide) hg0 ?_
        refine z_bipush (v := 14) dL_isMade_445 (by decide) ?_
        refine z_icmp_eq (tgt := 465) dL_isMade_447 (by decide) (fun q_9 => absurd q_9 (((fun w => hn14 ((nI_eq (b := 14) (by omega) (by decide)).mp w))))) (fun _ => ?_)
        refine z_iload dL_isMade_450 rfl ?_
        refine z_sipush (v := 300) dL_isMade_452 (by decide) ?_
        refine z_icmp_gt (tgt := 465) dL_isMade_455 (by decide) (fun _ => ?_) (fun q_9 => absurd (((show nI 300 < nI _ from nI_lt hb300 hmul))) q_9)
        refine z_bipush (v := (-10)) dL_isMade_465 (by decide) ?_
        refine z_goto (tgt := 474) dL_isMade_467 (by decide) ?_
        refine z_istore dL_isMade_474 (by decide) ?_
        refine z_aload_n dL_isMade_476 rfl ?_
        refine z_iload dL_isMade_477 rfl ?_
        refine z_iload dL_isMade_479 rfl ?_
        refine z_iload dL_isMade_481 rfl ?_
        refine z_iconst (v := 2) dL_isMade_483 (by decide) ?_
        refine z_icmp_ne (tgt := 492) dL_isMade_484 (by decide) (fun _ => ?_) (fun q_9 => absurd q_9 (((by decide))))
        refine z_iload dL_isMade_492 rfl ?_
        refine z_iload dL_isMade_494 rfl ?_
        refine z_callH dL_isMade_496 ch_L_171 (w_makes_join hG hnx S) rfl rfl ⟨(Nat.le_of_ble_eq_true rfl), (Nat.le_of_ble_eq_true rfl)⟩ (Nat.le_of_ble_eq_true rfl) (Nat.le_of_ble_eq_true rfl) (Nat.le_of_ble_eq_true rfl) (fun v σ1 nx1 hx1 hq1 => ?_)
        obtain ⟨rfl, S⟩ := (hq1.bad3 S).2.2 hzk
        replace hnx := Nat.le_trans hnx hx1
        rw [zxc_S]
        exact l_madeA (Nat.le_of_ble_eq_true rfl) (Nat.le_of_ble_eq_true rfl) (by decide) S he
      have hzk : zk_join nt (nI fv) (nI s1) z = 0 := by
        rw [zk_join, if_neg (fun w => w.elim (znob_in (by omega) hfn) (znob_in (by omega) hsn)), if_neg (by
          rw [hz]
          rintro (w | w)
          · exact nI_nlt (a := t1) (b := 1) (by omega) (by omega) w
          · exact nI_nlt (a := 4) (b := t1) (by omega) (by omega) w), nI_clamp (by omega), nI_clamp (by omega), if_neg (fun w => w.elim hn14 hb300)]
      refine z_iload dL_isMade_421 rfl ?_
      refine z_if_ne (tgt := 431) dL_isMade_423 (by decide) (fun _ => ?_) (fun q_9 => absurd q_9 (((by decide))))
      refine z_iload dL_isMade_431 rfl ?_
      refine z_if_ne (tgt := 441) dL_isMade_433 (by decide) (fun _ => ?_) (fun q_9 => absurd q_9 (((by decide))))
      refine z_aload dL_isMade_441 rfl ?_
      refine z_iconst (v := 0) dL_isMade_443 (by decide) ?_
      refine z_gr dL_isMade_444 S (i := 0) (by decide) hg0 ?_
      refine z_bipush (v := 14) dL_isMade_445 (by decide) ?_
      refine z_icmp_eq (tgt := 465) dL_isMade_447 (by decide) (fun q_9 => absurd q_9 (((fun w => hn14 ((nI_eq (b := 14) (by omega) (by decide)).mp w))))) (fun _ => ?_)
      refine z_iload dL_isMade_450 rfl ?_
      refine z_sipush (v := 300) dL_isMade_452 (by decide) ?_
      refine z_icmp_gt (tgt := 465) dL_isMade_455 (by decide) (fun q_9 => absurd q_9 (((show ¬ nI 300 < nI _ from nI_nlt (by omega) (by omega))))) (fun _ => ?_)
      refine z_iload dL_isMade_458 rfl ?_
      refine z_bipush (v := 8) dL_isMade_460 (by decide) ?_
      refine z_icmp_le (tgt := 470) dL_isMade_462 (by decide) (fun _ => ?_) (fun q_9 => absurd (((by rw [hwn]; exact nI_le (b := 8) (by omega) (by decide)))) q_9)
      refine z_aload dL_isMade_470 rfl ?_
      refine z_iconst (v := 0) dL_isMade_472 (by decide) ?_
      refine z_gr dL_isMade_473 S (i := 0) (by decide) hg0 ?_
      refine z_istore dL_isMade_474 (by decide) ?_
      refine z_aload_n dL_isMade_476 rfl ?_
      refine z_iload dL_isMade_477 rfl ?_
      refine z_iload dL_isMade_479 rfl ?_
      refine z_iload dL_isMade_481 rfl ?_
      refine z_iconst (v := 2) dL_isMade_483 (by decide) ?_
      refine z_icmp_ne (tgt := 492) dL_isMade_484 (by decide) (fun _ => ?_) (fun q_9 => absurd q_9 (((by decide))))
      refine z_iload dL_isMade_492 rfl ?_
      refine z_iload dL_isMade_494 rfl ?_
      refine z_callH dL_isMade_496 ch_L_171 (w_makes_join hG hnx S) rfl rfl ⟨(Nat.le_of_ble_eq_true rfl), (Nat.le_of_ble_eq_true rfl)⟩ (Nat.le_of_ble_eq_true rfl) (Nat.le_of_ble_eq_true rfl) (Nat.le_of_ble_eq_true rfl) (fun v σ1 nx1 hx1 hq1 => ?_)
      obtain ⟨u', w, rfl, hP, hT, hF⟩ := hq1.good rfl hzk
      replace hnx := Nat.le_trans hnx hx1
      have ok' := o_join S.2.1 hzk hP hT
      obtain ⟨rfl, e, ek, eD, eR, rfl⟩ := hP
      have S' : zVs G σ1 b (nt ++ [e], lim, mem, wk, slow, r, L, A, tk, sp, cs) R := ⟨hT, ok', S.2.2.fr hF⟩
      refine l_madeB hG (Nat.le_of_ble_eq_true rfl) (Nat.le_of_ble_eq_true rfl) (by decide) (by omega) S' hL he ek ?_
      rw [eD]
      rw [nI_clamp (show fv < 2 ^ 31 by omega)]
      rw [nI_clamp (show s1 < 2 ^ 31 by omega)]
      exact ⟨by show (nt.getD fv zdf).2.2.1 3 * (nt.getD s1 zdf).2.2.1 3 = _; rw [b3, c3, pk_mul], by show (if z < (nt.getD fv zdf).2.2.1 4 then (nt.getD fv zdf).2.2.1 4 else z) = _; rw [b6]; exact hwc.2.symm, rfl, (fun w => absurd w (by decide)), fun _ => rfl, (fun w => absurd w (by decide)), (fun w => absurd w (by decide)), (fun w => absurd w (by decide)), (fun w => absurd w (by decide)), fun _ => ⟨rfl, rfl⟩, (fun w => absurd w (by decide))⟩
    by_cases hzw : z ≤ nI (zw (nt.getD fv zdf))
    · refine z_iload dL_isMade_269 rfl ?_
      refine z_if_ne (tgt := 278) dL_isMade_271 (by decide) (fun _ => ?_) (fun q_9 => absurd q_9 (((by decide))))
      refine z_iload dL_isMade_278 rfl ?_
      refine z_if_ne (tgt := 288) dL_isMade_280 (by decide) (fun _ => ?_) (fun q_9 => absurd q_9 (((by decide))))
      refine z_iload dL_isMade_288 rfl ?_
      refine z_iconst (v := 3) dL_isMade_290 (by decide) ?_
      refine z_icmp_ne (tgt := 308) dL_isMade_291 (by decide) (fun _ => ?_) (fun q_9 => absurd q_9 (((by decide))))
      refine z_iload dL_isMade_308 rfl ?_
      refine z_iconst (v := 5) dL_isMade_310 (by decide) ?_
      refine z_icmp_ne (tgt := 328) dL_isMade_311 (by decide) (fun q_9 => absurd ((rfl)) q_9) (fun _ => ?_)
      refine z_aload dL_isMade_314 rfl ?_
      refine z_iload dL_isMade_316 rfl ?_
      refine z_ar dL_isMade_318 S (by decide) (by omega) b4 ?_
      refine z_aload dL_isMade_319 rfl ?_
      refine z_iload dL_isMade_321 rfl ?_
      refine z_ar dL_isMade_323 S (by decide) (by omega) c4 ?_
      refine z_imul dL_isMade_324 ?_
      refine z_goto (tgt := 333) dL_isMade_325 (by decide) ?_
      rw [pk_mul]
      refine z_istore dL_isMade_333 (by decide) ?_
      refine z_iload dL_isMade_335 rfl ?_
      refine z_if_ne (tgt := 344) dL_isMade_337 (by decide) (fun _ => ?_) (fun q_9 => absurd q_9 (((by decide))))
      refine z_iload dL_isMade_344 rfl ?_
      refine z_if_ne (tgt := 354) dL_isMade_346 (by decide) (fun _ => ?_) (fun q_9 => absurd q_9 (((by decide))))
      refine z_iload dL_isMade_354 rfl ?_
      refine z_iconst (v := 3) dL_isMade_356 (by decide) ?_
      refine z_icmp_ne (tgt := 374) dL_isMade_357 (by decide) (fun _ => ?_) (fun q_9 => absurd q_9 (((by decide))))
      refine z_iload dL_isMade_374 rfl ?_
      refine z_iconst (v := 4) dL_isMade_376 (by decide) ?_
      refine z_icmp_ne (tgt := 385) dL_isMade_377 (by decide) (fun _ => ?_) (fun q_9 => absurd q_9 (((by decide))))
      refine z_iload dL_isMade_385 rfl ?_
      refine z_iconst (v := 5) dL_isMade_387 (by decide) ?_
      refine z_icmp_ne (tgt := 414) dL_isMade_388 (by decide) (fun q_9 => absurd ((rfl)) q_9) (fun _ => ?_)
      refine z_iload dL_isMade_391 rfl ?_
      refine z_aload dL_isMade_393 rfl ?_
      refine z_iload dL_isMade_395 rfl ?_
      refine z_ar dL_isMade_397 S (by decide) (by omega) b5 ?_
      refine z_icmp_le (tgt := 406) dL_isMade_398 (by decide) (fun _ => ?_) (fun q_9 => absurd ((hzw)) q_9)
      refine z_aload dL_isMade_406 rfl ?_
      refine z_iload dL_isMade_408 rfl ?_
      refine z_ar dL_isMade_410 S (by decide) (by omega) b5 ?_
      refine z_goto (tgt := 419) dL_isMade_411 (by decide) ?_
      refine z_istore dL_isMade_419 (by decide) ?_
      refine due _ _ (zw (nt.getD fv zdf)) rfl rfl (by omega) (fun _ => ⟨b9, ?_⟩)
      by_cases y : z < nI (zw (nt.getD fv zdf))
      · rw [if_pos y]
      · rw [if_neg y]
        exact Int32.le_antisymm (Int32.not_lt.mp y) hzw
    · refine z_iload dL_isMade_269 rfl ?_
      refine z_if_ne (tgt := 278) dL_isMade_271 (by decide) (fun _ => ?_) (fun q_9 => absurd q_9 (((by decide))))
      refine z_iload dL_isMade_278 rfl ?_
      refine z_if_ne (tgt := 288) dL_isMade_280 (by decide) (fun _ => ?_) (fun q_9 => absurd q_9 (((by decide))))
      refine z_iload dL_isMade_288 rfl ?_
      refine z_iconst (v := 3) dL_isMade_290 (by decide) ?_
      refine z_icmp_ne (tgt := 308) dL_isMade_291 (by decide) (fun _ => ?_) (fun q_9 => absurd q_9 (((by decide))))
      refine z_iload dL_isMade_308 rfl ?_
      refine z_iconst (v := 5) dL_isMade_310 (by decide) ?_
      refine z_icmp_ne (tgt := 328) dL_isMade_311 (by decide) (fun q_9 => absurd ((rfl)) q_9) (fun _ => ?_)
      refine z_aload dL_isMade_314 rfl ?_
      refine z_iload dL_isMade_316 rfl ?_
      refine z_ar dL_isMade_318 S (by decide) (by omega) b4 ?_
      refine z_aload dL_isMade_319 rfl ?_
      refine z_iload dL_isMade_321 rfl ?_
      refine z_ar dL_isMade_323 S (by decide) (by omega) c4 ?_
      refine z_imul dL_isMade_324 ?_
      refine z_goto (tgt := 333) dL_isMade_325 (by decide) ?_
      rw [pk_mul]
      refine z_istore dL_isMade_333 (by decide) ?_
      refine z_iload dL_isMade_335 rfl ?_
      refine z_if_ne (tgt := 344) dL_isMade_337 (by decide) (fun _ => ?_) (fun q_9 => absurd q_9 (((by decide))))
      refine z_iload dL_isMade_344 rfl ?_
      refine z_if_ne (tgt := 354) dL_isMade_346 (by decide) (fun _ => ?_) (fun q_9 => absurd q_9 (((by decide))))
      refine z_iload dL_isMade_354 rfl ?_
      refine z_iconst (v := 3) dL_isMade_356 (by decide) ?_
      refine z_icmp_ne (tgt := 374) dL_isMade_357 (by decide) (fun _ => ?_) (fun q_9 => absurd q_9 (((by decide))))
      refine z_iload dL_isMade_374 rfl ?_
      refine z_iconst (v := 4) dL_isMade_376 (by decide) ?_
      refine z_icmp_ne (tgt := 385) dL_isMade_377 (by decide) (fun _ => ?_) (fun q_9 => absurd q_9 (((by decide))))
      refine z_iload dL_isMade_385 rfl ?_
      refine z_iconst (v := 5) dL_isMade_387 (by decide) ?_
      refine z_icmp_ne (tgt := 414) dL_isMade_388 (by decide) (fun q_9 => absurd ((rfl)) q_9) (fun _ => ?_)
      refine z_iload dL_isMade_391 rfl ?_
      refine z_aload dL_isMade_393 rfl ?_
      refine z_iload dL_isMade_395 rfl ?_
      refine z_ar dL_isMade_397 S (by decide) (by omega) b5 ?_
      refine z_icmp_le (tgt := 406) dL_isMade_398 (by decide) (fun q_9 => absurd q_9 ((hzw))) (fun _ => ?_)
      refine z_iload dL_isMade_401 rfl ?_
      refine z_goto (tgt := 419) dL_isMade_403 (by decide) ?_
      refine z_istore dL_isMade_419 (by decide) ?_
      exact due _ _ t1 rfl hz (by omega) (fun _ => ⟨by omega, by rw [if_neg (Int32.not_lt.mpr (Int32.le_of_lt (Int32.not_le.mp hzw)))]⟩)
  have hnot : ∀ rv : Int32, ¬ (fv < nt.length ∧ s1 < nt.length) → zWP G kL_isMade (zFM G kL_isMade.2.2.2.1 (zSt2 G b)) 269 (zMl b x1 x2 x3 [some (.int (nI 5)), some (.int (nI fv)), some (.int (nI s1)), some (.int z), some (.int low), some (.int 0), some (.int rv), none, none, none, none]) [] σ nx 0 0 := by
    intro rv hth
    have hzk : zk_join nt (nI fv) (nI s1) z = 1 := by
      rw [zk_join, if_pos (by
        rcases Nat.lt_or_ge fv nt.length with w | w
        · exact Or.inr (znob_no (Or.inr (nI_le (by omega) (by omega))))
        · exact Or.inl (znob_no (Or.inr (nI_le (by omega) (by omega)))))]
    refine z_iload dL_isMade_269 rfl ?_
    refine z_if_ne (tgt := 278) dL_isMade_271 (by decide) (fun q_9 => absurd ((rfl)) q_9) (fun _ => ?_)
    refine z_iconst (v := 0) dL_isMade_274 (by decide) ?_
    refine z_goto (tgt := 333) dL_isMade_275 (by decide) ?_
    refine z_istore dL_isMade_333 (by decide) ?_
    refine z_iload dL_isMade_335 rfl ?_
    refine z_if_ne (tgt := 344) dL_isMade_337 (by decide) (fun q_9 => absurd ((rfl)) q_9) (fun _ => ?_)
    refine z_iconst (v := 0) dL_isMade_340 (by decide) ?_
    refine z_goto (tgt := 419) dL_isMade_341 (by decide) ?_
    refine z_istore dL_isMade_419 (by decide) ?_
    refine z_iload dL_isMade_421 rfl ?_
    refine z_if_ne (tgt := 431) dL_isMade_423 (by decide) (fun q_9 => absurd ((rfl)) q_9) (fun _ => ?_)
    refine z_bipush (v := (-30)) dL_isMade_426 (by decide) ?_
    refine z_goto (tgt := 474) dL_isMade_428 (by decide) ?_
    refine z_istore dL_isMade_474 (by decide) ?_
    refine z_aload_n dL_isMade_476 rfl ?_
    refine z_iload dL_isMade_477 rfl ?_
    refine z_iload dL_isMade_479 rfl ?_
    refine z_iload dL_isMade_481 rfl ?_
    refine z_iconst (v := 2) dL_isMade_483 (by decide) ?_
    refine z_icmp_ne (tgt := 492) dL_isMade_484 (by decide) (fun _ => ?_) (fun q_9 => absurd q_9 (((by decide))))
    refine z_iload dL_isMade_492 rfl ?_
    refine z_iload dL_isMade_494 rfl ?_
    refine z_callH dL_isMade_496 ch_L_171 (w_makes_join hG hnx S) rfl rfl ⟨(Nat.le_of_ble_eq_true rfl), (Nat.le_of_ble_eq_true rfl)⟩ (Nat.le_of_ble_eq_true rfl) (Nat.le_of_ble_eq_true rfl) (Nat.le_of_ble_eq_true rfl) (fun v σ1 nx1 hx1 hq1 => ?_)
    obtain ⟨rfl, S⟩ := (hq1.bad3 S).1 hzk
    replace hnx := Nat.le_trans hnx hx1
    rw [zxc_I]
    exact l_madeA (Nat.le_of_ble_eq_true rfl) (Nat.le_of_ble_eq_true rfl) (by decide) S he
  have right : ∀ tv : Int32, (zWP G kL_isMade (zFM G kL_isMade.2.2.2.1 (zSt2 G b)) 269 (zMl b x1 x2 x3 [some (.int (nI 5)), some (.int (nI fv)), some (.int (nI s1)), some (.int z), some (.int low), some (.int tv), some (.int (if 0 < t1 ∧ t1 < 5 then 1 else 0)), none, none, none, none]) [] σ nx 0 0) → zWP G kL_isMade (zFM G kL_isMade.2.2.2.1 (zSt2 G b)) 159 (zMl b x1 x2 x3 [some (.int (nI 5)), some (.int (nI fv)), some (.int (nI s1)), some (.int z), some (.int low), some (.int tv), none, none, none, none, none]) [] σ nx 0 0 := by
    intro tv kk
    by_cases c2 : 0 < t1
    · by_cases c3 : t1 < 5
      · rw [if_pos ⟨c2, c3⟩] at kk
        refine z_iload dL_isMade_159 rfl ?_
        refine z_if_ne (tgt := 183) dL_isMade_161 (by decide) (fun _ => ?_) (fun q_9 => absurd q_9 (((by decide))))
        refine z_iload dL_isMade_183 rfl ?_
        refine z_iconst (v := 1) dL_isMade_185 (by decide) ?_
        refine z_icmp_ne (tgt := 214) dL_isMade_186 (by decide) (fun _ => ?_) (fun q_9 => absurd q_9 (((by decide))))
        refine z_iload dL_isMade_214 rfl ?_
        refine z_iconst (v := 4) dL_isMade_216 (by decide) ?_
        refine z_icmp_ne (tgt := 245) dL_isMade_217 (by decide) (fun _ => ?_) (fun q_9 => absurd q_9 (((by decide))))
        refine z_iload dL_isMade_245 rfl ?_
        refine z_iconst (v := 5) dL_isMade_247 (by decide) ?_
        refine z_icmp_ne (tgt := 262) dL_isMade_248 (by decide) (fun q_9 => absurd ((rfl)) q_9) (fun _ => ?_)
        refine z_iload dL_isMade_251 rfl ?_
        refine z_if_le (tgt := 266) dL_isMade_253 (by decide) (fun q_9 => absurd q_9 (((by rw [hz]; exact nI_ge (a := 0) c2 (by omega))))) (fun _ => ?_)
        refine z_iload dL_isMade_256 rfl ?_
        refine z_iconst (v := 5) dL_isMade_258 (by decide) ?_
        refine z_icmp_ge (tgt := 266) dL_isMade_259 (by decide) (fun q_9 => absurd q_9 (((by rw [hz]; exact nI_ge (b := 5) c3 (by decide))))) (fun _ => ?_)
        refine z_iconst (v := 1) dL_isMade_262 (by decide) ?_
        refine z_goto (tgt := 267) dL_isMade_263 (by decide) ?_
        refine z_istore dL_isMade_267 (by decide) ?_
        exact kk
      · rw [if_neg (fun w => c3 w.2)] at kk
        refine z_iload dL_isMade_159 rfl ?_
        refine z_if_ne (tgt := 183) dL_isMade_161 (by decide) (fun _ => ?_) (fun q_9 => absurd q_9 (((by decide))))
        refine z_iload dL_isMade_183 rfl ?_
        refine z_iconst (v := 1) dL_isMade_185 (by decide) ?_
        refine z_icmp_ne (tgt := 214) dL_isMade_186 (by decide) (fun _ => ?_) (fun q_9 => absurd q_9 (((by decide))))
        refine z_iload dL_isMade_214 rfl ?_
        refine z_iconst (v := 4) dL_isMade_216 (by decide) ?_
        refine z_icmp_ne (tgt := 245) dL_isMade_217 (by decide) (fun _ => ?_) (fun q_9 => absurd q_9 (((by decide))))
        refine z_iload dL_isMade_245 rfl ?_
        refine z_iconst (v := 5) dL_isMade_247 (by decide) ?_
        refine z_icmp_ne (tgt := 262) dL_isMade_248 (by decide) (fun q_9 => absurd ((rfl)) q_9) (fun _ => ?_)
        refine z_iload dL_isMade_251 rfl ?_
        refine z_if_le (tgt := 266) dL_isMade_253 (by decide) (fun q_9 => absurd q_9 (((by rw [hz]; exact nI_ge (a := 0) c2 (by omega))))) (fun _ => ?_)
        refine z_iload dL_isMade_256 rfl ?_
        refine z_iconst (v := 5) dL_isMade_258 (by decide) ?_
        refine z_icmp_ge (tgt := 266) dL_isMade_259 (by decide) (fun _ => ?_) (fun q_9 => absurd (((by rw [hz]; exact nI_le (a := 5) (by omega) (by omega)))) q_9)
        refine z_iconst (v := 0) dL_isMade_266 (by decide) ?_
        refine z_istore dL_isMade_267 (by decide) ?_
        exact kk
    · rw [if_neg (fun w => c2 w.1)] at kk
      refine z_iload dL_isMade_159 rfl ?_
      refine z_if_ne (tgt := 183) dL_isMade_161 (by decide) (fun _ => ?_) (fun q_9 => absurd q_9 (((by decide))))
      refine z_iload dL_isMade_183 rfl ?_
      refine z_iconst (v := 1) dL_isMade_185 (by decide) ?_
      refine z_icmp_ne (tgt := 214) dL_isMade_186 (by decide) (fun _ => ?_) (fun q_9 => absurd q_9 (((by decide))))
      refine z_iload dL_isMade_214 rfl ?_
      refine z_iconst (v := 4) dL_isMade_216 (by decide) ?_
      refine z_icmp_ne (tgt := 245) dL_isMade_217 (by decide) (fun _ => ?_) (fun q_9 => absurd q_9 (((by decide))))
      refine z_iload dL_isMade_245 rfl ?_
      refine z_iconst (v := 5) dL_isMade_247 (by decide) ?_
      refine z_icmp_ne (tgt := 262) dL_isMade_248 (by decide) (fun q_9 => absurd ((rfl)) q_9) (fun _ => ?_)
      refine z_iload dL_isMade_251 rfl ?_
      refine z_if_le (tgt := 266) dL_isMade_253 (by decide) (fun _ => ?_) (fun q_9 => absurd (((by rw [hz]; exact nI_le (b := 0) (by omega) (by decide)))) q_9)
      refine z_iconst (v := 0) dL_isMade_266 (by decide) ?_
      refine z_istore dL_isMade_267 (by decide) ?_
      exact kk
  refine z_iload dL_isMade_0 rfl ?_
  refine z_bipush (v := 6) dL_isMade_2 (by decide) ?_
  refine z_irem dL_isMade_4 (by decide) ?_
  rw [hq6]
  refine z_istore dL_isMade_5 (by decide) ?_
  refine z_iload dL_isMade_7 rfl ?_
  refine z_bipush (v := 6) dL_isMade_9 (by decide) ?_
  refine z_idiv dL_isMade_11 (by decide) ?_
  rw [hd6]
  refine z_aload dL_isMade_12 rfl ?_
  refine z_iconst (v := 0) dL_isMade_14 (by decide) ?_
  refine z_gr dL_isMade_15 S (i := 0) (by decide) hg0 ?_
  refine z_iconst (v := 1) dL_isMade_16 (by decide) ?_
  refine z_iadd dL_isMade_17 ?_
  rw [nI_1]
  refine z_irem dL_isMade_18 hne ?_
  rw [hf9]
  refine z_istore dL_isMade_19 (by decide) ?_
  refine z_iload dL_isMade_21 rfl ?_
  refine z_iconst (v := 3) dL_isMade_23 (by decide) ?_
  refine z_icmp_eq (tgt := 33) dL_isMade_24 (by decide) (fun q_9 => absurd q_9 (((by decide)))) (fun _ => ?_)
  refine z_iload dL_isMade_27 rfl ?_
  refine z_iconst (v := 5) dL_isMade_29 (by decide) ?_
  refine z_icmp_ne (tgt := 45) dL_isMade_30 (by decide) (fun q_9 => absurd ((rfl)) q_9) (fun _ => ?_)
  refine z_iload dL_isMade_33 rfl ?_
  refine z_aload dL_isMade_35 rfl ?_
  refine z_iconst (v := 0) dL_isMade_37 (by decide) ?_
  refine z_gr dL_isMade_38 S (i := 0) (by decide) hg0 ?_
  refine z_iconst (v := 1) dL_isMade_39 (by decide) ?_
  refine z_iadd dL_isMade_40 ?_
  rw [nI_1]
  refine z_irem dL_isMade_41 hne ?_
  rw [hs1]
  refine z_goto (tgt := 50) dL_isMade_42 (by decide) ?_
  refine z_istore dL_isMade_50 (by decide) ?_
  refine z_iload dL_isMade_52 rfl ?_
  refine z_iconst (v := 2) dL_isMade_54 (by decide) ?_
  refine z_icmp_ne (tgt := 69) dL_isMade_55 (by decide) (fun _ => ?_) (fun q_9 => absurd q_9 (((by decide))))
  refine z_iload dL_isMade_69 rfl ?_
  refine z_iconst (v := 1) dL_isMade_71 (by decide) ?_
  refine z_icmp_ne (tgt := 85) dL_isMade_72 (by decide) (fun _ => ?_) (fun q_9 => absurd q_9 (((by decide))))
  refine z_iload dL_isMade_85 rfl ?_
  refine z_bipush (v := 6) dL_isMade_87 (by decide) ?_
  refine z_irem dL_isMade_89 (by decide) ?_
  rw [ht1, ← hz]
  refine z_istore dL_isMade_90 (by decide) ?_
  refine z_iload dL_isMade_92 rfl ?_
  refine z_if_ne (tgt := 107) dL_isMade_94 (by decide) (fun _ => ?_) (fun q_9 => absurd q_9 (((by decide))))
  refine z_iload dL_isMade_107 rfl ?_
  refine z_bipush (v := 40) dL_isMade_109 (by decide) ?_
  refine z_irem dL_isMade_111 (by decide) ?_
  refine z_bipush (v := 20) dL_isMade_112 (by decide) ?_
  refine z_isub dL_isMade_114 ?_
  rw [← hlow]
  refine z_istore dL_isMade_115 (by decide) ?_
  by_cases hf : fv < nt.length
  · by_cases hs : s1 < nt.length
    · refine z_iload dL_isMade_117 rfl ?_
      refine z_if_eq (tgt := 152) dL_isMade_119 (by decide) (fun q_9 => absurd q_9 (((by decide)))) (fun _ => ?_)
      refine z_iload dL_isMade_122 rfl ?_
      refine z_aload dL_isMade_124 rfl ?_
      refine z_iconst (v := 0) dL_isMade_126 (by decide) ?_
      refine z_gr dL_isMade_127 S (i := 0) (by decide) hg0 ?_
      refine z_icmp_ge (tgt := 156) dL_isMade_128 (by decide) (fun q_9 => absurd q_9 ((nI_ge hf (by omega)))) (fun _ => ?_)
      refine z_iload dL_isMade_131 rfl ?_
      refine z_iconst (v := 3) dL_isMade_133 (by decide) ?_
      refine z_icmp_eq (tgt := 143) dL_isMade_134 (by decide) (fun q_9 => absurd q_9 (((by decide)))) (fun _ => ?_)
      refine z_iload dL_isMade_137 rfl ?_
      refine z_iconst (v := 5) dL_isMade_139 (by decide) ?_
      refine z_icmp_ne (tgt := 152) dL_isMade_140 (by decide) (fun q_9 => absurd ((rfl)) q_9) (fun _ => ?_)
      refine z_iload dL_isMade_143 rfl ?_
      refine z_aload dL_isMade_145 rfl ?_
      refine z_iconst (v := 0) dL_isMade_147 (by decide) ?_
      refine z_gr dL_isMade_148 S (i := 0) (by decide) hg0 ?_
      refine z_icmp_ge (tgt := 156) dL_isMade_149 (by decide) (fun q_9 => absurd q_9 ((nI_ge hs (by omega)))) (fun _ => ?_)
      refine z_iconst (v := 1) dL_isMade_152 (by decide) ?_
      refine z_goto (tgt := 157) dL_isMade_153 (by decide) ?_
      refine z_istore dL_isMade_157 (by decide) ?_
      exact right 1 (hthere ⟨hf, hs⟩)
    · refine z_iload dL_isMade_117 rfl ?_
      refine z_if_eq (tgt := 152) dL_isMade_119 (by decide) (fun q_9 => absurd q_9 (((by decide)))) (fun _ => ?_)
      refine z_iload dL_isMade_122 rfl ?_
      refine z_aload dL_isMade_124 rfl ?_
      refine z_iconst (v := 0) dL_isMade_126 (by decide) ?_
      refine z_gr dL_isMade_127 S (i := 0) (by decide) hg0 ?_
      refine z_icmp_ge (tgt := 156) dL_isMade_128 (by decide) (fun q_9 => absurd q_9 ((nI_ge hf (by omega)))) (fun _ => ?_)
      refine z_iload dL_isMade_131 rfl ?_
      refine z_iconst (v := 3) dL_isMade_133 (by decide) ?_
      refine z_icmp_eq (tgt := 143) dL_isMade_134 (by decide) (fun q_9 => absurd q_9 (((by decide)))) (fun _ => ?_)
      refine z_iload dL_isMade_137 rfl ?_
      refine z_iconst (v := 5) dL_isMade_139 (by decide) ?_
      refine z_icmp_ne (tgt := 152) dL_isMade_140 (by decide) (fun q_9 => absurd ((rfl)) q_9) (fun _ => ?_)
      refine z_iload dL_isMade_143 rfl ?_
      refine z_aload dL_isMade_145 rfl ?_
      refine z_iconst (v := 0) dL_isMade_147 (by decide) ?_
      refine z_gr dL_isMade_148 S (i := 0) (by decide) hg0 ?_
      refine z_icmp_ge (tgt := 156) dL_isMade_149 (by decide) (fun _ => ?_) (fun q_9 => absurd ((nI_le (by omega) (by omega))) q_9)
      refine z_iconst (v := 0) dL_isMade_156 (by decide) ?_
      refine z_istore dL_isMade_157 (by decide) ?_
      exact right 0 (hnot _ (fun w => hs w.2))
  · refine z_iload dL_isMade_117 rfl ?_
    refine z_if_eq (tgt := 152) dL_isMade_119 (by decide) (fun q_9 => absurd q_9 (((by decide)))) (fun _ => ?_)
    refine z_iload dL_isMade_122 rfl ?_
    refine z_aload dL_isMade_124 rfl ?_
    refine z_iconst (v := 0) dL_isMade_126 (by decide) ?_
    refine z_gr dL_isMade_127 S (i := 0) (by decide) hg0 ?_
    refine z_icmp_ge (tgt := 156) dL_isMade_128 (by decide) (fun _ => ?_) (fun q_9 => absurd ((nI_le (by omega) (by omega))) q_9)
    refine z_iconst (v := 0) dL_isMade_156 (by decide) ?_
    refine z_istore dL_isMade_157 (by decide) ?_
    exact right 0 (hnot _ (fun w => hf w.1))
end
