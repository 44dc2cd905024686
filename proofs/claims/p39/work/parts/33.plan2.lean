/-! Taskgraphic: stages, outputOf -/
theorem znth_ex {s : Nat → Bool} {n : Nat} (hn : n < zcn s 14) : ∀ d m, m + d = 14 → zcn s m ≤ n → ∃ j, znth s n m d = some j ∧ j < 14 ∧ s j = true ∧ zcn s j = n
  | 0, m, h, h2 => by rw [show m = 14 by omega] at h2; omega
  | d + 1, m, h, h2 => by
    rw [znth]
    by_cases c : s m = true
    · rw [if_pos c]
      by_cases c2 : zcn s m = n
      · rw [if_pos c2]; exact ⟨m, rfl, by omega, c, c2⟩
      · rw [if_neg c2]; exact znth_ex hn d (m + 1) (by omega) (by rw [zcn, if_pos c]; omega)
    · rw [if_neg c]; exact znth_ex hn d (m + 1) (by omega) (by rw [zcn, if_neg c]; omega)
section
variable {G : zG} {σ σ' : zH} {b hi lim mem wk r tk sp cs : Nat} {nt : zNT} {slow : Nat → Nat} {L : zNS} {A : List zAE}
theorem zTG.en {fr : Int32} (h : zTG G σ b hi nt lim mem wk slow r L A tk sp cs) (hgh : zGH G σ (b + 1) (b + 25) hi false lim nt fr) (hw : zWf nt) (hlim : lim ≤ 1000) : zEn G σ (b + 1) (b + 25) (b + 41) hi lim nt fr L r := ⟨hgh, h.ca, hw, hlim, by omega, h.gr.2.2.2.2.2.1⟩
theorem zTG.pl (h : zTG G σ b hi nt lim mem wk slow r L A tk sp cs) : ∃ t rf, zPl G σ (b + 46) (b + 1) (b + 25) (b + 41) t ∧ zInts G σ (b + 46 + 1) 112 rf := by obtain ⟨_, _, _, _, h5, _⟩ := h; exact h5
theorem zPl.c {p g h c : Nat} {t : zT3} (hp : zPl G σ p g h c t) : ∃ u o w, σ p = some (zPC p g h c u o w) := by obtain ⟨u, o, w, q, -⟩ := hp; exact ⟨u, o, w, q⟩
set_option maxRecDepth 100000 in
theorem c_stages {nx : Nat} {x : Int32} (hG : zKap G) (hw : zWf nt) (hlim : lim ≤ 1000) (h : zTG G σ b hi nt lim mem wk slow r L A tk sp cs) : zMX G yX11_stages kX11_stages [.ref b, .int x] σ nx (fun v σ' nx' => (∃ i, i < nt.length ∧ x = nI i ∧ v = some (.int (nI (zcn (zdraw lim nt (zcd L) i).2.1 14)))) ∧ zTG G σ' b hi nt lim mem wk slow r L A tk sp cs ∧ zFh σ σ' b hi ∧ nx' = nx) (fun E σ' nx' => E = zEI ∧ σ' = σ ∧ (x < 0 ∨ nI nt.length ≤ x)) := by
  refine zMX.of (ls := [some (.ref b), some (.int x)]) (by decide +kernel) ⟨rfl, rfl, rfl⟩ (Nat.le_of_ble_eq_true rfl) (fun _ h => h) ?_
  obtain ⟨fr, hgh⟩ := h.2.1
  have hhi := h.2.2.2.2.2.2.2.2
  refine z_aload_n dX11_stages_0 rfl ?_
  refine z_iload_n dX11_stages_1 rfl ?_
  refine z_callVX dX11_stages_2 cv_X11_96 (c_X11_checkNode h.1 h.gr) rfl h.1 rfl rfl ⟨(Nat.le_of_ble_eq_true rfl), (Nat.le_of_ble_eq_true rfl)⟩ (Nat.le_of_ble_eq_true rfl) (Nat.le_of_ble_eq_true rfl) (Nat.le_of_ble_eq_true rfl) rfl (fun E σ' nx' _ q => q) (fun v σ1 nx1 hx1 hq1 => ?_)
  obtain ⟨rfl, rfl, rfl, i, hi, rfl⟩ := hq1
  refine z_aload_n dX11_stages_5 rfl ?_
  refine z_getf dX11_stages_6 fl_X11_25 h.1 rfl ?_
  refine z_iload_n dX11_stages_9 rfl ?_
  refine z_callV dX11_stages_10 cv_X11_187 (c_X3_freshRows hG hgh hw hlim hi) rfl hgh.2.1.1.1 rfl rfl ⟨(Nat.le_of_ble_eq_true rfl), (Nat.le_of_ble_eq_true rfl)⟩ (Nat.le_of_ble_eq_true rfl) (Nat.le_of_ble_eq_true rfl) (Nat.le_of_ble_eq_true rfl) (fun v σ2 nx2 hx2 hq2 => ?_)
  obtain ⟨rfl, ⟨fr2, g1, -, g2⟩, g3, rfl⟩ := hq2
  obtain ⟨t2, f2, has⟩ := h.fresh (nx := nx2) hw hi g1 g2 g3
  obtain ⟨tt, rf, p1, p2⟩ := t2.pl
  obtain ⟨u0, o0, w0, pc⟩ := p1.c
  refine z_pop dX11_stages_13 rfl ?_
  refine z_aload_n dX11_stages_14 rfl ?_
  refine z_getf dX11_stages_15 fl_X11_44 t2.1 rfl ?_
  refine z_iload_n dX11_stages_18 rfl ?_
  refine z_callV dX11_stages_19 cv_X11_268 (c_X8_draw hG (t2.en g1 hw hlim) p1 p2 (by omega) (by omega) hi g2) rfl pc rfl rfl ⟨(Nat.le_of_ble_eq_true rfl), (Nat.le_of_ble_eq_true rfl)⟩ (Nat.le_of_ble_eq_true rfl) (Nat.le_of_ble_eq_true rfl) (Nat.le_of_ble_eq_true rfl) (fun v σ3 nx3 hx3 hq3 => ?_)
  obtain ⟨rfl, q1, ⟨rf', q2, -⟩, q3, rfl⟩ := hq3
  have t3 := t2.onPlan (fun x hx => q3 x (by omega)) ⟨_, rf', q1, q2⟩
  obtain ⟨u1, o1, w1, pc1⟩ := q1.c
  refine z_aload_n dX11_stages_22 rfl ?_
  refine z_getf dX11_stages_23 fl_X11_44 t3.1 rfl ?_
  refine z_callV dX11_stages_26 cv_X11_271 (c_X8_countOfStages q1) rfl pc1 rfl rfl ⟨(Nat.le_of_ble_eq_true rfl), (Nat.le_of_ble_eq_true rfl)⟩ (Nat.le_of_ble_eq_true rfl) (Nat.le_of_ble_eq_true rfl) (Nat.le_of_ble_eq_true rfl) (fun v σ4 nx4 hx4 hq4 => ?_)
  obtain ⟨rfl, rfl, rfl⟩ := hq4
  refine zX ?_
  exact z_iret dX11_stages_29 rfl (Nat.le_of_ble_eq_true rfl) (Nat.le_of_ble_eq_true rfl) ⟨⟨i, hi, rfl, rfl⟩, t3, f2.tr (q3.h (by omega) (by omega)), rfl⟩
set_option maxRecDepth 100000 in
theorem c_outputOf {nx : Nat} {x y : Int32} (hG : zKap G) (hw : zWf nt) (hlim : lim ≤ 1000) (h : zTG G σ b hi nt lim mem wk slow r L A tk sp cs) : zMX G yX11_outputOf kX11_outputOf [.ref b, .int x, .int y] σ nx (fun v σ' nx' => (∃ i n j, i < nt.length ∧ x = nI i ∧ n < zcn (zdraw lim nt (zcd L) i).2.1 14 ∧ y = nI n ∧ j < 14 ∧ (zdraw lim nt (zcd L) i).2.1 j = true ∧ zcn (zdraw lim nt (zcd L) i).2.1 j = n ∧ v = some (.int (nI j))) ∧ zTG G σ' b hi nt lim mem wk slow r L A tk sp cs ∧ zFh σ σ' b hi ∧ nx' = nx)
    (fun E σ' nx' => E = zEI ∧ ((x < 0 ∨ nI nt.length ≤ x) ∨ ∃ i, i < nt.length ∧ x = nI i ∧ (y < 0 ∨ nI (zcn (zdraw lim nt (zcd L) i).2.1 14) ≤ y)) ∧ zTG G σ' b hi nt lim mem wk slow r L A tk sp cs ∧ zFh σ σ' b hi) := by
  refine zMX.of (ls := [some (.ref b), some (.int x), some (.int y)]) (by decide +kernel) ⟨rfl, rfl, rfl⟩ (Nat.le_of_ble_eq_true rfl) (fun _ h => h) ?_
  obtain ⟨fr, hgh⟩ := h.2.1
  have hhi := h.2.2.2.2.2.2.2.2
  refine z_aload_n dX11_outputOf_0 rfl ?_
  refine z_iload_n dX11_outputOf_1 rfl ?_
  refine z_callVX dX11_outputOf_2 cv_X11_96 (c_X11_checkNode h.1 h.gr) rfl h.1 rfl rfl ⟨(Nat.le_of_ble_eq_true rfl), (Nat.le_of_ble_eq_true rfl)⟩ (Nat.le_of_ble_eq_true rfl) (Nat.le_of_ble_eq_true rfl) (Nat.le_of_ble_eq_true rfl) rfl (fun E σ' nx' _ q => ⟨q.1, Or.inl q.2.2, by rw [q.2.1]; exact h, by rw [q.2.1]; exact zFh.rf _ _ _⟩) (fun v σ1 nx1 hx1 hq1 => ?_)
  obtain ⟨rfl, rfl, rfl, i, hi, rfl⟩ := hq1
  refine z_aload_n dX11_outputOf_5 rfl ?_
  refine z_getf dX11_outputOf_6 fl_X11_25 h.1 rfl ?_
  refine z_iload_n dX11_outputOf_9 rfl ?_
  refine z_callV dX11_outputOf_10 cv_X11_187 (c_X3_freshRows hG hgh hw hlim hi) rfl hgh.2.1.1.1 rfl rfl ⟨(Nat.le_of_ble_eq_true rfl), (Nat.le_of_ble_eq_true rfl)⟩ (Nat.le_of_ble_eq_true rfl) (Nat.le_of_ble_eq_true rfl) (Nat.le_of_ble_eq_true rfl) (fun v σ2 nx2 hx2 hq2 => ?_)
  obtain ⟨rfl, ⟨fr2, g1, -, g2⟩, g3, rfl⟩ := hq2
  obtain ⟨t2, f2, has⟩ := h.fresh (nx := nx2) hw hi g1 g2 g3
  obtain ⟨tt, rf, p1, p2⟩ := t2.pl
  obtain ⟨u0, o0, w0, pc⟩ := p1.c
  refine z_pop dX11_outputOf_13 rfl ?_
  refine z_aload_n dX11_outputOf_14 rfl ?_
  refine z_getf dX11_outputOf_15 fl_X11_44 t2.1 rfl ?_
  refine z_iload_n dX11_outputOf_18 rfl ?_
  refine z_callV dX11_outputOf_19 cv_X11_268 (c_X8_draw hG (t2.en g1 hw hlim) p1 p2 (by omega) (by omega) hi g2) rfl pc rfl rfl ⟨(Nat.le_of_ble_eq_true rfl), (Nat.le_of_ble_eq_true rfl)⟩ (Nat.le_of_ble_eq_true rfl) (Nat.le_of_ble_eq_true rfl) (Nat.le_of_ble_eq_true rfl) (fun v σ3 nx3 hx3 hq3 => ?_)
  obtain ⟨rfl, q1, ⟨rf', q2, -⟩, q3, rfl⟩ := hq3
  have t3 := t2.onPlan (fun x hx => q3 x (by omega)) ⟨_, rf', q1, q2⟩
  have f3 := zFh.tr f2 (q3.h (by omega) (by omega))
  obtain ⟨u1, o1, w1, pc1⟩ := q1.c
  have hcn := zcn_le (zdraw lim nt (zcd L) i).2.1 14
  refine z_iload_n dX11_outputOf_22 rfl ?_
  by_cases c1 : y < 0
  · refine z_if_lt (tgt := 37) dX11_outputOf_23 (by decide) (fun _ => ?_) (fun q => absurd (c1) q)
    refine z_throwW dX11_outputOf_37 dX11_outputOf_40 dX11_outputOf_41 dX11_outputOf_44 dX11_outputOf_47 rfl (by decide +kernel) zth_0 (List.mem_of_getElem? (i := 9) rfl) rfl (Nat.le_of_ble_eq_true rfl) (Nat.le_of_ble_eq_true rfl) (Nat.le_of_ble_eq_true rfl) (Nat.le_of_ble_eq_true rfl) (fun nx9 hn9 => ⟨rfl, Or.inr ⟨i, hi, rfl, Or.inl c1⟩, t3, f3⟩)
  · refine z_if_lt (tgt := 37) dX11_outputOf_23 (by decide) (fun q => absurd q (c1)) (fun _ => ?_)
    obtain ⟨n, hn, rfl⟩ := nI_of c1
    refine z_iload_n dX11_outputOf_26 rfl ?_
    refine z_aload_n dX11_outputOf_27 rfl ?_
    refine z_getf dX11_outputOf_28 fl_X11_44 t3.1 rfl ?_
    refine z_callV dX11_outputOf_31 cv_X11_271 (c_X8_countOfStages q1) rfl pc1 rfl rfl ⟨(Nat.le_of_ble_eq_true rfl), (Nat.le_of_ble_eq_true rfl)⟩ (Nat.le_of_ble_eq_true rfl) (Nat.le_of_ble_eq_true rfl) (Nat.le_of_ble_eq_true rfl) (fun v σ4 nx4 hx4 hq4 => ?_)
    obtain ⟨rfl, rfl, rfl⟩ := hq4
    by_cases c2 : n < zcn (zdraw lim nt (zcd L) i).2.1 14
    · obtain ⟨j, j1, j2, j3, j4⟩ := znth_ex c2 14 0 rfl (Nat.zero_le _)
      refine z_icmp_lt (tgt := 48) dX11_outputOf_34 (by decide) (fun _ => ?_) (fun q => absurd ((nI_lt c2 (by omega))) q)
      refine z_aload_n dX11_outputOf_48 rfl ?_
      refine z_getf dX11_outputOf_49 fl_X11_44 t3.1 rfl ?_
      refine z_iload_n dX11_outputOf_52 rfl ?_
      refine z_callV dX11_outputOf_53 cv_X11_276 (c_X8_outputOfStage q1 hn) rfl pc1 rfl rfl ⟨(Nat.le_of_ble_eq_true rfl), (Nat.le_of_ble_eq_true rfl)⟩ (Nat.le_of_ble_eq_true rfl) (Nat.le_of_ble_eq_true rfl) (Nat.le_of_ble_eq_true rfl) (fun v σ5 nx5 hx5 hq5 => ?_)
      rw [j1] at hq5
      obtain ⟨rfl, rfl, rfl⟩ := hq5
      refine zX ?_
      exact z_iret dX11_outputOf_56 rfl (Nat.le_of_ble_eq_true rfl) (Nat.le_of_ble_eq_true rfl) ⟨⟨i, n, j, hi, rfl, c2, rfl, j2, j3, j4, rfl⟩, t3, f3, rfl⟩
    · refine z_icmp_lt (tgt := 48) dX11_outputOf_34 (by decide) (fun q => absurd q ((nI_nlt (by omega) hn))) (fun _ => ?_)
      refine z_throwW dX11_outputOf_37 dX11_outputOf_40 dX11_outputOf_41 dX11_outputOf_44 dX11_outputOf_47 rfl (by decide +kernel) zth_0 (List.mem_of_getElem? (i := 9) rfl) rfl (Nat.le_of_ble_eq_true rfl) (Nat.le_of_ble_eq_true rfl) (Nat.le_of_ble_eq_true rfl) (Nat.le_of_ble_eq_true rfl) (fun nx9 hn9 => ⟨rfl, Or.inr ⟨i, hi, rfl, Or.inr (nI_le (by omega) hn)⟩, t3, f3⟩)
end
