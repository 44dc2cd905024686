-- model
/-! the model: a stage, to its end -/
section
variable {G : zG} {m' : Nat} {R : zMS} {nt : zNT} {lim mem wk r sp tk cs b0 o i : Nat} {slow : Nat → Nat} {A : List zAE} {C : Nat → Bool}
theorem zwo_end {work slow : Nat → Nat} {m o bg sz f tick : Nat} {S : zSS} (h : zec S.2.1 tick S.1 = m) : zwo work slow m o bg sz f tick S = (tick, S) := by
  cases f with
  | zero => rfl
  | succ f => rw [zwo, if_neg (by omega)]
set_option maxRecDepth 100000 in
set_option maxHeartbeats 2000000 in
theorem c_m_stage (hw : zWf nt) (h14 : nt.length ≤ 14) (hlim : lim ≤ 1000) (hmem : mem ≤ 1000) (hs : ∀ k, k < 4 → 1 ≤ slow k ∧ slow k ≤ 9) (hwk : 1 ≤ wk ∧ wk ≤ 4) (hN : zrN R nt) (hS : zrS R lim mem wk slow r) (hk : zKnw R lim nt) (hC : ∀ k, k < 14 → R.2 18 k = zbi (C k)) (hi : i < nt.length) (ht : zmT R (zdraw lim nt C i)) (ho : (zdraw lim nt C i).2.1 o = true) (hL : zrL R A tk sp cs) (hA : A.length ≤ 208) (hAo : ∀ (j : Nat) (a : zAE), A[j]? = some a → a.1 < o) (hb : b0 ≤ 2 ^ 28) :
    zMN G yX12_stage kX12_stage m' [.int (nI o), .int (nI b0)] R (fun v S' => v = some (.int (nI (zrs lim nt C mem slow wk o (b0, A, sp)).1)) ∧ zrL S' (zrs lim nt C mem slow wk o (b0, A, sp)).2.1 tk (zrs lim nt C mem slow wk o (b0, A, sp)).2.2 cs ∧ zmT S' (zdraw lim nt C i) ∧ (∀ j, j ≠ 8 → j ≠ 10 → S'.1 j = R.1 j) ∧ ∀ j, j < 20 → S'.2 j = R.2 j) := by
  refine zMN.of (ls := [some (.ref m'), some (.int (nI o)), some (.int (nI b0)), none, none, none, none, none, none, none, none, none]) (by decide +kernel) ⟨rfl, rfl, rfl⟩ (Nat.le_of_ble_eq_true rfl) (fun _ h => h) fun Q hQ => ?_
  obtain ⟨hCo, -, hol⟩ := (zDI_draw (lim := lim) (C := C) hw h14 hi).2.1 o ho
  obtain ⟨z1, z2, z3⟩ := zct_le (lim := lim) hw h14 hol
  have closed := fun p hp => zdraw_closed (p := p) hw h14 hi ho hp
  have hW : ∀ p k, p < (zct lim nt o).length → k < 4 → zwf (zsum lim nt C o) mem p * slow k ≤ 81009 := fun p k _ hk => zwf_le (zsum_le hw h14 hol p) (hs k hk).2
  have rdle := fun p => zsum_le (lim := lim) (C := C) hw h14 hol p
  have hw1 : ∀ p, 1 ≤ zwf (zsum lim nt C o) mem p := fun p => by unfold zwf; omega
  have hs1 : ∀ k, k < 4 → 1 ≤ slow k := fun k q => (hs k q).1
  have rds : ∀ p, (zread lim nt C 14 o p (zdraw lim nt C i)).2 = zsum lim nt C o p := fun p => zread_sum lim nt C 14 o p _ _
  have prt := (hk o hol).1
  obtain ⟨l7, l8, l9, l10, l224, lA⟩ := id hL
  unfold zrs at hQ
  simp only at hQ
  generalize hmz : (zct lim nt o).length = m at *
  generalize zsum lim nt C o = rd at *
  obtain ⟨T, hT⟩ : ∃ z, z = zdraw lim nt C i := ⟨_, rfl⟩
  rw [← hT] at ht closed rds hQ
  obtain ⟨work, hwork⟩ : ∃ z, z = zwf rd mem := ⟨_, rfl⟩
  rw [← hwork] at hQ hW hw1
  obtain ⟨bg, hbg⟩ : ∃ z, z = A.length := ⟨_, rfl⟩
  rw [← hbg] at hQ l10
  obtain ⟨res, hres⟩ : ∃ z, z = zwo work slow m o bg wk 17 b0 (0, fun _ => 0, fun _ => false, fun _ => b0, A) := ⟨_, rfl⟩
  rw [← hres] at hQ
  have h256 : bg ≤ 208 := by omega
  have FRk : ∀ R1 R2 : zMS, zSRf R1 R2 → ((∀ j, j ≠ 8 → j ≠ 10 → R1.1 j = R.1 j) ∧ R1.1 8 = nI (sp + zsp rd mem m) ∧ (∀ j, j < 20 → R1.2 j = R.2 j) ∧ zmT R1 T ∧ R1.2 27 = R.2 27) → ((∀ j, j ≠ 8 → j ≠ 10 → R2.1 j = R.1 j) ∧ R2.1 8 = nI (sp + zsp rd mem m) ∧ (∀ j, j < 20 → R2.2 j = R.2 j) ∧ zmT R2 T ∧ R2.2 27 = R.2 27) := by
    rintro R1 R2 ⟨f1, f2⟩ ⟨g1, g2, g3, g4, g5⟩
    refine ⟨fun j a b => (f1 j b).trans (g1 j a b), (f1 8 (by decide)).trans g2, fun j q => (f2 j (by omega)).trans (g3 j q), fun k q => ?_, (f2 27 (by decide)).trans g5⟩
    rw [f2 22 (by decide), f2 20 (by decide), f2 21 (by decide)]
    exact g4 k q
  have fin2 : ∀ (S : zSS) (R1 : zMS) (t : Nat) (x8 : Int32) (x5 x6 x9 x10 x11 : Option Value), zSR R1 m wk work slow S → ((∀ j, j ≠ 8 → j ≠ 10 → R1.1 j = R.1 j) ∧ R1.1 8 = nI (sp + zsp rd mem m) ∧ (∀ j, j < 20 → R1.2 j = R.2 j) ∧ zmT R1 T ∧ R1.2 27 = R.2 27) → zIv o m bg wk t S → S.1 = m → S.2.2.2.2.length ≤ 224 → (∀ j, j < bg → S.2.2.2.2[j]? = A[j]?) → res = (t, S) →
      zNW G kX12_stage m' Q 364 [some (.ref m'), some (.int (nI o)), some (.int (nI b0)), some (.int (nI m)), some (.int (nI bg)), x5, x6, some (.int (nI t)), some (.int x8), x9, x10, x11] [] R1 := by
    rintro S R1 t x8 x5 x6 x9 x10 x11 ⟨h1, h2, h3, -⟩ ⟨g1, g2, g3, g4, g5⟩ iv hm len old e
    have loop : ∀ (d j : Nat) (R2 : zMS), j + d = S.2.2.2.2.length → bg ≤ j → R2.1 = R1.1 → (∀ q, q ≠ 27 → R2.2 q = R1.2 q) → (∀ (q : Nat) (a : zAE), q < j → S.2.2.2.2[q]? = some a → R2.2 27 q = zAc a 4) →
        zNW G kX12_stage m' Q 368 [some (.ref m'), some (.int (nI o)), some (.int (nI b0)), some (.int (nI m)), some (.int (nI bg)), x5, x6, some (.int (nI t)), some (.int x8), some (.int (nI j)), x10, x11] [] R2 := by
      intro d
      induction d with
      | zero =>
        intro j R2 hj hbj a b c
        have ej : j = S.2.2.2.2.length := by omega
        subst ej
        refine n_iload dX12_stage_368 rfl ?_
        refine n_aload_n dX12_stage_370 rfl ?_
        refine n_getE dX12_stage_371 fl_X12_238 rfl ((congrFun a 10).trans h1) ?_
        refine n_icmp_ge (tgt := 402) dX12_stage_374 (by decide) (fun _ => ?_) (fun q => absurd ((nI_le (Nat.le_refl _) (by omega))) q)
        refine n_iload dX12_stage_402 rfl ?_
        rw [e] at hQ
        refine n_iret dX12_stage_404 rfl (hQ _ _ ⟨rfl, ⟨?_, ?_, ?_, ?_, len, fun q a' hq => ?_⟩, fun q hq => ?_, fun q u v => ?_, fun q u => ?_⟩)
        · rw [a, g1 7 (by decide) (by decide)]; exact l7
        · rw [a]; exact g2
        · rw [a, g1 9 (by decide) (by decide)]; exact l9
        · rw [a]; exact h1
        · obtain ⟨r0, r1, r2, r3, r5⟩ := h2 q a' hq
          have r4 := c q a' (zR_lt hq) hq
          unfold zrA
          rw [b 23 (by decide), b 24 (by decide), b 25 (by decide), b 26 (by decide), b 28 (by decide)]
          exact ⟨r0, r1, r2, r3, r4, r5⟩
        · rw [b 22 (by decide), b 20 (by decide), b 21 (by decide)]
          exact g4 q hq
        · rw [a]; exact g1 q u v
        · rw [b q (by omega)]; exact g3 q u
      | succ d ih =>
        intro j R2 hj hbj a b c
        have hg : S.2.2.2.2[j]? = some (S.2.2.2.2[j]'(by omega)) := List.getElem?_eq_getElem _
        generalize S.2.2.2.2[j]'(by omega) = w at hg
        obtain ⟨-, r1, -⟩ := h2 j w hg
        obtain ⟨-, w2, w3, -⟩ := (iv.2.2.2.1 j w hg).2 hbj
        have e30 := h3 w.2.1 w2
        rw [← w3] at e30
        refine n_iload dX12_stage_368 rfl ?_
        refine n_aload_n dX12_stage_370 rfl ?_
        refine n_getE dX12_stage_371 fl_X12_238 rfl ((congrFun a 10).trans h1) ?_
        refine n_icmp_ge (tgt := 402) dX12_stage_374 (by decide) (fun q => absurd q ((nI_ge (show j < S.2.2.2.2.length by omega) (by omega)))) (fun _ => ?_)
        refine n_aload_n dX12_stage_377 rfl ?_
        refine n_get dX12_stage_378 fl_X12_102 rfl ?_
        refine n_iload dX12_stage_381 rfl ?_
        refine n_aload_n dX12_stage_383 rfl ?_
        refine n_get dX12_stage_384 fl_X12_111 rfl ?_
        refine n_aload_n dX12_stage_387 rfl ?_
        refine n_get dX12_stage_388 fl_X12_93 rfl ?_
        refine n_iload dX12_stage_391 rfl ?_
        refine n_iald (j := 24) dX12_stage_393 (by decide) rfl rfl (show _ < 256 by omega) ((congrFun (b 24 (by decide)) j).trans r1) ?_
        refine n_iald (j := 30) dX12_stage_394 (by decide) rfl rfl (show _ < 8 by omega) ((congrFun (b 30 (by decide)) w.2.1).trans e30) ?_
        refine n_iast (j := 27) dX12_stage_395 (by decide) rfl rfl (show _ < 256 by omega) ?_
        refine n_inc1 dX12_stage_396 rfl (by decide) ?_
        rw [nI_1]
        refine n_goto (tgt := 368) dX12_stage_399 (by decide) ?_
        refine ih (j + 1) (zST R2 27 j (nI w.2.2.2.2.1)) (by omega) (by omega) a (fun q hq => (zST_n _ _ _ hq).trans (b q hq)) fun q a' hq hq2 => ?_
        by_cases y : q = j
        · subst y
          rw [hg] at hq2
          cases hq2
          rw [zSTs]; rfl
        · rw [zSTn y]; exact c q a' (by omega) hq2
    refine n_iload dX12_stage_364 rfl ?_
    refine n_istore dX12_stage_366 (by decide) ?_
    refine loop (S.2.2.2.2.length - bg) bg R1 (by have := iv.2.1; omega) (Nat.le_refl _) rfl (fun _ _ => rfl) fun q a hq hq2 => ?_
    rw [g5]
    exact (lA q a ((old q hq).symm.trans hq2)).2.2.2.2.1
  have lenle : ∀ (B : Nat) (S : zSS), zOK m bg B S → S.2.2.2.2.length ≤ 224 := fun B S h => by
    have := h.1
    have := h.2.2.2.1
    have := zcn_le S.2.2.1 8
    omega
  have hold : ∀ S : zSS, (∀ j, j < bg → S.2.2.2.2[j]? = A[j]?) → ∀ (j : Nat) (a : zAE), S.2.2.2.2[j]? = some a → j < bg → a.1 < 14 := fun S old j a q hj => by
    have := hAo j a ((old j hj).symm.trans q)
    omega
  have fin : ∀ (f tick B : Nat) (S : zSS) (R1 : zMS) (x7 x9 x10 x11 : Option Value), zSR R1 m wk work slow S → ((∀ j, j ≠ 8 → j ≠ 10 → R1.1 j = R.1 j) ∧ R1.1 8 = nI (sp + zsp rd mem m) ∧ (∀ j, j < 20 → R1.2 j = R.2 j) ∧ zmT R1 T ∧ R1.2 27 = R.2 27) → zIv o m bg wk tick S → zOK m bg B S → tick < B → B + 81009 + 2 ≤ 2 ^ 31 → b0 ≤ tick → (∀ j, j < bg → S.2.2.2.2[j]? = A[j]?) → zec S.2.1 tick S.1 = m → (tick = b0 ∨ ∃ p, p < S.1 ∧ S.2.1 p = tick) → res = zwo work slow m o bg wk f tick S →
      zNW G kX12_stage m' Q 138 [some (.ref m'), some (.int (nI o)), some (.int (nI b0)), some (.int (nI m)), some (.int (nI bg)), some (.int (nI S.1)), some (.int (nI tick)), x7, some (.int 1), x9, x10, x11] [] R1 := by
    intro f tick B S R1 x7 x9 x10 x11 h1 f1 iv ok htB hB hb0 old hec hend e
    rw [zwo_end hec] at e
    refine c_tick h1 ((f1.1 4 (by decide) (by decide)).trans hS.2.2.1) iv ok z3 hwk.2 (by omega) htB hW hB hw1 hs1 (hold S old) h256 hb0 fun R2 y9 y10 y11 h2 f2 => ?_
    obtain ⟨k1, k2, k3, k4⟩ := zsim_end (work := work) (slow := slow) (half := zhf m tick S) iv hwk.2 hec
    rw [k1] at h2 ⊢
    simp only at h2 ⊢
    rw [k2]
    have ez : zea S.2.1 tick S.1 = tick := by
      rcases zea_spec (ends := S.2.1) (tick := tick) S.1 with ⟨w, -⟩ | ⟨w1, ⟨p, w2, w3⟩, -⟩
      · exact w
      · have := k4 p (by omega); omega
    rw [zmx_eq hb0 (fun p hp => k4 p (by omega)) hend]
    simp only [ez, if_true]
    refine n_iload dX12_stage_138 rfl ?_
    refine n_if_eq (tgt := 364) dX12_stage_140 (by decide) (fun _ => ?_) (fun q => absurd (rfl) q)
    exact fin2 S R2 tick _ _ _ _ _ _ h2 (FRk R1 R2 f2 f1) iv k3 (lenle B S ok) old e
  have main : ∀ (d f tick B : Nat) (S : zSS) (R1 : zMS) (x7 x9 x10 x11 : Option Value), d ≤ f → m - zec S.2.1 tick S.1 + (8 - zcn S.2.2.1 8) ≤ d → zSR R1 m wk work slow S → ((∀ j, j ≠ 8 → j ≠ 10 → R1.1 j = R.1 j) ∧ R1.1 8 = nI (sp + zsp rd mem m) ∧ (∀ j, j < 20 → R1.2 j = R.2 j) ∧ zmT R1 T ∧ R1.2 27 = R.2 27) → zIv o m bg wk tick S → zOK m bg B S → tick < B → B + (d + 2) * 81011 ≤ 2 ^ 30 → b0 ≤ tick → (∀ j, j < bg → S.2.2.2.2[j]? = A[j]?) → zec S.2.1 tick S.1 < m → res = zwo work slow m o bg wk f tick S →
      zNW G kX12_stage m' Q 138 [some (.ref m'), some (.int (nI o)), some (.int (nI b0)), some (.int (nI m)), some (.int (nI bg)), some (.int (nI S.1)), some (.int (nI tick)), x7, some (.int 1), x9, x10, x11] [] R1 := by
    intro d
    induction d with
    | zero => intro f tick B S R1 x7 x9 x10 x11 hf hd; intros; omega
    | succ d ih =>
      intro f tick B S R1 x7 x9 x10 x11 hf hd h1 f1 iv ok htB hB hb0 old hec e
      obtain ⟨f', rfl⟩ : ∃ f', f = f' + 1 := ⟨f - 1, by omega⟩
      rw [zwo, if_pos hec] at e
      refine c_tick h1 ((f1.1 4 (by decide) (by decide)).trans hS.2.2.1) iv ok z3 hwk.2 (by omega) htB hW (by omega) hw1 hs1 (hold S old) h256 hb0 fun R2 y9 y10 y11 h2 f2 => ?_
      have hW2 : ∀ p k, p < m → k < 4 → tick + work p * slow k < B + 81009 + 1 := fun p k hp hk => by have := hW p k hp hk; omega
      have ok1 := zlk_ok (half := zhf m tick S) (o := o) (tick := tick) (work := work) (slow := slow) (ok.up (show B ≤ B + 81009 + 1 by omega)) z3 hW2 wk hwk.2
      obtain ⟨g1, g2, g3, g4, g5, g6, g7⟩ := zlk_keep (half := zhf m tick S) iv z3 hw1 hs1 wk hwk.2
      obtain ⟨p0, p1, p2⟩ := zsim_go (half := zhf m tick S) iv z3 hwk.1 hwk.2 hw1 hs1 hec
      have old2 : ∀ j, j < bg → (zlk work slow m o bg tick (zhf m tick S) wk S).1.2.2.2.2[j]? = A[j]? := fun j hj => ((zlk_old (by have := iv.2.1; omega) hj wk).1).trans (old j hj)
      have skip := zsim_skip (work := work) (slow := slow) iv z3 hwk.1 hwk.2 hw1 hs1 hec rfl
      have taken := zlt_of (work := work) (slow := slow) (m := m) (o := o) (bg := bg) (tick := tick) (half := zhf m tick S) (S := S) wk
      have f3 := FRk R1 R2 f2 f1
      generalize (zlk work slow m o bg tick (zhf m tick S) wk S).2 = two at *
      generalize (zlk work slow m o bg tick (zhf m tick S) wk S).1 = U at *
      generalize zlt work slow m o bg tick (zhf m tick S) wk S = isT at *
      have zne : zea U.2.1 tick U.1 ≠ tick := fun w => by
        rcases zea_spec (ends := U.2.1) (tick := tick) U.1 with ⟨-, w2⟩ | ⟨w2, -⟩
        · have := w2 p0 p1; omega
        · omega
      have hzs := zea_spec (ends := U.2.1) (tick := tick) U.1
      have zlt' := zea_lt (ends := U.2.1) (tick := tick) (B := B + 81009 + 1) (by omega) U.1 ok1.2.1
      have zcu := zcn_le U.2.2.1 8
      have zeu := zec_le U.2.1 tick U.1
      have next : ∀ (t : Nat) (R3 : zMS) (y7 y9 y10 y11 : Option Value), tick < t → t < B + 81011 → (zec U.2.1 t U.1 < m ∨ ∃ p, p < U.1 ∧ U.2.1 p = t) → m - zec U.2.1 t U.1 + (8 - zcn U.2.2.1 8) ≤ d → zSR R3 m wk work slow U → ((∀ j, j ≠ 8 → j ≠ 10 → R3.1 j = R.1 j) ∧ R3.1 8 = nI (sp + zsp rd mem m) ∧ (∀ j, j < 20 → R3.2 j = R.2 j) ∧ zmT R3 T ∧ R3.2 27 = R.2 27) → res = zwo work slow m o bg wk f' t U →
          zNW G kX12_stage m' Q 138 [some (.ref m'), some (.int (nI o)), some (.int (nI b0)), some (.int (nI m)), some (.int (nI bg)), some (.int (nI U.1)), some (.int (nI t)), y7, some (.int 1), y9, y10, y11] [] R3 := by
        intro t R3 y7 y9 y10 y11 ht1 ht2 hend hmeas h3 f3 e3
        have g := zec_le U.2.1 t U.1
        have u := ok1.1
        by_cases c : zec U.2.1 t U.1 < m
        · exact ih f' t (B + 81011) U R3 y7 y9 y10 y11 (by omega) hmeas h3 f3 (g1.up (by omega)) (ok1.up (by omega)) ht2 (by omega) (by omega) old2 c e3
        · exact fin f' t (B + 81011) U R3 y7 y9 y10 y11 h3 f3 (g1.up (by omega)) (ok1.up (by omega)) ht2 (by omega) (by omega) old2 (by omega) (Or.inr (hend.resolve_left c)) e3
      rw [if_neg zne, if_neg zne]
      rcases hzs with ⟨w, -⟩ | ⟨w1, ⟨q0, q1, q2⟩, w4⟩
      · exact absurd w zne
      · have atz : m - zec U.2.1 (zea U.2.1 tick U.1) U.1 + (8 - zcn U.2.2.1 8) ≤ d := by
          have := zec_lt (ends := U.2.1) (a := tick) (b := zea U.2.1 tick U.1) (p := q0) (by omega) (by omega) (by omega) U.1 q1
          omega
        cases two with
        | true =>
          rw [taken rfl, if_pos rfl]
          rw [if_pos rfl] at e
          have mono := zec_mono (ends := U.2.1) (show tick ≤ tick + 1 by omega) U.1
          have g7 : zcn S.2.2.1 8 + 1 ≤ zcn U.2.2.1 8 := g7
          refine next (tick + 1) R2 _ _ _ _ (by omega) (by omega) ?_ (by omega) h2 f3 e
          by_cases c : zec U.2.1 (tick + 1) U.1 < m
          · exact Or.inl c
          · have g := zec_le U.2.1 (tick + 1) U.1
            have u := ok1.1
            have all := (zec_full (ends := U.2.1) (tick := tick + 1) U.1).mp (by omega) p0 p1
            exact Or.inr ⟨p0, p1, by omega⟩
        | false =>
          rw [if_neg (by decide)] at e
          cases isT with
          | false =>
            rw [if_neg (by decide)]
            exact next _ R2 _ _ _ _ w1 (by omega) (Or.inr ⟨q0, q1, q2⟩) atz h2 f3 e
          | true =>
            rw [if_pos rfl]
            by_cases c : tick + 1 < zea U.2.1 tick U.1
            · obtain ⟨k1, k2, k3⟩ := skip rfl c
              refine c_tick h2 ((f3.1 4 (by decide) (by decide)).trans hS.2.2.1) (g1.up (show tick ≤ tick + 1 by omega)) ok1 z3 hwk.2 (by omega) (by omega) hW (by omega) hw1 hs1 (hold U old2) h256 (by omega) fun R3 v9 v10 v11 h3 f4 => ?_
              rw [k1] at h3 ⊢
              simp only at h3 ⊢
              rw [k2, k3, if_neg (by decide), if_neg (by omega), if_neg (by omega)]
              exact next _ R3 _ _ _ _ w1 (by omega) (Or.inr ⟨q0, q1, q2⟩) atz h3 (FRk R2 R3 f4 f3) e
            · have ez : zea U.2.1 tick U.1 = tick + 1 := by omega
              rw [ez] at e q2 atz
              exact next (tick + 1) R2 _ _ _ _ (by omega) (by omega) (Or.inr ⟨q0, q1, q2⟩) atz h2 f3 e
  have idle : ∀ (d k : Nat) (R1 : zMS) (x6 x7 : Option Value), k + d = wk → ((∀ j, j ≠ 8 → j ≠ 10 → R1.1 j = R.1 j) ∧ R1.1 8 = nI (sp + zsp rd mem m) ∧ (∀ j, j < 20 → R1.2 j = R.2 j) ∧ zmT R1 T ∧ R1.2 27 = R.2 27) → R1.1 10 = R.1 10 → (∀ j, 23 ≤ j → j < 29 → R1.2 j = R.2 j) → (∀ p, p < m → R1.2 29 p = nI (work p) ∧ R1.2 31 p = 0) → (∀ q, q < k → R1.2 32 q = nI b0) →
      zNW G kX12_stage m' Q 103 [some (.ref m'), some (.int (nI o)), some (.int (nI b0)), some (.int (nI m)), some (.int (nI bg)), some (.int (nI k)), x6, x7, none, none, none, none] [] R1 := by
    intro d
    induction d with
    | zero =>
      intro k R1 x6 x7 hk f1 e10 e23 hwk1 hid
      have ek : k = wk := by omega
      subst ek
      refine n_iload dX12_stage_103 rfl ?_
      refine n_aload_n dX12_stage_105 rfl ?_
      refine n_getE dX12_stage_106 fl_X12_65 rfl ((f1.1 4 (by decide) (by decide)).trans hS.2.2.1) ?_
      refine n_icmp_ge (tgt := 126) dX12_stage_109 (by decide) (fun _ => ?_) (fun q => absurd ((nI_le (Nat.le_refl _) (by omega))) q)
      refine n_iconst (v := (nI 0)) dX12_stage_126 (by decide) ?_
      refine n_istore dX12_stage_127 (by decide) ?_
      refine n_iload_n dX12_stage_129 rfl ?_
      refine n_istore dX12_stage_130 (by decide) ?_
      refine n_iload_n dX12_stage_132 rfl ?_
      refine n_istore dX12_stage_133 (by decide) ?_
      refine n_iconst (v := (nI 1)) dX12_stage_135 (by decide) ?_
      refine n_istore dX12_stage_136 (by decide) ?_
      refine main 16 17 b0 (b0 + 1) (0, fun _ => 0, fun _ => false, fun _ => b0, A) R1 _ _ _ _ (by omega) (by have := zcn_le (fun _ => false) 8; show m - 0 + (8 - _) ≤ 16; omega) ⟨?_, ?_, fun p hp => absurd hp (Nat.not_lt_zero _), fun p hp => ?_, fun q hq => hid q hq, fun p hp => (hwk1 p hp).1, fun q hq => ?_⟩ f1 ⟨Nat.zero_le _, by show bg + 0 ≤ A.length; omega, fun _ => by show A.length = bg + 0; omega, fun j a hj => ⟨fun _ => by have := hAo j a hj; omega, fun w => by have hj : A[j]? = some a := hj; have := zR_lt hj; omega⟩, fun q _ => Or.inl (Nat.le_refl _), fun p hp => nomatch hp⟩ (by rw [hbg]; exact zS0_ok) (by omega) (by omega) (Nat.le_refl _) (fun _ _ => rfl) (by show 0 < m; omega) hres
      · show R1.1 10 = nI A.length
        rw [e10, l10, hbg]
      · intro q a hq
        obtain ⟨r0, r1, r2, r3, -, r5⟩ := lA q a hq
        rw [e23 23 (by decide) (by decide), e23 24 (by decide) (by decide), e23 25 (by decide) (by decide), e23 26 (by decide) (by decide), e23 28 (by decide) (by decide)]
        exact ⟨r0, r1, r2, r3, r5⟩
      · exact (hwk1 p hp).2
      · rw [f1.2.2.1 16 (by decide)]; exact hS.2.2.2.2 q hq
    | succ d ih =>
      intro k R1 x6 x7 hk f1 e10 e23 hwk1 hid
      refine n_iload dX12_stage_103 rfl ?_
      refine n_aload_n dX12_stage_105 rfl ?_
      refine n_getE dX12_stage_106 fl_X12_65 rfl ((f1.1 4 (by decide) (by decide)).trans hS.2.2.1) ?_
      refine n_icmp_ge (tgt := 126) dX12_stage_109 (by decide) (fun q => absurd q ((nI_ge (show k < wk by omega) (by omega)))) (fun _ => ?_)
      refine n_aload_n dX12_stage_112 rfl ?_
      refine n_get dX12_stage_113 fl_X12_117 rfl ?_
      refine n_iload dX12_stage_116 rfl ?_
      refine n_iload_n dX12_stage_118 rfl ?_
      refine n_iast (j := 32) dX12_stage_119 (by decide) rfl rfl (show _ < 4 by omega) ?_
      refine n_inc1 dX12_stage_120 rfl (by decide) ?_
      rw [nI_1]
      refine n_goto (tgt := 103) dX12_stage_123 (by decide) ?_
      refine ih (k + 1) _ x6 x7 (by omega) (FRk R1 _ ⟨fun _ _ => rfl, fun j q => zST_n _ _ _ (by omega)⟩ f1) e10 (fun j a b => (zST_n _ _ _ (by omega)).trans (e23 j a b)) (fun p hp => ⟨(zSTo (by decide)).trans (hwk1 p hp).1, (zSTo (by decide)).trans (hwk1 p hp).2⟩) fun q hq => ?_
      by_cases y : q = k
      · subst y; rw [zSTs]
      · rw [zSTn y]; exact hid q (by omega)
  have load : ∀ (d p : Nat) (R1 : zMS) (x6 x7 : Option Value), p + d = m → (∀ j, j ≠ 8 → R1.1 j = R.1 j) → R1.1 8 = nI (sp + zsp rd mem p) → (∀ j, (j < 20 ∨ 23 ≤ j ∧ j < 29) → R1.2 j = R.2 j) → zmT R1 T → (∀ q, q < p → R1.2 29 q = nI (work q) ∧ R1.2 31 q = 0) →
      zNW G kX12_stage m' Q 16 [some (.ref m'), some (.int (nI o)), some (.int (nI b0)), some (.int (nI m)), some (.int (nI bg)), some (.int (nI p)), x6, x7, none, none, none, none] [] R1 := by
    intro d
    induction d with
    | zero =>
      intro p R1 x6 x7 hp a b c e f
      have ep : p = m := by omega
      subst ep
      refine n_iload dX12_stage_16 rfl ?_
      refine n_iload_n dX12_stage_18 rfl ?_
      refine n_icmp_ge (tgt := 100) dX12_stage_19 (by decide) (fun _ => ?_) (fun q => absurd ((nI_le (Nat.le_refl _) (by omega))) q)
      refine n_iconst (v := (nI 0)) dX12_stage_100 (by decide) ?_
      refine n_istore dX12_stage_101 (by decide) ?_
      exact idle wk 0 R1 x6 x7 (by omega) ⟨fun j q _ => a j q, b, fun j q => c j (Or.inl q), e, c 27 (by decide)⟩ (a 10 (by decide)) (fun j q1 q2 => c j (Or.inr ⟨q1, q2⟩)) f fun q hq => absurd hq (Nat.not_lt_zero _)
    | succ d ih =>
      intro p R1 x6 x7 hp a b c e f
      have kn1 : zKnw R1 lim nt := fun n hn => (hk n hn).cg fun j q1 q2 => c j (by omega)
      have rdp := rdle p
      refine n_iload dX12_stage_16 rfl ?_
      refine n_iload_n dX12_stage_18 rfl ?_
      refine n_icmp_ge (tgt := 100) dX12_stage_19 (by decide) (fun q => absurd q ((nI_ge (show p < m by omega) (by omega)))) (fun _ => ?_)
      refine n_aload_n dX12_stage_22 rfl ?_
      refine n_iload_n dX12_stage_23 rfl ?_
      refine n_iload dX12_stage_24 rfl ?_
      refine n_call dX12_stage_26 cv_X12_232 (c_reads hw h14 hlim (hN.cg (a 0 (by decide)) fun j q => c j (by omega)) ((a 2 (by decide)).trans hS.1) kn1 (fun k q => by rw [c 18 (by decide)]; exact hC k q) e hol (show p < (zct lim nt o).length by omega) hCo) rfl rfl rfl ⟨(Nat.le_of_ble_eq_true rfl), (Nat.le_of_ble_eq_true rfl)⟩ rfl rfl (Nat.le_of_ble_eq_true rfl) (fun v S1 hq1 => ?_)
      obtain ⟨rfl, q1, q2, q3⟩ := hq1
      rw [rds p]
      rw [closed p (by omega)] at q1
      have cont : ∀ n : Nat, n = rd p - mem → zNW G kX12_stage m' Q 51 [some (.ref m'), some (.int (nI o)), some (.int (nI b0)), some (.int (nI m)), some (.int (nI bg)), some (.int (nI p)), some (.int (nI (rd p))), x7, none, none, none, none] [.int (nI n)] S1 := by
        intro n hn
        refine n_istore dX12_stage_51 (by decide) ?_
        refine n_aload_n dX12_stage_53 rfl ?_
        refine n_get dX12_stage_54 fl_X12_108 rfl ?_
        refine n_iload dX12_stage_57 rfl ?_
        refine n_iconst (v := (nI 1)) dX12_stage_59 (by decide) ?_
        refine n_iload dX12_stage_60 rfl ?_
        refine n_iadd dX12_stage_62 ?_
        rw [nI_add]
        refine n_iload dX12_stage_63 rfl ?_
        refine n_iadd dX12_stage_65 ?_
        rw [nI_add]
        refine n_iast (j := 29) dX12_stage_66 (by decide) rfl rfl (show _ < 8 by omega) ?_
        refine n_aload_n dX12_stage_67 rfl ?_
        refine n_dup dX12_stage_68 rfl ?_
        refine n_getE dX12_stage_69 fl_X12_248 rfl ((congrFun q2 8).trans b) ?_
        refine n_iload dX12_stage_72 rfl ?_
        refine n_iadd dX12_stage_74 ?_
        rw [nI_add]
        refine n_put (j := 8) dX12_stage_75 fp_X12_248 (zMFs8 _ _ _) rfl rfl (Nat.le_of_ble_eq_true rfl) ?_
        refine n_aload_n dX12_stage_78 rfl ?_
        refine n_get dX12_stage_79 fl_X12_114 rfl ?_
        refine n_iload dX12_stage_82 rfl ?_
        refine n_iconst (v := (nI 0)) dX12_stage_84 (by decide) ?_
        refine n_zast (j := 31) dX12_stage_85 (by decide) rfl rfl (show _ < 8 by omega) rfl ?_
        refine n_aload_n dX12_stage_86 rfl ?_
        refine n_get dX12_stage_87 fl_X12_111 rfl ?_
        refine n_iload dX12_stage_90 rfl ?_
        refine n_iconst (v := (nI 0)) dX12_stage_92 (by decide) ?_
        refine n_iast (j := 30) dX12_stage_93 (by decide) rfl rfl (show _ < 8 by omega) ?_
        refine n_inc1 dX12_stage_94 rfl (by decide) ?_
        rw [nI_1]
        refine n_goto (tgt := 16) dX12_stage_97 (by decide) ?_
        have ew : work p = 1 + rd p + n := by rw [hwork, zwf, hn]
        rw [← ew]
        refine ih (p + 1) _ _ _ (by omega) (fun j q => (pk_un q).trans ((congrFun q2 j).trans (a j q))) ((zSF_s (S := zST S1 29 p (nI (work p))) (j := 8) (x := nI (sp + zsp rd mem p + n))).trans (show nI (sp + zsp rd mem p + n) = nI (sp + (zsp rd mem p + (rd p - mem))) by rw [hn, Nat.add_assoc])) (fun j q => ?_) (fun k q => ?_) fun q hq => ?_
        · rw [zST_n _ _ _ (by omega), zST_n _ _ _ (by omega), zSF2, zST_n _ _ _ (by omega), q3 j (by omega) (by omega) (by omega)]
          exact c j q
        · rw [zSTo (by decide), zSTo (by decide), zSTo (by decide), zSTo (by decide), zSTo (by decide), zSTo (by decide), zSF2, zSTo (by decide), zSTo (by decide), zSTo (by decide)]
          exact q1 k q
        · rw [zSTo (by decide), zSTo (by decide), zSF2, zSTo (i := p) (i' := q) (j := 30) (by decide)]
          by_cases y : q = p
          · subst y
            rw [zSTs, zSTs]
            exact ⟨rfl, rfl⟩
          · rw [zSTn y, zSTn y, zSF2, zSTo (by decide), q3 29 (by decide) (by decide) (by decide), q3 31 (by decide) (by decide) (by decide)]
            exact f q (by omega)
      refine n_istore dX12_stage_29 (by decide) ?_
      refine n_iload dX12_stage_31 rfl ?_
      refine n_aload_n dX12_stage_33 rfl ?_
      refine n_getE dX12_stage_34 fl_X12_62 rfl ((congrFun q2 3).trans ((a 3 (by decide)).trans hS.2.1)) ?_
      by_cases w : rd p ≤ mem
      · refine n_icmp_le (tgt := 50) dX12_stage_37 (by decide) (fun _ => ?_) (fun q => absurd ((nI_le w (by omega))) q)
        refine n_iconst (v := (nI 0)) dX12_stage_50 (by decide) ?_
        exact cont 0 (by omega)
      · refine n_icmp_le (tgt := 50) dX12_stage_37 (by decide) (fun q => absurd q ((nI_ge (by omega) (by omega)))) (fun _ => ?_)
        refine n_iload dX12_stage_40 rfl ?_
        refine n_aload_n dX12_stage_42 rfl ?_
        refine n_getE dX12_stage_43 fl_X12_62 rfl ((congrFun q2 3).trans ((a 3 (by decide)).trans hS.2.1)) ?_
        refine n_isub dX12_stage_46 ?_
        rw [pk_sub (by omega)]
        refine n_goto (tgt := 51) dX12_stage_47 (by decide) ?_
        exact cont _ rfl
  refine n_aload_n dX12_stage_0 rfl ?_
  refine n_get dX12_stage_1 fl_X12_46 rfl ?_
  refine n_iload_n dX12_stage_4 rfl ?_
  refine n_iald (j := 12) dX12_stage_5 (by decide) rfl rfl (show _ < 14 by omega) prt ?_
  refine n_istore_n dX12_stage_6 (by decide) ?_
  refine n_aload_n dX12_stage_7 rfl ?_
  refine n_getE dX12_stage_8 fl_X12_238 rfl (l10) ?_
  refine n_istore dX12_stage_11 (by decide) ?_
  refine n_iconst (v := (nI 0)) dX12_stage_13 (by decide) ?_
  refine n_istore dX12_stage_14 (by decide) ?_
  exact load m 0 R none none (by omega) (fun _ _ => rfl) l8 (fun _ _ => rfl) ht fun q hq => absurd hq (Nat.not_lt_zero _)
end
