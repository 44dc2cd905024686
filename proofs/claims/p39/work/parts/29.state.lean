/-! Taskgraphic: its whole state -/
def zTC (b mem : Nat) : va_E := .inr (11, [.ref (b + 1), .ref (b + 25), .ref (b + 33), .ref (b + 41), .ref (b + 46), .ref (b + 49), .ref (b + 69), .ref (b + 56), .int (nI mem)])
def zTG (G : zG) (σ : zH) (b hi : Nat) (nt : zNT) (lim mem wk : Nat) (slow : Nat → Nat) (r : Nat) (L : zNS) (A : List zAE) (tk sp cs : Nat) : Prop :=
  σ b = some (zTC b mem) ∧ (∃ fr, zGH G σ (b + 1) (b + 25) hi false lim nt fr) ∧ (∃ fr, zGH G σ (b + 1) (b + 33) hi true lim nt fr) ∧ zCa G σ (b + 41) L r ∧ (∃ t rf, zPl G σ (b + 46) (b + 1) (b + 25) (b + 41) t ∧ zInts G σ (b + 46 + 1) 112 rf) ∧ zSt0 G σ (b + 49) ∧ zLg G σ (b + 49 + 7) A tk sp cs ∧ (∃ idle, zCr G σ (b + 49 + 20) (b + 49 + 7) slow idle wk) ∧ b + 74 ≤ hi
theorem zTG.fr {G : zG} {σ σ' : zH} {b hi lim mem wk r tk sp cs : Nat} {nt : zNT} {slow : Nat → Nat} {L : zNS} {A : List zAE} (h : zTG G σ b hi nt lim mem wk slow r L A tk sp cs) (hf : ∀ x, (b ≤ x ∧ x < b + 74) ∨ hi ≤ x → σ' x = σ x) : zTG G σ' b hi nt lim mem wk slow r L A tk sp cs := by
  obtain ⟨h1, ⟨f1, h2⟩, ⟨f2, h3⟩, h4, ⟨t, rf, h5, h6⟩, h7, h8, ⟨idle, h9⟩, h10⟩ := h
  refine ⟨(hf b (by omega)).trans h1, ⟨f1, h2.fr fun x q => hf x (by omega)⟩, ⟨f2, h3.fr fun x q => hf x (by omega)⟩, h4.fr fun x a c => hf x (by omega), ⟨t, rf, ?_, h6.fr fun x a c => hf x (by omega)⟩, h7.fr fun x a c => hf x (by omega), h8.fr fun x a c => hf x (by omega), ⟨idle, h9.fr fun x a c => hf x (by omega)⟩, h10⟩
  obtain ⟨u, o, w, q1, q2⟩ := h5
  exact ⟨u, o, w, (hf _ (by omega)).trans q1, q2⟩
/-- what is so of every state, whatever its heap -/
def zGd (nt : zNT) (lim mem wk : Nat) (slow : Nat → Nat) (L : zNS) : Prop := zWf nt ∧ nt.length ≤ 14 ∧ lim ≤ 1000 ∧ mem ≤ 1000 ∧ (1 ≤ wk ∧ wk ≤ 4) ∧ (∀ k, k < 4 → 1 ≤ slow k ∧ slow k ≤ 9) ∧ ∀ (i : Nat) (q : Nat × Nat), L[i]? = some q → q.1 < nt.length ∧ q.2 = (zct lim nt q.1).flatten.length
/-- nothing changed but the object and what it made -/
def zFh (σ σ' : zH) (b hi : Nat) : Prop := ∀ x, x < b ∨ (b + 74 ≤ x ∧ x < hi) → σ' x = σ x
theorem zFh.rf (σ : zH) (b hi : Nat) : zFh σ σ b hi := fun _ _ => rfl
theorem zFh.tr {σ σ' σ'' : zH} {b hi : Nat} (h : zFh σ σ' b hi) (h2 : zFh σ' σ'' b hi) : zFh σ σ'' b hi := fun x q => (h2 x q).trans (h x q)
theorem zFr.h {σ σ' : zH} {a n b hi : Nat} (h : zFr σ σ' a n) (h1 : b ≤ a) (h2 : a + n ≤ b + 74) : zFh σ σ' b hi := fun x q => h x (by omega)
abbrev zEI : String := "java/lang/IndexOutOfBoundsException"
abbrev zEA : String := "java/lang/IllegalArgumentException"
abbrev zES : String := "java/lang/IllegalStateException"
set_option maxRecDepth 100000 in
theorem c_X11_checkNode {G : zG} {σ : zH} {nx b mem hi : Nat} {x lim : Int32} {nt : zNT} (h : σ b = some (zTC b mem)) (hg : zGr G σ (b + 1) hi nt lim) : zMX G yX11_checkNode kX11_checkNode [.ref b, .int x] σ nx (fun v σ' nx' => v = none ∧ σ' = σ ∧ nx' = nx ∧ ∃ i, i < nt.length ∧ x = nI i) (fun E σ' nx' => E = zEI ∧ σ' = σ ∧ (x < 0 ∨ nI nt.length ≤ x)) := by
  refine zMX.of (ls := [some (.ref b), some (.int x)]) (by decide +kernel) ⟨rfl, rfl, rfl⟩ (Nat.le_of_ble_eq_true rfl) (fun _ h => h) ?_
  have hl := hg.2.2.2.2.2.1
  refine z_iload_n dX11_checkNode_0 rfl ?_
  by_cases c1 : x < 0
  · refine z_if_lt (tgt := 15) dX11_checkNode_1 (by decide) (fun _ => ?_) (fun q => absurd (c1) q)
    refine z_throwW dX11_checkNode_15 dX11_checkNode_18 dX11_checkNode_19 dX11_checkNode_22 dX11_checkNode_25 rfl (by decide +kernel) zth_0 (List.mem_of_getElem? (i := 10) rfl) rfl (Nat.le_of_ble_eq_true rfl) (Nat.le_of_ble_eq_true rfl) (Nat.le_of_ble_eq_true rfl) (Nat.le_of_ble_eq_true rfl) (fun nx9 hn9 => ⟨rfl, rfl, Or.inl c1⟩)
  · refine z_if_lt (tgt := 15) dX11_checkNode_1 (by decide) (fun q => absurd q (c1)) (fun _ => ?_)
    refine z_iload_n dX11_checkNode_4 rfl ?_
    refine z_aload_n dX11_checkNode_5 rfl ?_
    refine z_getf dX11_checkNode_6 fl_X11_16 h rfl ?_
    refine z_callV dX11_checkNode_9 cv_X11_186 (c_X2_size hg) rfl hg.1 rfl rfl ⟨(Nat.le_of_ble_eq_true rfl), (Nat.le_of_ble_eq_true rfl)⟩ (Nat.le_of_ble_eq_true rfl) (Nat.le_of_ble_eq_true rfl) (Nat.le_of_ble_eq_true rfl) (fun v σ1 nx1 hx1 hq1 => ?_)
    obtain ⟨rfl, rfl, rfl⟩ := hq1
    obtain ⟨j, hj, rfl⟩ := nI_of c1
    by_cases c2 : j < nt.length
    · refine z_icmp_lt (tgt := 26) dX11_checkNode_12 (by decide) (fun _ => ?_) (fun q => absurd ((nI_lt c2 (by omega))) q)
      refine zX ?_
      exact z_vret dX11_checkNode_26 rfl (Nat.le_of_ble_eq_true rfl) (Nat.le_of_ble_eq_true rfl) ⟨rfl, rfl, rfl, j, c2, rfl⟩
    · refine z_icmp_lt (tgt := 26) dX11_checkNode_12 (by decide) (fun q => absurd q ((nI_nlt (by omega) hj))) (fun _ => ?_)
      refine z_throwW dX11_checkNode_15 dX11_checkNode_18 dX11_checkNode_19 dX11_checkNode_22 dX11_checkNode_25 rfl (by decide +kernel) zth_0 (List.mem_of_getElem? (i := 10) rfl) rfl (Nat.le_of_ble_eq_true rfl) (Nat.le_of_ble_eq_true rfl) (Nat.le_of_ble_eq_true rfl) (Nat.le_of_ble_eq_true rfl) (fun nx9 hn9 => ⟨rfl, rfl, Or.inr (nI_le (by omega) hj)⟩)
set_option maxRecDepth 100000 in
theorem c_X11_checkAnotherNode {G : zG} {σ : zH} {nx b mem hi : Nat} {lim : Int32} {nt : zNT} (h : σ b = some (zTC b mem)) (hg : zGr G σ (b + 1) hi nt lim) : zMX G yX11_checkAnotherNode kX11_checkAnotherNode [.ref b] σ nx (fun v σ' nx' => v = none ∧ σ' = σ ∧ nx' = nx ∧ nt.length < 14) (fun E σ' nx' => E = zES ∧ σ' = σ ∧ nt.length = 14) := by
  refine zMX.of (ls := [some (.ref b)]) (by decide +kernel) ⟨rfl, rfl, rfl⟩ (Nat.le_of_ble_eq_true rfl) (fun _ h => h) ?_
  have hl := hg.2.2.2.2.2.1
  refine z_aload_n dX11_checkAnotherNode_0 rfl ?_
  refine z_getf dX11_checkAnotherNode_1 fl_X11_16 h rfl ?_
  refine z_callV dX11_checkAnotherNode_4 cv_X11_186 (c_X2_size hg) rfl hg.1 rfl rfl ⟨(Nat.le_of_ble_eq_true rfl), (Nat.le_of_ble_eq_true rfl)⟩ (Nat.le_of_ble_eq_true rfl) (Nat.le_of_ble_eq_true rfl) (Nat.le_of_ble_eq_true rfl) (fun v σ1 nx1 hx1 hq1 => ?_)
  obtain ⟨rfl, rfl, rfl⟩ := hq1
  refine z_bipush (v := 14) dX11_checkAnotherNode_7 (by decide) ?_
  by_cases c2 : nt.length < 14
  · refine z_icmp_lt (tgt := 23) dX11_checkAnotherNode_9 (by decide) (fun _ => ?_) (fun q => absurd ((show nI nt.length < nI 14 from nI_lt c2 (by omega))) q)
    refine zX ?_
    exact z_vret dX11_checkAnotherNode_23 rfl (Nat.le_of_ble_eq_true rfl) (Nat.le_of_ble_eq_true rfl) ⟨rfl, rfl, rfl, c2⟩
  · refine z_icmp_lt (tgt := 23) dX11_checkAnotherNode_9 (by decide) (fun q => absurd q ((show ¬ nI nt.length < nI 14 from nI_nlt (by omega) (by omega)))) (fun _ => ?_)
    refine z_throwW dX11_checkAnotherNode_12 dX11_checkAnotherNode_15 dX11_checkAnotherNode_16 dX11_checkAnotherNode_19 dX11_checkAnotherNode_22 rfl (by decide +kernel) zth_2 (List.mem_of_getElem? (i := 11) rfl) rfl (Nat.le_of_ble_eq_true rfl) (Nat.le_of_ble_eq_true rfl) (Nat.le_of_ble_eq_true rfl) (Nat.le_of_ble_eq_true rfl) (fun nx9 hn9 => ⟨rfl, rfl, by omega⟩)
set_option maxRecDepth 100000 in
theorem c_X11_checkAttempt {G : zG} {σ : zH} {nx b mem tk sp cs : Nat} {x : Int32} {A : List zAE} (h : σ b = some (zTC b mem)) (hg : zLg G σ (b + 49 + 7) A tk sp cs) : zMX G yX11_checkAttempt kX11_checkAttempt [.ref b, .int x] σ nx (fun v σ' nx' => v = none ∧ σ' = σ ∧ nx' = nx ∧ ∃ i, i < A.length ∧ x = nI i) (fun E σ' nx' => E = zEI ∧ σ' = σ ∧ (x < 0 ∨ nI A.length ≤ x)) := by
  refine zMX.of (ls := [some (.ref b), some (.int x)]) (by decide +kernel) ⟨rfl, rfl, rfl⟩ (Nat.le_of_ble_eq_true rfl) (fun _ h => h) ?_
  have hl : A.length ≤ 224 := by obtain ⟨f, _, _, _, hl⟩ := hg; exact hl
  refine z_iload_n dX11_checkAttempt_0 rfl ?_
  by_cases c1 : x < 0
  · refine z_if_lt (tgt := 15) dX11_checkAttempt_1 (by decide) (fun _ => ?_) (fun q => absurd (c1) q)
    refine z_throwW dX11_checkAttempt_15 dX11_checkAttempt_18 dX11_checkAttempt_19 dX11_checkAttempt_22 dX11_checkAttempt_25 rfl (by decide +kernel) zth_0 (List.mem_of_getElem? (i := 12) rfl) rfl (Nat.le_of_ble_eq_true rfl) (Nat.le_of_ble_eq_true rfl) (Nat.le_of_ble_eq_true rfl) (Nat.le_of_ble_eq_true rfl) (fun nx9 hn9 => ⟨rfl, rfl, Or.inl c1⟩)
  · refine z_if_lt (tgt := 15) dX11_checkAttempt_1 (by decide) (fun q => absurd q (c1)) (fun _ => ?_)
    refine z_iload_n dX11_checkAttempt_4 rfl ?_
    refine z_aload_n dX11_checkAttempt_5 rfl ?_
    refine z_getf dX11_checkAttempt_6 fl_X11_58 h rfl ?_
    refine z_getf dX11_checkAttempt_9 fl_X11_304 hg.c rfl ?_
    obtain ⟨j, hj, rfl⟩ := nI_of c1
    by_cases c2 : j < A.length
    · refine z_icmp_lt (tgt := 26) dX11_checkAttempt_12 (by decide) (fun _ => ?_) (fun q => absurd ((nI_lt c2 (by omega))) q)
      refine zX ?_
      exact z_vret dX11_checkAttempt_26 rfl (Nat.le_of_ble_eq_true rfl) (Nat.le_of_ble_eq_true rfl) ⟨rfl, rfl, rfl, j, c2, rfl⟩
    · refine z_icmp_lt (tgt := 26) dX11_checkAttempt_12 (by decide) (fun q => absurd q ((nI_nlt (by omega) hj))) (fun _ => ?_)
      refine z_throwW dX11_checkAttempt_15 dX11_checkAttempt_18 dX11_checkAttempt_19 dX11_checkAttempt_22 dX11_checkAttempt_25 rfl (by decide +kernel) zth_0 (List.mem_of_getElem? (i := 12) rfl) rfl (Nat.le_of_ble_eq_true rfl) (Nat.le_of_ble_eq_true rfl) (Nat.le_of_ble_eq_true rfl) (Nat.le_of_ble_eq_true rfl) (fun nx9 hn9 => ⟨rfl, rfl, Or.inr (nI_le (by omega) hj)⟩)
theorem nI_four {x : Int32} {n : Nat} (hn : n < 2 ^ 31) (h1 : ¬ x < 1) (h2 : x ≤ nI n) : ∃ p, 1 ≤ p ∧ p ≤ n ∧ x = nI p := by
  have h0 : ¬ x < 0 := fun q => h1 (Int32.lt_trans q (by decide))
  obtain ⟨p, hp, rfl⟩ := nI_of h0
  refine ⟨p, ?_, (nI_leI hp hn).mp h2, rfl⟩
  rcases Nat.eq_zero_or_pos p with e | e
  · subst e; exact absurd (show nI 0 < 1 by decide) h1
  · exact e
set_option maxRecDepth 100000 in
theorem c_X11_checkToldPartitions {G : zG} {σ : zH} {nx : Nat} {x : Int32} : zMX G yX11_checkToldPartitions kX11_checkToldPartitions [.int x] σ nx (fun v σ' nx' => v = none ∧ σ' = σ ∧ nx' = nx ∧ ∃ p, 1 ≤ p ∧ p ≤ 4 ∧ x = nI p) (fun E σ' nx' => E = zEA ∧ σ' = σ ∧ (x < 1 ∨ 4 < x)) := by
  refine zMX.of (ls := [some (.int x)]) (by decide +kernel) ⟨rfl, rfl, rfl⟩ (Nat.le_of_ble_eq_true rfl) (fun _ h => h) ?_
  refine z_iload_n dX11_checkToldPartitions_0 rfl ?_
  refine z_iconst (v := 1) dX11_checkToldPartitions_1 (by decide) ?_
  by_cases c1 : x < 1
  · refine z_icmp_lt (tgt := 10) dX11_checkToldPartitions_2 (by decide) (fun _ => ?_) (fun q => absurd (c1) q)
    refine z_throwW dX11_checkToldPartitions_10 dX11_checkToldPartitions_13 dX11_checkToldPartitions_14 dX11_checkToldPartitions_17 dX11_checkToldPartitions_20 rfl (by decide +kernel) zth_1 (List.mem_of_getElem? (i := 13) rfl) rfl (Nat.le_of_ble_eq_true rfl) (Nat.le_of_ble_eq_true rfl) (Nat.le_of_ble_eq_true rfl) (Nat.le_of_ble_eq_true rfl) (fun nx9 hn9 => ⟨rfl, rfl, Or.inl c1⟩)
  · refine z_icmp_lt (tgt := 10) dX11_checkToldPartitions_2 (by decide) (fun q => absurd q (c1)) (fun _ => ?_)
    refine z_iload_n dX11_checkToldPartitions_5 rfl ?_
    refine z_iconst (v := 4) dX11_checkToldPartitions_6 (by decide) ?_
    by_cases c2 : x ≤ 4
    · obtain ⟨p, p1, p2, p3⟩ := nI_four (n := 4) (by decide) c1 c2
      refine z_icmp_le (tgt := 21) dX11_checkToldPartitions_7 (by decide) (fun _ => ?_) (fun q => absurd (c2) q)
      refine zX ?_
      exact z_vret dX11_checkToldPartitions_21 rfl (Nat.le_of_ble_eq_true rfl) (Nat.le_of_ble_eq_true rfl) ⟨rfl, rfl, rfl, p, p1, p2, p3⟩
    · refine z_icmp_le (tgt := 21) dX11_checkToldPartitions_7 (by decide) (fun q => absurd q (c2)) (fun _ => ?_)
      refine z_throwW dX11_checkToldPartitions_10 dX11_checkToldPartitions_13 dX11_checkToldPartitions_14 dX11_checkToldPartitions_17 dX11_checkToldPartitions_20 rfl (by decide +kernel) zth_1 (List.mem_of_getElem? (i := 13) rfl) rfl (Nat.le_of_ble_eq_true rfl) (Nat.le_of_ble_eq_true rfl) (Nat.le_of_ble_eq_true rfl) (Nat.le_of_ble_eq_true rfl) (fun nx9 hn9 => ⟨rfl, rfl, Or.inr (Int32.not_le.mp c2)⟩)
set_option maxRecDepth 100000 in
theorem c_X11_checkSetting {G : zG} {σ : zH} {nx : Nat} {x : Int32} : zMX G yX11_checkSetting kX11_checkSetting [.int x] σ nx (fun v σ' nx' => v = none ∧ σ' = σ ∧ nx' = nx ∧ ∃ p, p ≤ 1000 ∧ x = nI p) (fun E σ' nx' => E = zEA ∧ σ' = σ ∧ (x < 0 ∨ 1000 < x)) := by
  refine zMX.of (ls := [some (.int x)]) (by decide +kernel) ⟨rfl, rfl, rfl⟩ (Nat.le_of_ble_eq_true rfl) (fun _ h => h) ?_
  refine z_iload_n dX11_checkSetting_0 rfl ?_
  by_cases c1 : x < 0
  · refine z_if_lt (tgt := 11) dX11_checkSetting_1 (by decide) (fun _ => ?_) (fun q => absurd (c1) q)
    refine z_throwW dX11_checkSetting_11 dX11_checkSetting_14 dX11_checkSetting_15 dX11_checkSetting_18 dX11_checkSetting_21 rfl (by decide +kernel) zth_1 (List.mem_of_getElem? (i := 14) rfl) rfl (Nat.le_of_ble_eq_true rfl) (Nat.le_of_ble_eq_true rfl) (Nat.le_of_ble_eq_true rfl) (Nat.le_of_ble_eq_true rfl) (fun nx9 hn9 => ⟨rfl, rfl, Or.inl c1⟩)
  · refine z_if_lt (tgt := 11) dX11_checkSetting_1 (by decide) (fun q => absurd q (c1)) (fun _ => ?_)
    refine z_iload_n dX11_checkSetting_4 rfl ?_
    refine z_sipush (v := 1000) dX11_checkSetting_5 (by decide) ?_
    by_cases c2 : x ≤ 1000
    · obtain ⟨p, hp, rfl⟩ := nI_of c1
      refine z_icmp_le (tgt := 22) dX11_checkSetting_8 (by decide) (fun _ => ?_) (fun q => absurd (c2) q)
      refine zX ?_
      exact z_vret dX11_checkSetting_22 rfl (Nat.le_of_ble_eq_true rfl) (Nat.le_of_ble_eq_true rfl) ⟨rfl, rfl, rfl, p, (nI_leI (b := 1000) hp (by decide)).mp c2, rfl⟩
    · refine z_icmp_le (tgt := 22) dX11_checkSetting_8 (by decide) (fun q => absurd q (c2)) (fun _ => ?_)
      refine z_throwW dX11_checkSetting_11 dX11_checkSetting_14 dX11_checkSetting_15 dX11_checkSetting_18 dX11_checkSetting_21 rfl (by decide +kernel) zth_1 (List.mem_of_getElem? (i := 14) rfl) rfl (Nat.le_of_ble_eq_true rfl) (Nat.le_of_ble_eq_true rfl) (Nat.le_of_ble_eq_true rfl) (Nat.le_of_ble_eq_true rfl) (fun nx9 hn9 => ⟨rfl, rfl, Or.inr (Int32.not_le.mp c2)⟩)
set_option maxRecDepth 100000 in
theorem c_X11_checkPartition {G : zG} {σ : zH} {nx r m : Nat} {x : Int32} {P : List zP2} (h : zHas G σ r m P) : zMX G yX11_checkPartition kX11_checkPartition [.ref r, .int x] σ nx (fun v σ' nx' => v = none ∧ σ' = σ ∧ nx' = nx ∧ ∃ j, j < P.length ∧ x = nI j) (fun E σ' nx' => E = zEI ∧ σ' = σ ∧ (x < 0 ∨ nI P.length ≤ x)) := by
  refine zMX.of (ls := [some (.ref r), some (.int x)]) (by decide +kernel) ⟨rfl, rfl, rfl⟩ (Nat.le_of_ble_eq_true rfl) (fun _ h => h) ?_
  have hl := h.len
  refine z_iload_n dX11_checkPartition_0 rfl ?_
  by_cases c1 : x < 0
  · refine z_if_lt (tgt := 12) dX11_checkPartition_1 (by decide) (fun _ => ?_) (fun q => absurd (c1) q)
    refine z_throwW dX11_checkPartition_12 dX11_checkPartition_15 dX11_checkPartition_16 dX11_checkPartition_19 dX11_checkPartition_22 rfl (by decide +kernel) zth_0 (List.mem_of_getElem? (i := 15) rfl) rfl (Nat.le_of_ble_eq_true rfl) (Nat.le_of_ble_eq_true rfl) (Nat.le_of_ble_eq_true rfl) (Nat.le_of_ble_eq_true rfl) (fun nx9 hn9 => ⟨rfl, rfl, Or.inl c1⟩)
  · refine z_if_lt (tgt := 12) dX11_checkPartition_1 (by decide) (fun q => absurd q (c1)) (fun _ => ?_)
    refine z_iload_n dX11_checkPartition_4 rfl ?_
    refine z_aload_n dX11_checkPartition_5 rfl ?_
    refine z_callV dX11_checkPartition_6 cv_X11_191 (c_X9_parts h) rfl h.c rfl rfl ⟨(Nat.le_of_ble_eq_true rfl), (Nat.le_of_ble_eq_true rfl)⟩ (Nat.le_of_ble_eq_true rfl) (Nat.le_of_ble_eq_true rfl) (Nat.le_of_ble_eq_true rfl) (fun v σ1 nx1 hx1 hq1 => ?_)
    obtain ⟨rfl, rfl, rfl⟩ := hq1
    rw [zcum_len]
    obtain ⟨j, hj, rfl⟩ := nI_of c1
    by_cases c2 : j < P.length
    · refine z_icmp_lt (tgt := 23) dX11_checkPartition_9 (by decide) (fun _ => ?_) (fun q => absurd ((nI_lt c2 (by omega))) q)
      refine zX ?_
      exact z_vret dX11_checkPartition_23 rfl (Nat.le_of_ble_eq_true rfl) (Nat.le_of_ble_eq_true rfl) ⟨rfl, rfl, rfl, j, c2, rfl⟩
    · refine z_icmp_lt (tgt := 23) dX11_checkPartition_9 (by decide) (fun q => absurd q ((nI_nlt (by omega) hj))) (fun _ => ?_)
      refine z_throwW dX11_checkPartition_12 dX11_checkPartition_15 dX11_checkPartition_16 dX11_checkPartition_19 dX11_checkPartition_22 rfl (by decide +kernel) zth_0 (List.mem_of_getElem? (i := 15) rfl) rfl (Nat.le_of_ble_eq_true rfl) (Nat.le_of_ble_eq_true rfl) (Nat.le_of_ble_eq_true rfl) (Nat.le_of_ble_eq_true rfl) (fun nx9 hn9 => ⟨rfl, rfl, Or.inr (nI_le (by omega) hj)⟩)
theorem zsz_le {P : List zP2} {j : Nat} : zsz P j ≤ P.flatten.length := by
  rw [zsz, List.getD_eq_getElem?_getD]
  cases h : P[j]? with
  | none => exact Nat.zero_le _
  | some q =>
    obtain ⟨hl, e⟩ := List.getElem?_eq_some_iff.mp h
    have := List.Sublist.length_le (List.sublist_flatten_of_mem (List.mem_of_getElem? h))
    exact this
set_option maxRecDepth 100000 in
theorem c_X11_checkPlace {G : zG} {σ : zH} {nx r m : Nat} {x y : Int32} {P : List zP2} (h : zHas G σ r m P) : zMX G yX11_checkPlace kX11_checkPlace [.ref r, .int x, .int y] σ nx (fun v σ' nx' => v = none ∧ σ' = σ ∧ nx' = nx ∧ ∃ j i, j < P.length ∧ x = nI j ∧ i < zsz P j ∧ y = nI i) (fun E σ' nx' => E = zEI ∧ σ' = σ ∧ ((x < 0 ∨ nI P.length ≤ x) ∨ ∃ j, j < P.length ∧ x = nI j ∧ (y < 0 ∨ nI (zsz P j) ≤ y))) := by
  refine zMX.of (ls := [some (.ref r), some (.int x), some (.int y)]) (by decide +kernel) ⟨rfl, rfl, rfl⟩ (Nat.le_of_ble_eq_true rfl) (fun _ h => h) ?_
  have hl := h.len
  refine z_aload_n dX11_checkPlace_0 rfl ?_
  refine z_iload_n dX11_checkPlace_1 rfl ?_
  refine z_callSX dX11_checkPlace_2 cv_X11_194 (c_X11_checkPartition h) rfl rfl ⟨(Nat.le_of_ble_eq_true rfl), (Nat.le_of_ble_eq_true rfl)⟩ (Nat.le_of_ble_eq_true rfl) (Nat.le_of_ble_eq_true rfl) (Nat.le_of_ble_eq_true rfl) rfl w_1059 (fun E σ' nx' _ q => ⟨q.1, q.2.1, Or.inl q.2.2⟩) (fun v σ1 nx1 hx1 hq1 => ?_)
  obtain ⟨rfl, rfl, rfl, j, hj, rfl⟩ := hq1
  have hs := zsz_le (P := P) (j := j)
  refine z_iload_n dX11_checkPlace_5 rfl ?_
  by_cases c1 : y < 0
  · refine z_if_lt (tgt := 18) dX11_checkPlace_6 (by decide) (fun _ => ?_) (fun q => absurd (c1) q)
    refine z_throwW dX11_checkPlace_18 dX11_checkPlace_21 dX11_checkPlace_22 dX11_checkPlace_25 dX11_checkPlace_28 rfl (by decide +kernel) zth_0 (List.mem_of_getElem? (i := 16) rfl) rfl (Nat.le_of_ble_eq_true rfl) (Nat.le_of_ble_eq_true rfl) (Nat.le_of_ble_eq_true rfl) (Nat.le_of_ble_eq_true rfl) (fun nx9 hn9 => ⟨rfl, rfl, Or.inr ⟨j, hj, rfl, Or.inl c1⟩⟩)
  · refine z_if_lt (tgt := 18) dX11_checkPlace_6 (by decide) (fun q => absurd q (c1)) (fun _ => ?_)
    refine z_iload_n dX11_checkPlace_9 rfl ?_
    refine z_aload_n dX11_checkPlace_10 rfl ?_
    refine z_iload_n dX11_checkPlace_11 rfl ?_
    refine z_callV dX11_checkPlace_12 cv_X11_198 (c_has_sizeOf h hj) rfl h.c rfl rfl ⟨(Nat.le_of_ble_eq_true rfl), (Nat.le_of_ble_eq_true rfl)⟩ (Nat.le_of_ble_eq_true rfl) (Nat.le_of_ble_eq_true rfl) (Nat.le_of_ble_eq_true rfl) (fun v σ2 nx2 hx2 hq2 => ?_)
    obtain ⟨rfl, rfl, rfl⟩ := hq2
    obtain ⟨i, hi, rfl⟩ := nI_of c1
    by_cases c2 : i < zsz P j
    · refine z_icmp_lt (tgt := 29) dX11_checkPlace_15 (by decide) (fun _ => ?_) (fun q => absurd ((nI_lt c2 (by omega))) q)
      refine zX ?_
      exact z_vret dX11_checkPlace_29 rfl (Nat.le_of_ble_eq_true rfl) (Nat.le_of_ble_eq_true rfl) ⟨rfl, rfl, rfl, j, i, hj, rfl, c2, rfl⟩
    · refine z_icmp_lt (tgt := 29) dX11_checkPlace_15 (by decide) (fun q => absurd q ((nI_nlt (by omega) hi))) (fun _ => ?_)
      refine z_throwW dX11_checkPlace_18 dX11_checkPlace_21 dX11_checkPlace_22 dX11_checkPlace_25 dX11_checkPlace_28 rfl (by decide +kernel) zth_0 (List.mem_of_getElem? (i := 16) rfl) rfl (Nat.le_of_ble_eq_true rfl) (Nat.le_of_ble_eq_true rfl) (Nat.le_of_ble_eq_true rfl) (Nat.le_of_ble_eq_true rfl) (fun nx9 hn9 => ⟨rfl, rfl, Or.inr ⟨j, hj, rfl, Or.inr (nI_le (by omega) hi)⟩⟩)
