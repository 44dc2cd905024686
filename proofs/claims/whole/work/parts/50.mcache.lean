-- model
/-! the model: its cache -/
/-- sizes of the cached nodes, summed by numbers -/
def zcs (C : Nat → Bool) (sz : Nat → Nat) : Nat → Nat
  | 0 => 0
  | n + 1 => zcs C sz n + (if C n = true then sz n else 0)
theorem zcs_ext {C C' : Nat → Bool} {sz : Nat → Nat} : ∀ n, (∀ j, j < n → C j = C' j) → zcs C sz n = zcs C' sz n
  | 0, _ => rfl
  | n + 1, h => by rw [zcs, zcs, zcs_ext n fun j hj => h j (by omega), h n (by omega)]
theorem zcs_add {C : Nat → Bool} {sz : Nat → Nat} {x : Nat} (hx : C x = false) : ∀ n, zcs (fun j => decide (x = j) || C j) sz n = zcs C sz n + (if x < n then sz x else 0)
  | 0 => by simp [zcs]
  | n + 1 => by
    rw [zcs, zcs, zcs_add hx n]
    by_cases e : x = n
    · subst e
      rw [if_neg (Nat.lt_irrefl _), if_pos (Nat.lt_succ_self _), hx, decide_eq_true rfl]
      simp
    · rw [decide_eq_false e, Bool.false_or]
      by_cases c : x < n
      · rw [if_pos c, if_pos (show x < n + 1 by omega)]; omega
      · rw [if_neg c, if_neg (show ¬ x < n + 1 by omega)]; omega
theorem zcd_cons (q : Nat × Nat) (t : zNS) (j : Nat) : zcd (q :: t) j = (decide (q.1 = j) || zcd t j) := rfl
theorem zcd_mem {L : zNS} {j : Nat} : zcd L j = true ↔ ∃ (i : Nat) (q : Nat × Nat), L[i]? = some q ∧ q.1 = j := by
  unfold zcd
  rw [List.any_eq_true]
  constructor
  · rintro ⟨q, h, e⟩
    obtain ⟨i, hi⟩ := List.getElem?_of_mem h
    exact ⟨i, q, hi, by simpa using e⟩
  · rintro ⟨i, q, h, e⟩
    exact ⟨q, List.mem_of_getElem? h, by simpa using e⟩
theorem zLok_tail {q : Nat × Nat} {t : zNS} (h : zLok (q :: t)) : zLok t ∧ zcd t q.1 = false := by
  obtain ⟨h1, h2, h3⟩ := h
  refine ⟨⟨fun i q hq => h1 (i + 1) q (by simpa using hq), fun i j a b ha hb e => ?_, by simp at h3; omega⟩, ?_⟩
  · have := h2 (i + 1) (j + 1) a b (by simpa using ha) (by simpa using hb) e
    omega
  · cases c : zcd t q.1 with
    | false => rfl
    | true =>
      obtain ⟨i, z, hz, e⟩ := zcd_mem.mp c
      have := h2 (i + 1) 0 z q (by simpa using hz) rfl e
      omega
theorem zcs_sum {sz : Nat → Nat} {n : Nat} : ∀ {L : zNS}, zLok L → (∀ (i : Nat) (q : Nat × Nat), L[i]? = some q → q.1 < n ∧ q.2 = sz q.1) → zcs (zcd L) sz n = zsm L
  | [], _, _ => by
    have : ∀ m, zcs (zcd []) sz m = 0 := by
      intro m
      induction m with
      | zero => rfl
      | succ m ih => rw [zcs, ih]; rfl
    rw [this]
    rfl
  | q :: t, h, hs => by
    obtain ⟨t1, t2⟩ := zLok_tail h
    obtain ⟨s1, s2⟩ := hs 0 q rfl
    have ih := zcs_sum t1 fun i z hz => hs (i + 1) z (by simpa using hz)
    rw [zcs_ext n (C' := fun j => decide (q.1 = j) || zcd t j) fun j _ => zcd_cons q t j, zcs_add t2, ih, if_pos s1, zsm_cons, ← s2]
    omega
section
variable {G : zG} {m : Nat} {nt : zNT} {lim mem wk r tk sp cs un : Nat} {slow : Nat → Nat} {L : zNS} {A : List zAE} {S S' : zMS}
theorem zsm_le300 : ∀ {L : zNS}, (∀ (i : Nat) (q : Nat × Nat), L[i]? = some q → q.2 ≤ 300) → zsm L ≤ 300 * L.length
  | [], _ => Nat.le_refl _
  | q :: t, h => by
    rw [zsm_cons, List.length_cons]
    have := zsm_le300 (L := t) fun i z hz => h (i + 1) z (by simpa using hz)
    have := h 0 q rfl
    omega
set_option maxRecDepth 100000 in
theorem c_cached (hw : zWf nt) (h14 : nt.length ≤ 14) (hn : S.1 0 = nI nt.length) (hC : ∀ k, k < 14 → S.2 18 k = if zcd L k = true then 1 else 0) (hk : zKnw S lim nt) (hL : zLok L) (hs : ∀ (i : Nat) (q : Nat × Nat), L[i]? = some q → q.1 < nt.length ∧ q.2 = (zct lim nt q.1).flatten.length) : zMN G yX12_cached kX12_cached m [] S (fun v S' => v = some (.int (nI (zsm L))) ∧ S' = S) := by
  refine zMN.of (ls := [some (.ref m), none, none]) (by decide +kernel) ⟨rfl, rfl, rfl⟩ (Nat.le_of_ble_eq_true rfl) (fun _ h => h) fun Q hQ => ?_
  have hsum := zcs_sum (sz := fun k => (zct lim nt k).flatten.length) hL hs
  have loop : ∀ (d k : Nat), k + d = nt.length → zNW G kX12_cached m Q 4 [some (.ref m), some (.int (nI (zcs (zcd L) (fun k => (zct lim nt k).flatten.length) k))), some (.int (nI k))] [] S := by
    intro d
    induction d with
    | zero =>
      intro k hd
      have e : k = nt.length := by omega
      subst e
      refine n_iload_n dX12_cached_4 rfl ?_
      refine n_aload_n dX12_cached_5 rfl ?_
      refine n_getE dX12_cached_6 fl_X12_123 rfl (hn) ?_
      refine n_icmp_ge (tgt := 39) dX12_cached_9 (by decide) (fun _ => ?_) (fun q => absurd ((nI_le (Nat.le_refl _) (by omega))) q)
      refine n_iload_n dX12_cached_39 rfl ?_
      exact n_iret dX12_cached_40 rfl (hQ _ _ ⟨by rw [hsum], rfl⟩)
    | succ d ih =>
      intro k hd
      have hkl : k < nt.length := by omega
      have hz := zct_le (lim := lim) hw h14 hkl
      have := ih (k + 1) (by omega)
      rw [zcs] at this
      refine n_iload_n dX12_cached_4 rfl ?_
      refine n_aload_n dX12_cached_5 rfl ?_
      refine n_getE dX12_cached_6 fl_X12_123 rfl (hn) ?_
      refine n_icmp_ge (tgt := 39) dX12_cached_9 (by decide) (fun q => absurd q ((nI_ge hkl (by omega)))) (fun _ => ?_)
      refine n_iload_n dX12_cached_12 rfl ?_
      refine n_aload_n dX12_cached_13 rfl ?_
      refine n_get dX12_cached_14 fl_X12_75 rfl ?_
      refine n_iload_n dX12_cached_17 rfl ?_
      refine n_zald (j := 18) dX12_cached_18 (by decide) rfl rfl (show _ < 14 by omega) (hC k (by omega)) ?_
      by_cases c : zcd L k = true
      · rw [if_pos c] at this ⊢
        refine n_if_eq (tgt := 30) dX12_cached_19 (by decide) (fun q => absurd q ((by decide))) (fun _ => ?_)
        refine n_aload_n dX12_cached_22 rfl ?_
        refine n_iload_n dX12_cached_23 rfl ?_
        refine n_call dX12_cached_24 cv_X12_152 (c_all (by omega) (hk k hkl) hz.2.2) rfl rfl rfl ⟨(Nat.le_of_ble_eq_true rfl), (Nat.le_of_ble_eq_true rfl)⟩ rfl rfl (Nat.le_of_ble_eq_true rfl) (fun v S2 hq2 => ?_)
        obtain ⟨rfl, rfl⟩ := hq2
        refine n_goto (tgt := 31) dX12_cached_27 (by decide) ?_
        refine n_iadd dX12_cached_31 ?_
        rw [nI_add]
        refine n_istore_n dX12_cached_32 (by decide) ?_
        refine n_inc1 dX12_cached_33 rfl (by decide) ?_
        refine n_goto (tgt := 4) dX12_cached_36 (by decide) ?_
        rw [nI_1]
        exact this
      · rw [if_neg c] at this ⊢
        refine n_if_eq (tgt := 30) dX12_cached_19 (by decide) (fun _ => ?_) (fun q => absurd (rfl) q)
        refine n_iconst (v := (nI 0)) dX12_cached_30 (by decide) ?_
        refine n_iadd dX12_cached_31 ?_
        rw [nI_add]
        refine n_istore_n dX12_cached_32 (by decide) ?_
        refine n_inc1 dX12_cached_33 rfl (by decide) ?_
        refine n_goto (tgt := 4) dX12_cached_36 (by decide) ?_
        rw [nI_1]
        exact this
  refine n_iconst (v := (nI 0)) dX12_cached_0 (by decide) ?_
  refine n_istore_n dX12_cached_1 (by decide) ?_
  refine n_iconst (v := (nI 0)) dX12_cached_2 (by decide) ?_
  refine n_istore_n dX12_cached_3 (by decide) ?_
  exact loop nt.length 0 (by omega)
set_option maxRecDepth 100000 in
set_option maxHeartbeats 1000000 in
theorem c_leaves {s : Nat} (hw : zWf nt) (hun : un < 2 ^ 30) (hr : r ≤ 1000) (hs0 : s ≤ r) (h14 : nt.length ≤ 14) (hn : S.1 0 = nI nt.length) (hrm : S.1 5 = nI r) (h : zrC S L un) (hk : zKnw S lim nt) (hL : zLok L) (hs : ∀ (i : Nat) (q : Nat × Nat), L[i]? = some q → q.1 < nt.length ∧ q.2 = (zct lim nt q.1).flatten.length) :
    zMN G yX12_leaves kX12_leaves m [.int (nI s)] S (fun v S' => v = some (.int (nI (L.length - (zmkr r s L).length))) ∧ S'.1 = S.1 ∧ (∀ j, j ≠ 18 → S'.2 j = S.2 j) ∧ zrC S' (zmkr r s L) un) := by
  refine zMN.of (ls := [some (.ref m), some (.int (nI s)), none, none, none]) (by decide +kernel) ⟨rfl, rfl, rfl⟩ (Nat.le_of_ble_eq_true rfl) (fun _ h => h) fun Q hQ => ?_
  have outer : ∀ (L' : zNS) (n : Nat) (S1 : zMS) (x3 x4 : Option Value), n + L'.length = L.length → zmkr r s L = zmkr r s L' → S1.1 = S.1 → (∀ j, j ≠ 18 → S1.2 j = S.2 j) → zrC S1 L' un → zLok L' → (∀ (i : Nat) (q : Nat × Nat), L'[i]? = some q → q.1 < nt.length ∧ q.2 = (zct lim nt q.1).flatten.length) →
      zNW G kX12_leaves m Q 2 [some (.ref m), some (.int (nI s)), some (.int (nI n)), x3, x4] [] S1 := by
    intro L'
    induction L' with
    | nil =>
      intro n S1 x3 x4 hn1 hz a b hc hok hs1
      have hk1 : zKnw S1 lim nt := fun i hi => (hk i hi).cg fun j q1 q2 => b j (by omega)
      refine n_aload_n dX12_leaves_2 rfl ?_
      refine n_call dX12_leaves_3 cv_X12_216 (c_cached hw h14 ((congrFun a 0).trans hn) hc.1 hk1 hok hs1) rfl rfl rfl ⟨(Nat.le_of_ble_eq_true rfl), (Nat.le_of_ble_eq_true rfl)⟩ rfl rfl (Nat.le_of_ble_eq_true rfl) (fun v S1 hq1 => ?_)
      obtain ⟨rfl, hS⟩ := hq1
      subst hS
      refine n_iload_n dX12_leaves_6 rfl ?_
      refine n_iadd dX12_leaves_7 ?_
      rw [nI_add]
      refine n_aload_n dX12_leaves_8 rfl ?_
      refine n_getE dX12_leaves_9 fl_X12_220 rfl ((congrFun a 5).trans hrm) ?_
      refine n_icmp_le (tgt := 86) dX12_leaves_12 (by decide) (fun _ => ?_) (fun q => absurd ((nI_le (by rw [show zsm [] = 0 from rfl]; omega) (by omega))) q)
      rw [hz] at hQ
      rw [show zmkr r s [] = [] from rfl, List.length_nil, Nat.sub_zero, show L.length = n by simpa using hn1.symm] at hQ
      refine n_iload_n dX12_leaves_86 rfl ?_
      exact n_iret dX12_leaves_87 rfl (hQ _ _ ⟨rfl, a, b, hc⟩)
    | cons q t ih =>
      intro n S1 x3 x4 hn1 hz a b hc hok hs1
      have hk1 : zKnw S1 lim nt := fun i hi => (hk i hi).cg fun j q1 q2 => b j (by omega)
      obtain ⟨t1, t2⟩ := zLok_tail hok
      have hsm := zsm_le300 (L := q :: t) fun i z hz => (hok.1 i z hz).2
      have hlen := hok.2.2
      rw [zmkr] at hz
      refine n_aload_n dX12_leaves_2 rfl ?_
      refine n_call dX12_leaves_3 cv_X12_216 (c_cached hw h14 ((congrFun a 0).trans hn) hc.1 hk1 hok hs1) rfl rfl rfl ⟨(Nat.le_of_ble_eq_true rfl), (Nat.le_of_ble_eq_true rfl)⟩ rfl rfl (Nat.le_of_ble_eq_true rfl) (fun v S1 hq1 => ?_)
      obtain ⟨rfl, hS⟩ := hq1
      subst hS
      refine n_iload_n dX12_leaves_6 rfl ?_
      refine n_iadd dX12_leaves_7 ?_
      rw [nI_add]
      refine n_aload_n dX12_leaves_8 rfl ?_
      refine n_getE dX12_leaves_9 fl_X12_220 rfl ((congrFun a 5).trans hrm) ?_
      by_cases c : zsm (q :: t) + s > r
      · rw [if_pos c] at hz
        obtain ⟨hc1, hc2, u, hu1, hu2⟩ := hc
        have q14 := (hok.1 0 q rfl).1
        have qn := (hs1 0 q rfl).1
        have least : ∀ j, zcd (q :: t) j = true → j ≠ q.1 → u q.1 < u j := by
          intro j hj hne
          obtain ⟨i, z, hz, e⟩ := zcd_mem.mp hj
          have i0 : 0 < i := by
            rcases Nat.eq_zero_or_pos i with w | w
            · subst w; cases hz; exact absurd e.symm hne
            · exact w
          have := hu2 0 i q z i0 rfl hz
          rw [e] at this
          exact this
        have used : ∀ j, zcd (q :: t) j = true → S1.2 19 j = nI (u j) ∧ u j ≤ un := by
          intro j hj
          obtain ⟨i, z, hz, e⟩ := zcd_mem.mp hj
          have := hu1 i z hz
          rw [e] at this
          exact this
        have qin : zcd (q :: t) q.1 = true := by rw [zcd_cons, decide_eq_true rfl]; rfl
        have fin : ∀ x4 : Option Value, zNW G kX12_leaves m Q 73 [some (.ref m), some (.int (nI s)), some (.int (nI n)), some (.int (nI q.1)), x4] [] S1 := by
          intro x4
          refine n_aload_n dX12_leaves_73 rfl ?_
          refine n_get dX12_leaves_74 fl_X12_75 rfl ?_
          refine n_iload_n dX12_leaves_77 rfl ?_
          refine n_iconst (v := (nI 0)) dX12_leaves_78 (by decide) ?_
          refine n_zast (j := 18) dX12_leaves_79 (by decide) rfl rfl (show _ < 14 by omega) rfl ?_
          refine n_inc1 dX12_leaves_80 rfl (by decide) ?_
          refine n_goto (tgt := 2) dX12_leaves_83 (by decide) ?_
          rw [nI_1]
          refine ih (n + 1) _ _ x4 (by rw [List.length_cons] at hn1; omega) hz a (fun j hj => (zST_n _ _ _ hj).trans (b j hj)) ⟨fun k hk => ?_, hc2, u, fun i z hz => ?_, fun i j a b hij ha hb => hu2 (i + 1) (j + 1) a b (by omega) (by simpa using ha) (by simpa using hb)⟩ t1 fun i z hz => hs1 (i + 1) z (by simpa using hz)
          · by_cases e : k = q.1
            · subst e; rw [zSTs, t2]; rfl
            · rw [zSTn e, hc1 k hk, zcd_cons, decide_eq_false (fun w => e w.symm), Bool.false_or]
          · rw [zSTo (by decide)]; exact hu1 (i + 1) z (by simpa using hz)
        have inner : ∀ (d k : Nat) (o : Int32), k + d = nt.length → (o = -1 ∧ (∀ j, j < k → zcd (q :: t) j = false) ∨ ∃ i, o = nI i ∧ i < k ∧ zcd (q :: t) i = true ∧ ∀ j, j < k → zcd (q :: t) j = true → u i ≤ u j) → zNW G kX12_leaves m Q 20 [some (.ref m), some (.int (nI s)), some (.int (nI n)), some (.int o), some (.int (nI k))] [] S1 := by
          intro d
          induction d with
          | zero =>
            intro k o hd ho
            have e : k = nt.length := by omega
            subst e
            refine n_iload dX12_leaves_20 rfl ?_
            refine n_aload_n dX12_leaves_22 rfl ?_
            refine n_getE dX12_leaves_23 fl_X12_123 rfl ((congrFun a 0).trans hn) ?_
            refine n_icmp_ge (tgt := 73) dX12_leaves_26 (by decide) (fun _ => ?_) (fun q => absurd ((nI_le (Nat.le_refl _) (by omega))) q)
            rcases ho with ⟨-, w⟩ | ⟨i, rfl, i1, i2, i3⟩
            · rw [w q.1 qn] at qin; exact nomatch qin
            · have e : i = q.1 := by
                by_cases e : i = q.1
                · exact e
                · have := least i i2 e
                  have := i3 q.1 qn qin
                  omega
              subst e
              exact fin _
          | succ d ihd =>
            intro k o hd ho
            have hkl : k < nt.length := by omega
            refine n_iload dX12_leaves_20 rfl ?_
            refine n_aload_n dX12_leaves_22 rfl ?_
            refine n_getE dX12_leaves_23 fl_X12_123 rfl ((congrFun a 0).trans hn) ?_
            refine n_icmp_ge (tgt := 73) dX12_leaves_26 (by decide) (fun q => absurd q ((nI_ge hkl (by omega)))) (fun _ => ?_)
            refine n_aload_n dX12_leaves_29 rfl ?_
            refine n_get dX12_leaves_30 fl_X12_75 rfl ?_
            refine n_iload dX12_leaves_33 rfl ?_
            refine n_zald (j := 18) dX12_leaves_35 (by decide) rfl rfl (show _ < 14 by omega) (hc1 k (by omega)) ?_
            by_cases c2 : zcd (q :: t) k = true
            · rw [if_pos c2]
              have take : zNW G kX12_leaves m Q 66 [some (.ref m), some (.int (nI s)), some (.int (nI n)), some (.int o), some (.int (nI k))] [.int (nI k)] S1 → True := fun _ => trivial
              refine n_if_eq (tgt := 65) dX12_leaves_36 (by decide) (fun q => absurd q ((by decide))) (fun _ => ?_)
              rcases ho with ⟨rfl, w⟩ | ⟨i, rfl, i1, i2, i3⟩
              · refine n_iload_n dX12_leaves_39 rfl ?_
                refine n_iconst (v := (-1)) dX12_leaves_40 (by decide) ?_
                refine n_icmp_eq (tgt := 60) dX12_leaves_41 (by decide) (fun _ => ?_) (fun q => absurd (rfl) q)
                refine n_iload dX12_leaves_60 rfl ?_
                refine n_goto (tgt := 66) dX12_leaves_62 (by decide) ?_
                refine n_istore_n dX12_leaves_66 (by decide) ?_
                refine n_inc1 dX12_leaves_67 rfl (by decide) ?_
                refine n_goto (tgt := 20) dX12_leaves_70 (by decide) ?_
                rw [nI_1]
                refine ihd (k + 1) _ (by omega) (Or.inr ⟨k, rfl, Nat.lt_succ_self _, c2, fun j hj hj2 => ?_⟩)
                by_cases e : j = k
                · subst e; exact Nat.le_refl _
                · rw [w j (by omega)] at hj2; exact nomatch hj2
              · obtain ⟨y1, y2⟩ := used k c2
                obtain ⟨z1, z2⟩ := used i i2
                refine n_iload_n dX12_leaves_39 rfl ?_
                refine n_iconst (v := (-1)) dX12_leaves_40 (by decide) ?_
                refine n_icmp_eq (tgt := 60) dX12_leaves_41 (by decide) (fun q => absurd q ((fun w => absurd (show nI i < 0 by rw [w]; decide) (nI_pos (by omega))))) (fun _ => ?_)
                refine n_aload_n dX12_leaves_44 rfl ?_
                refine n_get dX12_leaves_45 fl_X12_78 rfl ?_
                refine n_iload dX12_leaves_48 rfl ?_
                refine n_iald (j := 19) dX12_leaves_50 (by decide) rfl rfl (show _ < 14 by omega) y1 ?_
                refine n_aload_n dX12_leaves_51 rfl ?_
                refine n_get dX12_leaves_52 fl_X12_78 rfl ?_
                refine n_iload_n dX12_leaves_55 rfl ?_
                refine n_iald (j := 19) dX12_leaves_56 (by decide) rfl rfl (show _ < 14 by omega) z1 ?_
                refine n_icmp_ge (tgt := 65) dX12_leaves_57 (by decide) (fun h57 => ?_) (fun h57 => ?_)
                · have c3 := (nI_leI (by omega) (by omega)).mp h57
                  refine n_iload_n dX12_leaves_65 rfl ?_
                  refine n_istore_n dX12_leaves_66 (by decide) ?_
                  refine n_inc1 dX12_leaves_67 rfl (by decide) ?_
                  refine n_goto (tgt := 20) dX12_leaves_70 (by decide) ?_
                  rw [nI_1]
                  refine ihd (k + 1) _ (by omega) (Or.inr ⟨i, rfl, by omega, i2, fun j hj hj2 => ?_⟩)
                  by_cases e : j = k
                  · subst e; exact c3
                  · exact i3 j (by omega) hj2
                · have c3 : ¬ u i ≤ u k := fun w => h57 (nI_le w (by omega))
                  refine n_iload dX12_leaves_60 rfl ?_
                  refine n_goto (tgt := 66) dX12_leaves_62 (by decide) ?_
                  refine n_istore_n dX12_leaves_66 (by decide) ?_
                  refine n_inc1 dX12_leaves_67 rfl (by decide) ?_
                  refine n_goto (tgt := 20) dX12_leaves_70 (by decide) ?_
                  rw [nI_1]
                  refine ihd (k + 1) _ (by omega) (Or.inr ⟨k, rfl, Nat.lt_succ_self _, c2, fun j hj hj2 => ?_⟩)
                  by_cases e : j = k
                  · subst e; exact Nat.le_refl _
                  · have := i3 j (by omega) hj2; omega
            · rw [if_neg c2]
              refine n_if_eq (tgt := 65) dX12_leaves_36 (by decide) (fun _ => ?_) (fun q => absurd (rfl) q)
              refine n_iload_n dX12_leaves_65 rfl ?_
              refine n_istore_n dX12_leaves_66 (by decide) ?_
              refine n_inc1 dX12_leaves_67 rfl (by decide) ?_
              refine n_goto (tgt := 20) dX12_leaves_70 (by decide) ?_
              rw [nI_1]
              refine ihd (k + 1) _ (by omega) ?_
              rcases ho with ⟨rfl, w⟩ | ⟨i, rfl, i1, i2, i3⟩
              · refine Or.inl ⟨rfl, fun j hj => ?_⟩
                by_cases e : j = k
                · subst e; simpa using c2
                · exact w j (by omega)
              · refine Or.inr ⟨i, rfl, by omega, i2, fun j hj hj2 => ?_⟩
                by_cases e : j = k
                · subst e; exact absurd hj2 c2
                · exact i3 j (by omega) hj2
        refine n_icmp_le (tgt := 86) dX12_leaves_12 (by decide) (fun q => absurd q ((nI_ge c (by omega)))) (fun _ => ?_)
        refine n_iconst (v := (-1)) dX12_leaves_15 (by decide) ?_
        refine n_istore_n dX12_leaves_16 (by decide) ?_
        refine n_iconst (v := (nI 0)) dX12_leaves_17 (by decide) ?_
        refine n_istore dX12_leaves_18 (by decide) ?_
        exact inner nt.length 0 _ (by omega) (Or.inl ⟨rfl, fun j hj => absurd hj (Nat.not_lt_zero _)⟩)
      · rw [if_neg c] at hz
        refine n_icmp_le (tgt := 86) dX12_leaves_12 (by decide) (fun _ => ?_) (fun q => absurd ((nI_le (by omega) (by omega))) q)
        rw [hz, show L.length - (q :: t).length = n by omega] at hQ
        refine n_iload_n dX12_leaves_86 rfl ?_
        exact n_iret dX12_leaves_87 rfl (hQ _ _ ⟨rfl, a, b, hc⟩)
  refine n_iconst (v := (nI 0)) dX12_leaves_0 (by decide) ?_
  refine n_istore_n dX12_leaves_1 (by decide) ?_
  exact outer L 0 S none none (by omega) rfl rfl (fun _ _ => rfl) h hL hs
set_option maxRecDepth 100000 in
theorem c_m_setRoom {x : Int32} (hw : zWf nt) (hh : zHow nt) (hlim : lim ≤ 1000) (hun : un < 2 ^ 30) (hL : zLok L) (hs : ∀ (i : Nat) (q : Nat × Nat), L[i]? = some q → q.1 < nt.length ∧ q.2 = (zct lim nt q.1).flatten.length) (h : zrM S nt lim mem wk slow r L A tk sp cs un) : zMN G yX12_setRoom kX12_setRoom m [.int x] S (fun v S' => zQm v S' (zk_1000 x) (v = some (.int (nI (L.length - (zmkr x.toNatClampNeg 0 L).length))) ∧ zrM S' nt lim mem wk slow x.toNatClampNeg (zmkr x.toNatClampNeg 0 L) A tk sp cs un) (zrM S' nt lim mem wk slow r L A tk sp cs un)) := by
  refine zMN.of (ls := [some (.ref m), some (.int x)]) (by decide +kernel) ⟨rfl, rfl, rfl⟩ (Nat.le_of_ble_eq_true rfl) (fun _ h => h) fun Q hQ => ?_
  refine n_aload_n dX12_setRoom_0 rfl ?_
  refine n_call dX12_setRoom_1 cv_X12_196 (c_knows hw hh hlim h) rfl rfl rfl ⟨(Nat.le_of_ble_eq_true rfl), (Nat.le_of_ble_eq_true rfl)⟩ rfl rfl (Nat.le_of_ble_eq_true rfl) (fun v S1 hq1 => ?_)
  obtain ⟨rfl, a1, a2, a3⟩ := hq1
  have h1 := h.kn a1 a2 a3
  have bad : (x < 0 ∨ 1000 < x) → zNW G kX12_setRoom m Q 16 [some (.ref m), some (.int x)] [.ref m] S1 := by
    intro q
    refine n_iconst (v := (nI 1)) dX12_setRoom_16 (by decide) ?_
    refine n_goto (tgt := 21) dX12_setRoom_17 (by decide) ?_
    refine n_call dX12_setRoom_21 cv_X12_130 c_fails rfl rfl rfl ⟨(Nat.le_of_ble_eq_true rfl), (Nat.le_of_ble_eq_true rfl)⟩ rfl rfl (Nat.le_of_ble_eq_true rfl) (fun v S2 hq2 => ?_)
    obtain ⟨rfl, rfl⟩ := hq2
    refine n_if_eq (tgt := 29) dX12_setRoom_24 (by decide) (fun q => absurd q ((by decide))) (fun _ => ?_)
    refine n_iconst (v := (nI 0)) dX12_setRoom_27 (by decide) ?_
    exact n_iret dX12_setRoom_28 rfl (hQ _ _ (zQm.bad (c' := 1) zSF_s (by rw [zk_1000, if_pos q]) (by decide) h1.thr))
  refine n_aload_n dX12_setRoom_4 rfl ?_
  refine n_iload_n dX12_setRoom_5 rfl ?_
  refine n_if_lt (tgt := 16) dX12_setRoom_6 (by decide) (fun h6 => ?_) (fun h6 => ?_)
  · exact bad (Or.inl h6)
  · refine n_iload_n dX12_setRoom_9 rfl ?_
    refine n_sipush (v := (nI 1000)) dX12_setRoom_10 (by decide) ?_
    refine n_icmp_le (tgt := 20) dX12_setRoom_13 (by decide) (fun h13 => ?_) (fun h13 => ?_)
    · obtain ⟨p, hp, rfl⟩ := nI_of h6
      have p1000 : p ≤ 1000 := (nI_leI (b := 1000) hp (by decide)).mp h13
      have hc : zk_1000 (nI p) = 0 := by rw [zk_1000]; exact if_neg (by rintro (q | q); exact h6 q; exact absurd q (Int32.not_lt.mpr h13))
      rw [nI_clamp hp] at hQ
      refine n_iconst (v := (nI 0)) dX12_setRoom_20 (by decide) ?_
      refine n_call dX12_setRoom_21 cv_X12_130 c_fails rfl rfl rfl ⟨(Nat.le_of_ble_eq_true rfl), (Nat.le_of_ble_eq_true rfl)⟩ rfl rfl (Nat.le_of_ble_eq_true rfl) (fun v S2 hq2 => ?_)
      obtain ⟨rfl, rfl⟩ := hq2
      refine n_if_eq (tgt := 29) dX12_setRoom_24 (by decide) (fun _ => ?_) (fun q => absurd (rfl) q)
      refine n_aload_n dX12_setRoom_29 rfl ?_
      refine n_iload_n dX12_setRoom_30 rfl ?_
      refine n_put (j := 5) dX12_setRoom_31 fp_X12_220 (zMFs5 _ _ _) rfl rfl (Nat.le_of_ble_eq_true rfl) ?_
      refine n_aload_n dX12_setRoom_34 rfl ?_
      refine n_iconst (v := (nI 0)) dX12_setRoom_35 (by decide) ?_
      have e11 : (zSF (zSF S1 11 (nI 0)) 5 (nI p)).1 11 = nI 0 := by rw [zSF_n (by decide)]; exact zSF_s
      have en : ∀ j, j ≠ 5 → j ≠ 11 → (zSF (zSF S1 11 (nI 0)) 5 (nI p)).1 j = S1.1 j := fun j q1 q2 => by rw [zSF_n q1, zSF_n q2]
      have e5 : (zSF (zSF S1 11 (nI 0)) 5 (nI p)).1 5 = nI p := zSF_s
      have a3' : zKnw (zSF (zSF S1 11 (nI 0)) 5 (nI p)) lim nt := fun i hi => (a3 i hi).cg fun _ _ _ => rfl
      refine n_call dX12_setRoom_36 cv_X12_223 (c_leaves (s := 0) (r := p) (L := L) (un := un) hw hun p1000 (by omega) h1.1.2.1 ((en 0 (by decide) (by decide)).trans h1.1.1) e5 (h1.2.2.2.1.cg (en 6 (by decide) (by decide)) rfl rfl) a3' hL hs) rfl rfl rfl ⟨(Nat.le_of_ble_eq_true rfl), (Nat.le_of_ble_eq_true rfl)⟩ rfl rfl (Nat.le_of_ble_eq_true rfl) (fun v S3 hq3 => ?_)
      obtain ⟨rfl, g1, g2, g3⟩ := hq3
      have gs : ∀ j, j ≠ 5 → j ≠ 11 → S3.1 j = S1.1 j := fun j q1 q2 => (congrFun g1 j).trans (en j q1 q2)
      have ga : ∀ j, j ≠ 18 → S3.2 j = S1.2 j := g2
      refine n_iret dX12_setRoom_39 rfl (hQ _ _ (zQm.ok ((congrFun g1 11).trans e11) hc ⟨rfl, h1.1.cg (gs 0 (by decide) (by decide)) fun j q => ga j (by omega), h1.2.1.cg (gs 1 (by decide) (by decide)) fun j a b => ga j (by omega), ?_, g3, h1.2.2.2.2.cg (fun j a b => gs j (by omega) (by omega)) fun j a b => ga j (by omega)⟩))
      obtain ⟨w1, w2, w3, w4, w5⟩ := h1.2.2.1
      exact ⟨(gs 2 (by decide) (by decide)).trans w1, (gs 3 (by decide) (by decide)).trans w2, (gs 4 (by decide) (by decide)).trans w3, (congrFun g1 5).trans e5, fun k hk => by rw [ga 16 (by decide)]; exact w5 k hk⟩
    · exact bad (Or.inr (Int32.not_le.mp h13))
end
