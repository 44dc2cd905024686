-- model
/-! the model: what a run leaves in the cache -/
theorem zpair_iff {α : Type} {P : α → α → Prop} {L : List α} : (∀ (i j : Nat) (a b : α), i < j → L[i]? = some a → L[j]? = some b → P a b) ↔ L.Pairwise P := by
  rw [List.pairwise_iff_getElem]
  constructor
  · intro h i j hi hj hij
    exact h i j _ _ hij (List.getElem?_eq_getElem hi) (List.getElem?_eq_getElem hj)
  · intro h i j a b hij ha hb
    obtain ⟨h1, rfl⟩ := List.getElem?_eq_some_iff.mp ha
    obtain ⟨h2, rfl⟩ := List.getElem?_eq_some_iff.mp hb
    exact h i j h1 h2 hij
theorem zall_iff {α : Type} {P : α → Prop} {L : List α} : (∀ (i : Nat) (q : α), L[i]? = some q → P q) ↔ ∀ q ∈ L, P q := by
  constructor
  · intro h q hq
    obtain ⟨i, hi⟩ := List.getElem?_of_mem hq
    exact h i q hi
  · intro h i q hq
    exact h q (List.mem_of_getElem? hq)
theorem zLok_iff {L : zNS} : zLok L ↔ (∀ q ∈ L, q.1 < 14 ∧ q.2 ≤ 300) ∧ L.Pairwise (fun a b => a.1 ≠ b.1) ∧ L.length ≤ 14 := by
  unfold zLok
  rw [zall_iff, ← zpair_iff]
  constructor
  · rintro ⟨h1, h2, h3⟩
    exact ⟨h1, fun i j a b hij ha hb e => by have := h2 i j a b ha hb e; omega, h3⟩
  · rintro ⟨h1, h2, h3⟩
    refine ⟨h1, fun i j a b ha hb e => ?_, h3⟩
    rcases Nat.lt_trichotomy i j with w | w | w
    · exact absurd e (h2 i j a b w ha hb)
    · exact w
    · exact absurd e.symm (h2 j i b a w hb ha)
theorem zlat_mem {L : zNS} {k : Nat} {q : Nat × Nat} : q ∈ zlat L k ↔ q ∈ L := by
  unfold zlat
  rw [List.mem_append, List.mem_filter, List.mem_filter]
  by_cases e : q.1 = k
  · simp [e]
  · simp [e]
theorem zcd_m {L : zNS} {j : Nat} : zcd L j = true ↔ ∃ q ∈ L, q.1 = j := by
  unfold zcd
  rw [List.any_eq_true]
  simp only [decide_eq_true_eq]
theorem zlat_cd {L : zNS} {k : Nat} : zcd (zlat L k) = zcd L := by
  funext j
  rw [Bool.eq_iff_iff, zcd_m, zcd_m]
  simp only [zlat_mem]
theorem zlat_len {L : zNS} {k : Nat} : (zlat L k).length = L.length := by
  unfold zlat
  rw [List.length_append]
  induction L with
  | nil => rfl
  | cons q t ih =>
    by_cases e : q.1 = k
    · simp [e] at ih ⊢; omega
    · simp [e] at ih ⊢; omega
theorem zlat_pw {P : Nat × Nat → Nat × Nat → Prop} {L : zNS} {k : Nat} (h : L.Pairwise P) (hn : L.Pairwise fun a b => a.1 ≠ b.1) (hk : ∀ a b, a ∈ L → b ∈ L → a.1 ≠ k → b.1 = k → P a b) : (zlat L k).Pairwise P := by
  unfold zlat
  rw [List.pairwise_append]
  refine ⟨h.filter _, ?_, fun a ha b hb => ?_⟩
  · refine List.Pairwise.imp_of_mem (fun {a b} ha hb w => ?_) (hn.filter _)
    exact absurd ((of_decide_eq_true (List.mem_filter.mp ha).2).trans (of_decide_eq_true (List.mem_filter.mp hb).2).symm) w
  · have x := List.mem_filter.mp ha
    have y := List.mem_filter.mp hb
    exact hk a b x.1 y.1 (of_decide_eq_true x.2) (of_decide_eq_true y.2)
theorem zLok_lat {L : zNS} {k : Nat} (h : zLok L) : zLok (zlat L k) := by
  rw [zLok_iff] at *
  refine ⟨fun q hq => h.1 q (zlat_mem.mp hq), zlat_pw h.2.1 h.2.1 fun a b _ _ ha hb e => ha (e.trans hb), by rw [zlat_len]; exact h.2.2⟩
theorem zmkr_mem {r s : Nat} {L : zNS} {q : Nat × Nat} (h : q ∈ zmkr r s L) : q ∈ L := by
  obtain ⟨n, -, e⟩ := zmkr_drop r s L
  rw [e] at h
  exact List.mem_of_mem_drop h
theorem zLok_mkr {r s : Nat} {L : zNS} (h : zLok L) : zLok (zmkr r s L) := by
  obtain ⟨n, hn, e⟩ := zmkr_drop r s L
  rw [zLok_iff] at *
  refine ⟨fun q hq => h.1 q (zmkr_mem hq), ?_, ?_⟩
  · rw [e]; exact h.2.1.sublist (List.drop_sublist _ _)
  · rw [e, List.length_drop]; omega
theorem zLok_ent {r k s : Nat} {L : zNS} (h : zLok L) (hk : k < 14) (hs : s ≤ 300) (hn : zcd L k = false) : zLok (zent r k s L) := by
  unfold zent
  by_cases c : s ≤ r
  · rw [if_pos c]
    have hm : ¬ zmem (zmkr r s L) k := zmkr_nmem fun w => by rw [zcd_iff.mpr w] at hn; exact nomatch hn
    exact zLok_snoc (zLok_mkr h) hk hs hm (zLok_room (zLok_mkr h) hk hm)
  · rw [if_neg c]; exact h
theorem zent_mem {r k s : Nat} {L : zNS} {q : Nat × Nat} (h : q ∈ zent r k s L) : q ∈ L ∨ q = (k, s) := by
  unfold zent at h
  by_cases c : s ≤ r
  · rw [if_pos c] at h
    rcases List.mem_append.mp h with w | w
    · exact Or.inl (zmkr_mem w)
    · exact Or.inr (List.mem_singleton.mp w)
  · rw [if_neg c] at h; exact Or.inl h
theorem zren1_skip {U : Nat → Bool} {L : zNS} {n : Nat} (h : ∀ m, n ≤ m → U m = false) : ∀ d, zren1 U L (n + d) = zren1 U L n
  | 0 => rfl
  | d + 1 => by
    rw [← Nat.add_assoc, zren1, if_neg (by rw [h (n + d) (by omega)]; decide)]
    exact zren1_skip h d
theorem zren2_skip {lim : Nat} {nt : zNT} {W : Nat → Bool} {r : Nat} {L : zNS} {n : Nat} (h : ∀ m, n ≤ m → W m = false) : ∀ d, zren2 lim nt W r L (n + d) = zren2 lim nt W r L n
  | 0 => rfl
  | d + 1 => by
    rw [← Nat.add_assoc, zren2, if_neg (by rw [h (n + d) (by omega)]; exact fun w => nomatch w.1)]
    exact zren2_skip h d
section
variable {G : zG} {m : Nat} {nt : zNT} {lim mem wk r tk sp cs un i : Nat} {slow : Nat → Nat} {L : zNS} {A : List zAE} {S S' : zMS} {T : zT3}
theorem zrC.lat {k : Nat} (h : zrC S L un) (hL : zLok L) : zrC (zST (zSF S 6 (nI (un + 1))) 19 k (nI (un + 1))) (zlat L k) (un + 1) := by
  obtain ⟨h1, h2, u, h3, h4⟩ := h
  rw [zall_iff (P := fun q : Nat × Nat => S.2 19 q.1 = nI (u q.1) ∧ u q.1 ≤ un)] at h3
  rw [zpair_iff (P := fun a b : Nat × Nat => u a.1 < u b.1)] at h4
  rw [zLok_iff] at hL
  refine ⟨fun j hj => by rw [zlat_cd, zSTo (by decide)]; exact h1 j hj, zSF_s (S := S) (j := 6) (x := nI (un + 1)), zun u k (un + 1), ?_, ?_⟩
  · rw [zall_iff (P := fun q : Nat × Nat => (zST (zSF S 6 (nI (un + 1))) 19 k (nI (un + 1))).2 19 q.1 = nI (zun u k (un + 1) q.1) ∧ zun u k (un + 1) q.1 ≤ un + 1)]
    intro q hq
    obtain ⟨a, b⟩ := h3 q (zlat_mem.mp hq)
    by_cases e : q.1 = k
    · rw [e, zun_s, zSTs]; exact ⟨rfl, Nat.le_refl _⟩
    · rw [zun_n e, zSTn e]; exact ⟨a, by omega⟩
  · rw [zpair_iff (P := fun a b : Nat × Nat => zun u k (un + 1) a.1 < zun u k (un + 1) b.1)]
    unfold zlat
    rw [List.pairwise_append]
    refine ⟨?_, ?_, fun a ha b hb => ?_⟩
    · refine List.Pairwise.imp_of_mem (fun {a b} ha hb w => ?_) (h4.filter _)
      rw [zun_n (of_decide_eq_true (List.mem_filter.mp ha).2), zun_n (of_decide_eq_true (List.mem_filter.mp hb).2)]
      exact w
    · refine List.Pairwise.imp_of_mem (fun {a b} ha hb w => ?_) (hL.2.1.filter _)
      exact absurd ((of_decide_eq_true (List.mem_filter.mp ha).2).trans (of_decide_eq_true (List.mem_filter.mp hb).2).symm) w
    · have x := List.mem_filter.mp ha
      have y := List.mem_filter.mp hb
      have := (h3 a x.1).2
      rw [zun_n (of_decide_eq_true x.2), of_decide_eq_true y.2, zun_s]
      omega
theorem zrC.ent {k s : Nat} (h : zrC S L un) (hn : zcd L k = false) (hk : k < 14) : zrC (zST (zSF (zST S 18 k (nI 1)) 6 (nI (un + 1))) 19 k (nI (un + 1))) (L ++ [(k, s)]) (un + 1) := by
  obtain ⟨h1, h2, u, h3, h4⟩ := h
  rw [zall_iff (P := fun q : Nat × Nat => S.2 19 q.1 = nI (u q.1) ∧ u q.1 ≤ un)] at h3
  rw [zpair_iff (P := fun a b : Nat × Nat => u a.1 < u b.1)] at h4
  have nk : ∀ q ∈ L, q.1 ≠ k := fun q hq e => by rw [zcd_m.mpr ⟨q, hq, e⟩] at hn; exact nomatch hn
  have cd : ∀ j, zcd (L ++ [(k, s)]) j = (zcd L j || decide (k = j)) := fun j => by simp [zcd]
  refine ⟨fun j hj => ?_, zSF_s (S := zST S 18 k (nI 1)) (j := 6) (x := nI (un + 1)), zun u k (un + 1), ?_, ?_⟩
  · rw [cd, zSTo (by decide), zSF2]
    by_cases e : j = k
    · subst e; rw [zSTs]; simp; rfl
    · rw [zSTn e, h1 j hj]; simp [show ¬ k = j from fun w => e w.symm]
  · rw [zall_iff (P := fun q : Nat × Nat => (zST (zSF (zST S 18 k (nI 1)) 6 (nI (un + 1))) 19 k (nI (un + 1))).2 19 q.1 = nI (zun u k (un + 1) q.1) ∧ zun u k (un + 1) q.1 ≤ un + 1)]
    intro q hq
    rcases List.mem_append.mp hq with w | w
    · obtain ⟨a, b⟩ := h3 q w
      rw [zun_n (nk q w), zSTn (nk q w), zSF2, zSTo (by decide)]; exact ⟨a, by omega⟩
    · rw [List.mem_singleton.mp w]
      show (zST _ _ _ _).2 19 k = _ ∧ zun u k (un + 1) k ≤ _
      rw [zSTs]
      show nI (un + 1) = nI (zun u k (un + 1) k) ∧ _
      rw [zun_s]; exact ⟨rfl, Nat.le_refl _⟩
  · rw [zpair_iff (P := fun a b : Nat × Nat => zun u k (un + 1) a.1 < zun u k (un + 1) b.1)]
    rw [List.pairwise_append]
    refine ⟨List.Pairwise.imp_of_mem (fun {a b} ha hb w => ?_) h4, List.pairwise_singleton _ _, fun a ha b hb => ?_⟩
    · rw [zun_n (nk a ha), zun_n (nk b hb)]; exact w
    · rw [List.mem_singleton.mp hb]
      show zun u k (un + 1) a.1 < zun u k (un + 1) k
      rw [zun_n (nk a ha), zun_s]
      have := (h3 a ha).2
      omega
set_option maxRecDepth 100000 in
set_option maxHeartbeats 1000000 in
theorem c_keeps (hw : zWf nt) (hun : un < 2 ^ 29) (hr : r ≤ 1000) (hN : zrN S nt) (hrm : S.1 5 = nI r) (h : zrC S L un) (hk : zKnw S lim nt) (hL : zLok L) (hs : ∀ (j : Nat) (q : Nat × Nat), L[j]? = some q → q.1 < nt.length ∧ q.2 = (zct lim nt q.1).flatten.length) (hD : zDI nt (zcd L) i T) (ht : zmT S T) :
    zMN G yX12_keeps kX12_keeps m [] S (fun v S' => v = none ∧ (∃ un', un' ≤ un + 28 ∧ zrC S' (zren2 lim nt T.2.2 r (zren1 T.1 L 14) 14) un') ∧ (∀ j, j ≠ 6 → S'.1 j = S.1 j) ∧ ∀ j, j ≠ 18 → j ≠ 19 → S'.2 j = S.2 j) := by
  refine zMN.of (ls := [some (.ref m), none]) (by decide +kernel) ⟨rfl, rfl, rfl⟩ (Nat.le_of_ble_eq_true rfl) (fun _ h => h) fun Q hQ => ?_
  have h14 := hN.2.1
  have k1 := zren1_skip (U := T.1) (L := L) (n := nt.length) (fun j hj => by cases q : T.1 j with | false => rfl | true => have := (hD.1 j q).2.2; omega) (14 - nt.length)
  rw [show nt.length + (14 - nt.length) = 14 by omega] at k1
  rw [k1] at hQ
  have k2 := zren2_skip (lim := lim) (nt := nt) (W := T.2.2) (r := r) (L := zren1 T.1 L nt.length) (n := nt.length) (fun j hj => by cases q : T.2.2 j with | false => rfl | true => have := (hD.2.2 j q).2; omega) (14 - nt.length)
  rw [show nt.length + (14 - nt.length) = 14 by omega] at k2
  rw [k2] at hQ
  rw [zall_iff (P := fun q : Nat × Nat => q.1 < nt.length ∧ q.2 = (zct lim nt q.1).flatten.length)] at hs
  have loop2 : ∀ (d k un1 : Nat) (S1 : zMS), k + d = nt.length → un1 ≤ un + 14 + k → zrC S1 (zren2 lim nt T.2.2 r (zren1 T.1 L nt.length) k) un1 → zLok (zren2 lim nt T.2.2 r (zren1 T.1 L nt.length) k) → (∀ q ∈ zren2 lim nt T.2.2 r (zren1 T.1 L nt.length) k, q.1 < nt.length ∧ q.2 = (zct lim nt q.1).flatten.length) → (∀ j, j ≠ 6 → S1.1 j = S.1 j) → (∀ j, j ≠ 18 → j ≠ 19 → S1.2 j = S.2 j) →
      zNW G kX12_keeps m Q 47 [some (.ref m), some (.int (nI k))] [] S1 := by
    intro d
    induction d with
    | zero =>
      intro k un1 S1 hd hu hc hok hsz a b
      have e : k = nt.length := by omega
      subst e
      refine n_iload_n dX12_keeps_47 rfl ?_
      refine n_aload_n dX12_keeps_48 rfl ?_
      refine n_getE dX12_keeps_49 fl_X12_123 rfl ((a 0 (by decide)).trans hN.1) ?_
      refine n_icmp_ge (tgt := 137) dX12_keeps_52 (by decide) (fun _ => ?_) (fun q => absurd ((nI_le (Nat.le_refl _) (by omega))) q)
      exact n_vret dX12_keeps_137 rfl (hQ _ _ ⟨rfl, ⟨un1, by omega, hc⟩, a, b⟩)
    | succ d ih =>
      intro k un1 S1 hd hu hc hok hsz a b
      have hkl : k < nt.length := by omega
      have nx := ih (k + 1)
      have hg : nt[k]? = some (nt[k]'hkl) := List.getElem?_eq_getElem _
      generalize nt[k]'hkl = e at hg
      have hE := hN.2.2.1 k e hg
      unfold zrE at hE
      obtain ⟨-, -, -, -, -, -, -, -, -, -, -, e11, e01⟩ := hE
      have mk : zmkd nt k = decide (e.2.2.1 11 ≠ 0) := by rw [zmkd, List.getD_eq_getElem?_getD, hg]; rfl
      have hz := zct_le (lim := lim) hw h14 hkl
      have tm := (ht k (by omega)).2.2
      rw [zren2] at nx
      have stay : ¬ (T.2.2 k = true ∧ zmkd nt k = true ∧ zcd (zren2 lim nt T.2.2 r (zren1 T.1 L nt.length) k) k = false) → zNW G kX12_keeps m Q 131 [some (.ref m), some (.int (nI k))] [] S1 := by
        intro w
        rw [if_neg w] at nx
        refine n_inc1 dX12_keeps_131 rfl (by decide) ?_
        rw [nI_1]
        refine n_goto (tgt := 47) dX12_keeps_134 (by decide) ?_
        exact nx un1 S1 (by omega) (by omega) hc hok hsz a b
      have big : ¬ (zct lim nt k).flatten.length ≤ r → zNW G kX12_keeps m Q 131 [some (.ref m), some (.int (nI k))] [] S1 := by
        intro w
        by_cases c : T.2.2 k = true ∧ zmkd nt k = true ∧ zcd (zren2 lim nt T.2.2 r (zren1 T.1 L nt.length) k) k = false
        · rw [if_pos c, zent, if_neg w] at nx
          refine n_inc1 dX12_keeps_131 rfl (by decide) ?_
          rw [nI_1]
          refine n_goto (tgt := 47) dX12_keeps_134 (by decide) ?_
          exact nx un1 S1 (by omega) (by omega) hc hok hsz a b
        · exact stay c
      have l17 : S1.2 17 k = e.2.2.1 11 := by rw [b 17 (by decide) (by decide)]; exact e11
      have l21 : S1.2 21 k = zbi (T.2.2 k) := by rw [b 21 (by decide) (by decide)]; exact tm
      have l18 : S1.2 18 k = zbi (zcd (zren2 lim nt T.2.2 r (zren1 T.1 L nt.length) k) k) := hc.1 k (by omega)
      have kn1 : zKnw S1 lim nt := fun n hn => (hk n hn).cg fun j q1 q2 => b j (by omega) (by omega)
      generalize zren2 lim nt T.2.2 r (zren1 T.1 L nt.length) k = L1 at *
      refine n_iload_n dX12_keeps_47 rfl ?_
      refine n_aload_n dX12_keeps_48 rfl ?_
      refine n_getE dX12_keeps_49 fl_X12_123 rfl ((a 0 (by decide)).trans hN.1) ?_
      refine n_icmp_ge (tgt := 137) dX12_keeps_52 (by decide) (fun q => absurd q ((nI_ge hkl (by omega)))) (fun _ => ?_)
      refine n_aload_n dX12_keeps_55 rfl ?_
      refine n_get dX12_keeps_56 fl_X12_71 rfl ?_
      refine n_iload_n dX12_keeps_59 rfl ?_
      refine n_zald (j := 17) dX12_keeps_60 (by decide) rfl rfl (show _ < 14 by omega) l17 ?_
      rcases e01 with e0 | e1
      · rw [e0]
        refine n_if_eq (tgt := 131) dX12_keeps_61 (by decide) (fun _ => ?_) (fun q => absurd (rfl) q)
        exact stay fun w => by rw [mk, e0] at w; exact absurd w.2.1 (by decide)
      · rw [e1]
        refine n_if_eq (tgt := 131) dX12_keeps_61 (by decide) (fun q => absurd q ((by decide))) (fun _ => ?_)
        refine n_aload_n dX12_keeps_64 rfl ?_
        refine n_get dX12_keeps_65 fl_X12_84 rfl ?_
        refine n_iload_n dX12_keeps_68 rfl ?_
        refine n_zald (j := 21) dX12_keeps_69 (by decide) rfl rfl (show _ < 14 by omega) l21 ?_
        cases w2 : T.2.2 k with
        | false =>
          refine n_if_eq (tgt := 131) dX12_keeps_70 (by decide) (fun _ => ?_) (fun q => absurd (rfl) q)
          exact stay fun w => by rw [w2] at w; exact nomatch w.1
        | true =>
          refine n_if_eq (tgt := 131) dX12_keeps_70 (by decide) (fun q => absurd q ((by decide))) (fun _ => ?_)
          refine n_aload_n dX12_keeps_73 rfl ?_
          refine n_get dX12_keeps_74 fl_X12_75 rfl ?_
          refine n_iload_n dX12_keeps_77 rfl ?_
          refine n_zald (j := 18) dX12_keeps_78 (by decide) rfl rfl (show _ < 14 by omega) l18 ?_
          cases w3 : zcd L1 k with
          | true =>
            refine n_if_ne (tgt := 131) dX12_keeps_79 (by decide) (fun _ => ?_) (fun q => absurd q ((by decide)))
            exact stay fun w => by rw [w3] at w; exact nomatch w.2.2
          | false =>
            have yes : T.2.2 k = true ∧ zmkd nt k = true ∧ zcd L1 k = false := ⟨w2, by rw [mk, e1]; decide, w3⟩
            refine n_if_ne (tgt := 131) dX12_keeps_79 (by decide) (fun q => absurd (rfl) q) (fun _ => ?_)
            refine n_aload_n dX12_keeps_82 rfl ?_
            refine n_iload_n dX12_keeps_83 rfl ?_
            refine n_call dX12_keeps_84 cv_X12_152 (c_all (by omega) (kn1 k hkl) hz.2.2) rfl rfl rfl ⟨(Nat.le_of_ble_eq_true rfl), (Nat.le_of_ble_eq_true rfl)⟩ rfl rfl (Nat.le_of_ble_eq_true rfl) (fun v S2 hq2 => ?_)
            obtain ⟨rfl, hS⟩ := hq2
            subst hS
            refine n_aload_n dX12_keeps_87 rfl ?_
            refine n_getE dX12_keeps_88 fl_X12_220 rfl ((a 5 (by decide)).trans hrm) ?_
            by_cases c : (zct lim nt k).flatten.length ≤ r
            · have enx := nx
              rw [if_pos yes] at enx
              have ent : zent r k (zct lim nt k).flatten.length L1 = zmkr r (zct lim nt k).flatten.length L1 ++ [(k, (zct lim nt k).flatten.length)] := if_pos c
              refine n_icmp_gt (tgt := 131) dX12_keeps_91 (by decide) (fun q => absurd q ((fun w => absurd w (Int32.not_lt.mpr (nI_le c (by omega)))))) (fun _ => ?_)
              refine n_aload_n dX12_keeps_94 rfl ?_
              refine n_aload_n dX12_keeps_95 rfl ?_
              refine n_iload_n dX12_keeps_96 rfl ?_
              refine n_call dX12_keeps_97 cv_X12_152 (c_all (by omega) (kn1 k hkl) hz.2.2) rfl rfl rfl ⟨(Nat.le_of_ble_eq_true rfl), (Nat.le_of_ble_eq_true rfl)⟩ rfl rfl (Nat.le_of_ble_eq_true rfl) (fun v S3 hq3 => ?_)
              obtain ⟨rfl, hS⟩ := hq3
              subst hS
              refine n_call dX12_keeps_100 cv_X12_223 (c_leaves (lim := lim) (r := r) hw (show un1 < 2 ^ 30 by omega) hr c h14 ((a 0 (by decide)).trans hN.1) ((a 5 (by decide)).trans hrm) hc kn1 hok (zall_iff.mpr hsz)) rfl rfl rfl ⟨(Nat.le_of_ble_eq_true rfl), (Nat.le_of_ble_eq_true rfl)⟩ rfl rfl (Nat.le_of_ble_eq_true rfl) (fun v S4 hq4 => ?_)
              obtain ⟨rfl, q1, q2, q3⟩ := hq4
              have u6 : S4.1 6 = nI un1 := q3.2.1
              refine n_pop dX12_keeps_103 rfl ?_
              refine n_aload_n dX12_keeps_104 rfl ?_
              refine n_get dX12_keeps_105 fl_X12_75 rfl ?_
              refine n_iload_n dX12_keeps_108 rfl ?_
              refine n_iconst (v := (nI 1)) dX12_keeps_109 (by decide) ?_
              refine n_zast (j := 18) dX12_keeps_110 (by decide) rfl rfl (show _ < 14 by omega) rfl ?_
              refine n_aload_n dX12_keeps_111 rfl ?_
              refine n_dup dX12_keeps_112 rfl ?_
              refine n_getE dX12_keeps_113 fl_X12_255 rfl (u6) ?_
              refine n_iconst (v := (nI 1)) dX12_keeps_116 (by decide) ?_
              refine n_iadd dX12_keeps_117 ?_
              rw [nI_add]
              have hn3 : zcd (zmkr r (zct lim nt k).flatten.length L1) k = false := by
                cases q : zcd (zmkr r (zct lim nt k).flatten.length L1) k with
                | false => rfl
                | true =>
                  obtain ⟨z, z1, z2⟩ := zcd_m.mp q
                  rw [zcd_m.mpr ⟨z, zmkr_mem z1, z2⟩] at w3
                  exact w3
              refine n_put (j := 6) dX12_keeps_118 fp_X12_255 (zMFs6 _ _ _) rfl rfl (Nat.le_of_ble_eq_true rfl) ?_
              refine n_aload_n dX12_keeps_121 rfl ?_
              refine n_get dX12_keeps_122 fl_X12_78 rfl ?_
              refine n_iload_n dX12_keeps_125 rfl ?_
              refine n_aload_n dX12_keeps_126 rfl ?_
              refine n_getE dX12_keeps_127 fl_X12_255 rfl ((zSF_s (S := zST S4 18 k (nI 1)) (j := 6) (x := nI (un1 + 1)))) ?_
              refine n_iast (j := 19) dX12_keeps_130 (by decide) rfl rfl (show _ < 14 by omega) ?_
              refine n_inc1 dX12_keeps_131 rfl (by decide) ?_
              rw [nI_1]
              refine n_goto (tgt := 47) dX12_keeps_134 (by decide) ?_
              refine enx (un1 + 1) _ (by omega) (by omega) (by rw [ent]; exact q3.ent hn3 (by omega)) (zLok_ent hok (by omega) hz.1 w3) (fun q hq => ?_) (fun j hj => (pk_un hj).trans ((congrFun q1 j).trans (a j hj))) fun j u v => (zST_n _ _ _ v).trans ((zST_n _ _ _ u).trans ((q2 j u).trans (b j u v)))
              rcases zent_mem hq with w | w
              · exact hsz q w
              · rw [w]; exact ⟨hkl, rfl⟩
            · refine n_icmp_gt (tgt := 131) dX12_keeps_91 (by decide) (fun _ => ?_) (fun q => absurd ((nI_lt (by omega) (by omega))) q)
              exact big c
  have loop1 : ∀ (d k un1 : Nat) (S1 : zMS), k + d = nt.length → un1 ≤ un + k → zrC S1 (zren1 T.1 L k) un1 → zLok (zren1 T.1 L k) → (∀ q ∈ zren1 T.1 L k, q.1 < nt.length ∧ q.2 = (zct lim nt q.1).flatten.length) → (∀ j, j ≠ 6 → S1.1 j = S.1 j) → (∀ j, j ≠ 19 → S1.2 j = S.2 j) →
      zNW G kX12_keeps m Q 2 [some (.ref m), some (.int (nI k))] [] S1 := by
    intro d
    induction d with
    | zero =>
      intro k un1 S1 hd hu hc hok hsz a b
      have e : k = nt.length := by omega
      subst e
      refine n_iload_n dX12_keeps_2 rfl ?_
      refine n_aload_n dX12_keeps_3 rfl ?_
      refine n_getE dX12_keeps_4 fl_X12_123 rfl ((a 0 (by decide)).trans hN.1) ?_
      refine n_icmp_ge (tgt := 45) dX12_keeps_7 (by decide) (fun _ => ?_) (fun q => absurd ((nI_le (Nat.le_refl _) (by omega))) q)
      refine n_iconst (v := (nI 0)) dX12_keeps_45 (by decide) ?_
      refine n_istore_n dX12_keeps_46 (by decide) ?_
      exact loop2 nt.length 0 un1 S1 (by omega) (by omega) hc hok hsz a fun j _ q => b j q
    | succ d ih =>
      intro k un1 S1 hd hu hc hok hsz a b
      have hkl : k < nt.length := by omega
      have nx := ih (k + 1)
      have tu := (ht k (by omega)).1
      have l22 : S1.2 22 k = zbi (T.1 k) := by rw [b 22 (by decide)]; exact tu
      have u6 : S1.1 6 = nI un1 := hc.2.1
      rw [zren1] at nx
      refine n_iload_n dX12_keeps_2 rfl ?_
      refine n_aload_n dX12_keeps_3 rfl ?_
      refine n_getE dX12_keeps_4 fl_X12_123 rfl ((a 0 (by decide)).trans hN.1) ?_
      refine n_icmp_ge (tgt := 45) dX12_keeps_7 (by decide) (fun q => absurd q ((nI_ge hkl (by omega)))) (fun _ => ?_)
      refine n_aload_n dX12_keeps_10 rfl ?_
      refine n_get dX12_keeps_11 fl_X12_87 rfl ?_
      refine n_iload_n dX12_keeps_14 rfl ?_
      refine n_zald (j := 22) dX12_keeps_15 (by decide) rfl rfl (show _ < 14 by omega) l22 ?_
      cases w : T.1 k with
      | false =>
        rw [w, if_neg (by decide)] at nx
        refine n_if_eq (tgt := 39) dX12_keeps_16 (by decide) (fun _ => ?_) (fun q => absurd (rfl) q)
        refine n_inc1 dX12_keeps_39 rfl (by decide) ?_
        rw [nI_1]
        refine n_goto (tgt := 2) dX12_keeps_42 (by decide) ?_
        exact nx un1 S1 (by omega) (by omega) hc hok hsz a b
      | true =>
        rw [w, if_pos rfl] at nx
        refine n_if_eq (tgt := 39) dX12_keeps_16 (by decide) (fun q => absurd q ((by decide))) (fun _ => ?_)
        refine n_aload_n dX12_keeps_19 rfl ?_
        refine n_dup dX12_keeps_20 rfl ?_
        refine n_getE dX12_keeps_21 fl_X12_255 rfl (u6) ?_
        refine n_iconst (v := (nI 1)) dX12_keeps_24 (by decide) ?_
        refine n_iadd dX12_keeps_25 ?_
        rw [nI_add]
        refine n_put (j := 6) dX12_keeps_26 fp_X12_255 (zMFs6 _ _ _) rfl rfl (Nat.le_of_ble_eq_true rfl) ?_
        refine n_aload_n dX12_keeps_29 rfl ?_
        refine n_get dX12_keeps_30 fl_X12_78 rfl ?_
        refine n_iload_n dX12_keeps_33 rfl ?_
        refine n_aload_n dX12_keeps_34 rfl ?_
        refine n_getE dX12_keeps_35 fl_X12_255 rfl (zSF_s) ?_
        refine n_iast (j := 19) dX12_keeps_38 (by decide) rfl rfl (show _ < 14 by omega) ?_
        refine n_inc1 dX12_keeps_39 rfl (by decide) ?_
        rw [nI_1]
        refine n_goto (tgt := 2) dX12_keeps_42 (by decide) ?_
        exact nx (un1 + 1) _ (by omega) (by omega) (hc.lat hok) (zLok_lat hok) (fun q hq => hsz q (zlat_mem.mp hq)) (fun j hj => (pk_un hj).trans (a j hj)) fun j hj => (zST_n _ _ _ hj).trans (b j hj)
  refine n_iconst (v := (nI 0)) dX12_keeps_0 (by decide) ?_
  refine n_istore_n dX12_keeps_1 (by decide) ?_
  exact loop1 nt.length 0 un S (by omega) (by omega) h hL hs (fun _ _ => rfl) fun _ _ => rfl
end
