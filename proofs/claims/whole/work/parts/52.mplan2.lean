-- model
/-! the model: outputs of stages -/
theorem zdr_skip {lim : Nat} {nt : zNT} {C : Nat → Bool} {k : Nat} {t : zT3} (h : ∀ m, k ≤ m → t.2.1 m = false) : ∀ d, zdr lim nt C (k + d) t = zdr lim nt C k t
  | 0 => rfl
  | d + 1 => by
    rw [← Nat.add_assoc, zdr, h (k + d) (by omega), if_neg (by decide)]
    exact zdr_skip h d
theorem zcs_1 (s : Nat → Bool) : ∀ n, zcs s (fun _ => 1) n = zcn s n
  | 0 => rfl
  | n + 1 => by rw [zcs, zcn, zcs_1 s n]
/-- which output has so many before it -/
def znu (s : Nat → Bool) (n : Nat) : Nat := (znth s n 0 14).getD 0
theorem zcn_mono (s : Nat → Bool) : ∀ {a b : Nat}, a ≤ b → zcn s a ≤ zcn s b := by
  intro a b h
  induction b with
  | zero => rw [Nat.le_zero.mp h]; exact Nat.le_refl _
  | succ b ih =>
    rcases Nat.lt_or_ge a (b + 1) with c | c
    · have := ih (by omega)
      rw [zcn]
      omega
    · rw [show a = b + 1 by omega]; exact Nat.le_refl _
theorem znu_of {s : Nat → Bool} {n j : Nat} (h1 : j < 14) (h2 : s j = true) (h3 : zcn s j = n) : znu s n = j := by
  have hj : zcn s (j + 1) = n + 1 := by rw [zcn, h3, h2]; rfl
  have := zcn_mono s (show j + 1 ≤ 14 by omega)
  obtain ⟨k, k1, k2, k3, k4⟩ := znth_ex (s := s) (n := n) (by omega) 14 0 rfl (Nat.zero_le _)
  rw [znu, k1]
  show k = j
  have hk : zcn s (k + 1) = n + 1 := by rw [zcn, k4, k3]; rfl
  rcases Nat.lt_trichotomy k j with c | c | c
  · have := zcn_mono s (show k + 1 ≤ j by omega); omega
  · exact c
  · have := zcn_mono s (show j + 1 ≤ k by omega); omega
noncomputable def zk_out (lim : Nat) (nt : zNT) (C : Nat → Bool) (x y : Int32) : Nat := if znob nt.length x = true ∨ znob (zcn (zdraw lim nt C x.toNatClampNeg).2.1 14) y = true then 1 else 0
section
variable {G : zG} {m : Nat} {nt : zNT} {lim mem wk r tk sp cs un : Nat} {slow : Nat → Nat} {L : zNS} {A : List zAE} {S S' : zMS}
theorem zrM.fi (h : zrM S nt lim mem wk slow r L A tk sp cs un) (h1 : S'.1 = upd S.1 1 1) (h2 : ∀ j, j < 12 ∨ 16 ≤ j → j ≠ 20 → j ≠ 21 → j ≠ 22 → S'.2 j = S.2 j) (h3 : zKnw S' lim nt) : zrM S' nt lim mem wk slow r L A tk sp cs un := by
  have hs : ∀ j, j ≠ 1 → S'.1 j = S.1 j := fun j hj => by rw [h1, pk_un hj]
  exact ⟨h.1.cg (hs 0 (by decide)) fun j hj => h2 j (by omega) (by omega) (by omega) (by omega), ⟨Or.inr (by rw [h1]; exact pk_us), fun _ => h3⟩, h.2.2.1.cg (fun j a b => hs j (by omega)) (h2 16 (by omega) (by decide) (by decide) (by decide)), h.2.2.2.1.cg (hs 6 (by decide)) (h2 18 (by omega) (by decide) (by decide) (by decide)) (h2 19 (by omega) (by decide) (by decide) (by decide)), h.2.2.2.2.cg (fun j a b => hs j (by omega)) fun j a b => h2 j (by omega) (by omega) (by omega) (by omega)⟩
set_option maxRecDepth 100000 in
set_option maxHeartbeats 2000000 in
theorem c_finds {i : Nat} (hw : zWf nt) (hh : zHow nt) (hlim : lim ≤ 1000) (h : zrM S nt lim mem wk slow r L A tk sp cs un) (hi : i < nt.length) : zMN G yX12_finds kX12_finds m [.int (nI i)] S (fun v S' => v = some (.int (nI (zcn (zdraw lim nt (zcd L) i).2.1 14))) ∧ S'.1 = upd S.1 1 1 ∧ (∀ a, a < 12 ∨ 16 ≤ a → a ≠ 20 → a ≠ 21 → a ≠ 22 → S'.2 a = S.2 a) ∧ zKnw S' lim nt ∧ zmT S' (zdraw lim nt (zcd L) i)) := by
  refine zMN.of (ls := [some (.ref m), some (.int (nI i)), none, none, none]) (by decide +kernel) ⟨rfl, rfl, rfl⟩ (Nat.le_of_ble_eq_true rfl) (fun _ h => h) fun Q hQ => ?_
  have h14 := h.1.2.1
  refine n_aload_n dX12_finds_0 rfl ?_
  refine n_call dX12_finds_1 cv_X12_196 (c_knows hw hh hlim h) rfl rfl rfl ⟨(Nat.le_of_ble_eq_true rfl), (Nat.le_of_ble_eq_true rfl)⟩ rfl rfl (Nat.le_of_ble_eq_true rfl) (fun v S1 hq1 => ?_)
  obtain ⟨rfl, a1, a2, a3⟩ := hq1
  have h1 := h.kn a1 a2 a3
  have cC : ∀ (S2 : zMS), (∀ a, a ≠ 20 → a ≠ 21 → a ≠ 22 → S2.2 a = S1.2 a) → ∀ k, k < 14 → S2.2 18 k = zbi (zcd L k) := fun S2 b k hk => by rw [b 18 (by decide) (by decide) (by decide)]; exact h1.2.2.2.1.1 k hk
  obtain ⟨t0, ht0⟩ : ∃ t, t = zneed (zcd L) i zt0 := ⟨_, rfl⟩
  have hD0 : zDI nt (zcd L) i t0 := by rw [ht0]; exact zDI_need (t := zt0) ⟨fun m q => (nomatch q), fun m q => (nomatch q), fun m q => (nomatch q)⟩ (zLin_lt hw h14 i hi).2 hi
  have e1 : ∀ k, t0.1 k = (decide (k = i) && zcd L k) := by
    intro k
    rw [ht0]
    unfold zneed zt0 zor
    by_cases c : zcd L i = true
    · rw [if_pos c]
      by_cases e : k = i
      · subst e; simp [c]
      · simp [e]
    · rw [if_neg c]
      by_cases e : k = i
      · subst e; simp [c]
      · simp [e]
  have e2 : ∀ k, t0.2.1 k = (decide (k = i) && !zcd L k) := by
    intro k
    rw [ht0]
    unfold zneed zt0 zor
    by_cases c : zcd L i = true
    · rw [if_pos c]
      by_cases e : k = i
      · subst e; simp [c]
      · simp [e]
    · rw [if_neg c]
      by_cases e : k = i
      · subst e; simp [c]
      · simp [e]
  have e3 : ∀ k, t0.2.2 k = false := by
    intro k
    rw [ht0]
    unfold zneed zt0
    by_cases c : zcd L i = true
    · rw [if_pos c]
    · rw [if_neg c]
  have down : ∀ (k : Nat) (n : Nat) (T : zT3) (S2 : zMS) (x4 : Option Value), k ≤ i + 1 → zDI nt (zcd L) i T → zdr lim nt (zcd L) k T = zdraw lim nt (zcd L) i → n = zcs (fun m => decide (k ≤ m) && T.2.1 m) (fun _ => 1) 14 → zmT S2 T → S2.1 = S1.1 → (∀ a, a ≠ 20 → a ≠ 21 → a ≠ 22 → S2.2 a = S1.2 a) →
      zNW G kX12_finds m Q 79 [some (.ref m), some (.int (nI i)), some (.int (nI n)), some (.int (nI k + (-1))), x4] [] S2 := by
    intro k
    induction k with
    | zero =>
      intro n T S2 x4 hk hD hT hn ht a b
      refine n_iload_n dX12_finds_79 rfl ?_
      refine n_if_lt (tgt := 143) dX12_finds_80 (by decide) (fun _ => ?_) (fun q => absurd ((by decide)) q)
      rw [show zdr lim nt (zcd L) 0 T = T from rfl] at hT
      have en : n = zcn (zdraw lim nt (zcd L) i).2.1 14 := by
        rw [hn, ← hT, ← zcs_1]
        exact zcs_ext 14 fun j _ => by simp
      subst en
      refine n_iload_n dX12_finds_143 rfl ?_
      exact n_iret dX12_finds_144 rfl (hQ _ _ ⟨rfl, a.trans a1, fun q q1 q2 q3 q4 => (b q q2 q3 q4).trans (a2 q q1), fun n hn => (a3 n hn).cg fun j q1 q2 => b j (by omega) (by omega) (by omega), by rw [← hT]; exact ht⟩)
    | succ c ih =>
      intro n T S2 x4 hk hD hT hn ht a b
      have hcl : c < nt.length := by omega
      have hz := zct_le (lim := lim) hw h14 hcl
      rw [pk_m1]
      refine n_iload_n dX12_finds_79 rfl ?_
      refine n_if_lt (tgt := 143) dX12_finds_80 (by decide) (fun q => absurd q (nI_pos (show c < 2 ^ 31 by omega))) (fun _ => ?_)
      refine n_iconst (v := (nI 0)) dX12_finds_83 (by decide) ?_
      refine n_istore dX12_finds_84 (by decide) ?_
      have after : ∀ (T' : zT3) (S3 : zMS) (x4 : Option Value), zDI nt (zcd L) i T' → zdr lim nt (zcd L) c T' = zdraw lim nt (zcd L) i → (∀ m, c ≤ m → T'.2.1 m = T.2.1 m) → zmT S3 T' → S3.1 = S1.1 → (∀ a, a ≠ 20 → a ≠ 21 → a ≠ 22 → S3.2 a = S1.2 a) →
          zNW G kX12_finds m Q 120 [some (.ref m), some (.int (nI i)), some (.int (nI n)), some (.int (nI c)), x4] [] S3 := by
        intro T' S3 x4 hD' hT' hag ht' a' b'
        have hn' : zcs (fun m => decide (c ≤ m) && T'.2.1 m) (fun _ => 1) 14 = n + (if T'.2.1 c = true then 1 else 0) := by
          have x0 : (fun m => decide (c + 1 ≤ m) && T'.2.1 m) c = false := by show (decide (c + 1 ≤ c) && _) = false; rw [decide_eq_false (by omega)]; rfl
          by_cases w : T'.2.1 c = true
          · have := zcs_add (C := fun m => decide (c + 1 ≤ m) && T'.2.1 m) (x := c) (sz := fun _ => 1) x0 14
            rw [if_pos (show c < 14 by omega)] at this
            rw [if_pos w, hn, zcs_ext 14 (C := fun m => decide (c ≤ m) && T'.2.1 m) (C' := fun j => decide (c = j) || (decide (c + 1 ≤ j) && T'.2.1 j)) fun j _ => ?_, this]
            · congr 1
              exact zcs_ext 14 fun j _ => by
                by_cases q : c + 1 ≤ j
                · rw [hag j (by omega)]
                · simp [q]
            · by_cases q : c = j
              · subst q; simp [w]
              · by_cases q2 : c ≤ j
                · simp [q2, q, show c + 1 ≤ j by omega]
                · simp [q2, q, show ¬ c + 1 ≤ j by omega]
          · rw [if_neg w, Nat.add_zero, hn]
            refine zcs_ext 14 fun j _ => ?_
            by_cases q : c = j
            · subst q; rw [decide_eq_false (show ¬ c + 1 ≤ c by omega)]; simp [w]
            · by_cases q2 : c ≤ j
              · rw [hag j q2]; simp [q2, show c + 1 ≤ j by omega]
              · simp [q2, show ¬ c + 1 ≤ j by omega]
        refine n_iload_n dX12_finds_120 rfl ?_
        refine n_aload_n dX12_finds_121 rfl ?_
        refine n_get dX12_finds_122 fl_X12_81 rfl ?_
        refine n_iload_n dX12_finds_125 rfl ?_
        refine n_zald (j := 20) dX12_finds_126 (by decide) rfl rfl (show _ < 14 by omega) ((ht' c (by omega)).2.1) ?_
        cases w : T'.2.1 c with
        | true =>
          rw [w, if_pos rfl] at hn'
          refine n_if_eq (tgt := 134) dX12_finds_127 (by decide) (fun q => absurd q ((by decide))) (fun _ => ?_)
          refine n_iconst (v := (nI 1)) dX12_finds_130 (by decide) ?_
          refine n_goto (tgt := 135) dX12_finds_131 (by decide) ?_
          refine n_iadd dX12_finds_135 ?_
          rw [nI_add]
          refine n_istore_n dX12_finds_136 (by decide) ?_
          refine n_dec1 dX12_finds_137 rfl (by decide) ?_
          refine n_goto (tgt := 79) dX12_finds_140 (by decide) ?_
          exact ih (n + 1) T' S3 x4 (by omega) hD' hT' hn'.symm ht' a' b'
        | false =>
          rw [w, if_neg (by decide)] at hn'
          refine n_if_eq (tgt := 134) dX12_finds_127 (by decide) (fun _ => ?_) (fun q => absurd (rfl) q)
          refine n_iconst (v := (nI 0)) dX12_finds_134 (by decide) ?_
          refine n_iadd dX12_finds_135 ?_
          rw [nI_add]
          refine n_istore_n dX12_finds_136 (by decide) ?_
          refine n_dec1 dX12_finds_137 rfl (by decide) ?_
          refine n_goto (tgt := 79) dX12_finds_140 (by decide) ?_
          exact ih n T' S3 x4 (by omega) hD' hT' hn'.symm ht' a' b'
      have prt : ∀ S3 : zMS, (∀ a, a ≠ 20 → a ≠ 21 → a ≠ 22 → S3.2 a = S1.2 a) → S3.2 12 c = nI (zct lim nt c).length := fun S3 b3 => by rw [b3 12 (by decide) (by decide) (by decide)]; exact (a3 c hcl).1
      rw [zdr] at hT
      cases w : T.2.1 c with
      | false =>
        rw [w, if_neg (by decide)] at hT
        refine n_iload dX12_finds_86 rfl ?_
        refine n_aload_n dX12_finds_88 rfl ?_
        refine n_get dX12_finds_89 fl_X12_46 rfl ?_
        refine n_iload_n dX12_finds_92 rfl ?_
        refine n_iald (j := 12) dX12_finds_93 (by decide) rfl rfl (show _ < 14 by omega) (prt S2 b) ?_
        refine n_icmp_ge (tgt := 120) dX12_finds_94 (by decide) (fun q => absurd q ((nI_ge (show 0 < (zct lim nt c).length by omega) (by omega)))) (fun _ => ?_)
        refine n_aload_n dX12_finds_97 rfl ?_
        refine n_get dX12_finds_98 fl_X12_81 rfl ?_
        refine n_iload_n dX12_finds_101 rfl ?_
        refine n_zald (j := 20) dX12_finds_102 (by decide) rfl rfl (show _ < 14 by omega) ((ht c (by omega)).2.1) ?_
        rw [w]
        refine n_if_eq (tgt := 120) dX12_finds_103 (by decide) (fun _ => ?_) (fun q => absurd (rfl) q)
        exact after T S2 _ hD hT (fun _ _ => rfl) ht a b
      | true =>
        rw [w, if_pos rfl] at hT
        obtain ⟨d1, d2, d3⟩ := hD.2.1 c w
        have rows : ∀ (e p : Nat) (S3 : zMS), p + e = (zct lim nt c).length → zmT S3 (zrow lim nt (zcd L) c p T) → S3.1 = S1.1 → (∀ a, a ≠ 20 → a ≠ 21 → a ≠ 22 → S3.2 a = S1.2 a) →
            zNW G kX12_finds m Q 86 [some (.ref m), some (.int (nI i)), some (.int (nI n)), some (.int (nI c)), some (.int (nI p))] [] S3 := by
          intro e
          induction e with
          | zero =>
            intro p S3 he ht3 a3' b3
            have ep : p = (zct lim nt c).length := by omega
            subst ep
            refine n_iload dX12_finds_86 rfl ?_
            refine n_aload_n dX12_finds_88 rfl ?_
            refine n_get dX12_finds_89 fl_X12_46 rfl ?_
            refine n_iload_n dX12_finds_92 rfl ?_
            refine n_iald (j := 12) dX12_finds_93 (by decide) rfl rfl (show _ < 14 by omega) (prt S3 b3) ?_
            refine n_icmp_ge (tgt := 120) dX12_finds_94 (by decide) (fun _ => ?_) (fun q => absurd ((nI_le (Nat.le_refl _) (by omega))) q)
            refine after _ S3 _ (zDI_row hw h14 hi d3 d2 hD _) hT (fun m hm => ?_) ht3 a3' b3
            have l1 := (zLe_iff.mp (zrow_le (lim := lim) (nt := nt) (C := zcd L) (k := c) (t := T) (zct lim nt c).length).1).2.1 m
            have l2 := zrow_out (lim := lim) (C := zcd L) hw h14 d3 T (zct lim nt c).length m
            cases q1 : T.2.1 m with
            | true => exact l1 q1
            | false =>
              cases q2 : (zrow lim nt (zcd L) c (zct lim nt c).length T).2.1 m with
              | false => rfl
              | true =>
                rcases l2 q2 with z | z
                · rw [q1] at z; exact z.symm
                · omega
          | succ e ihe =>
            intro p S3 he ht3 a3' b3
            have l1 := (zLe_iff.mp (zrow_le (lim := lim) (nt := nt) (C := zcd L) (k := c) (t := T) p).1).2.1 c w
            have kn3 : zKnw S3 lim nt := fun n hn => (a3 n hn).cg fun j q1 q2 => b3 j (by omega) (by omega) (by omega)
            refine n_iload dX12_finds_86 rfl ?_
            refine n_aload_n dX12_finds_88 rfl ?_
            refine n_get dX12_finds_89 fl_X12_46 rfl ?_
            refine n_iload_n dX12_finds_92 rfl ?_
            refine n_iald (j := 12) dX12_finds_93 (by decide) rfl rfl (show _ < 14 by omega) (prt S3 b3) ?_
            refine n_icmp_ge (tgt := 120) dX12_finds_94 (by decide) (fun q => absurd q ((nI_ge (show p < (zct lim nt c).length by omega) (by omega)))) (fun _ => ?_)
            refine n_aload_n dX12_finds_97 rfl ?_
            refine n_get dX12_finds_98 fl_X12_81 rfl ?_
            refine n_iload_n dX12_finds_101 rfl ?_
            refine n_zald (j := 20) dX12_finds_102 (by decide) rfl rfl (show _ < 14 by omega) ((ht3 c (by omega)).2.1) ?_
            rw [l1]
            refine n_if_eq (tgt := 120) dX12_finds_103 (by decide) (fun q => absurd q ((by decide))) (fun _ => ?_)
            refine n_aload_n dX12_finds_106 rfl ?_
            refine n_iload_n dX12_finds_107 rfl ?_
            refine n_iload dX12_finds_108 rfl ?_
            refine n_call dX12_finds_110 cv_X12_232 (c_reads hw h14 hlim (h1.1.cg (congrFun a3' 0) fun j hj => b3 j (by omega) (by omega) (by omega)) ((congrFun a3' 2).trans h1.2.2.1.1) kn3 (cC S3 b3) ht3 d3 (show p < (zct lim nt c).length by omega) d1) rfl rfl rfl ⟨(Nat.le_of_ble_eq_true rfl), (Nat.le_of_ble_eq_true rfl)⟩ rfl rfl (Nat.le_of_ble_eq_true rfl) (fun v S4 hq4 => ?_)
            obtain ⟨rfl, q1, q2, q3⟩ := hq4
            refine n_pop dX12_finds_113 rfl ?_
            refine n_inc1 dX12_finds_114 rfl (by decide) ?_
            refine n_goto (tgt := 86) dX12_finds_117 (by decide) ?_
            rw [nI_1]
            exact ihe (p + 1) S4 (by omega) q1 (q2.trans a3') fun a u1 u2 u3 => (q3 a u3 u1 u2).trans (b3 a u1 u2 u3)
        exact rows (zct lim nt c).length 0 S2 (by omega) ht a b
  have init : ∀ (d k : Nat) (S2 : zMS), k + d = 14 → (∀ j, j < k → S2.2 22 j = zbi (t0.1 j) ∧ S2.2 20 j = zbi (t0.2.1 j) ∧ S2.2 21 j = zbi (t0.2.2 j)) → S2.1 = S1.1 → (∀ a, a ≠ 20 → a ≠ 21 → a ≠ 22 → S2.2 a = S1.2 a) →
      zNW G kX12_finds m Q 6 [some (.ref m), some (.int (nI i)), some (.int (nI k)), none, none] [] S2 := by
    intro d
    induction d with
    | zero =>
      intro k S2 hk ht a b
      have ek : k = 14 := by omega
      subst ek
      refine n_iload_n dX12_finds_6 rfl ?_
      refine n_bipush (v := (nI 14)) dX12_finds_7 (by decide) ?_
      refine n_icmp_ge (tgt := 75) dX12_finds_9 (by decide) (fun _ => ?_) (fun q => absurd ((nI_le (Nat.le_refl 14) (by decide))) q)
      refine n_iconst (v := (nI 0)) dX12_finds_75 (by decide) ?_
      refine n_istore_n dX12_finds_76 (by decide) ?_
      refine n_iload_n dX12_finds_77 rfl ?_
      refine n_istore_n dX12_finds_78 (by decide) ?_
      have hs : zdr lim nt (zcd L) (i + 1) t0 = zdraw lim nt (zcd L) i := by
        have := zdr_skip (lim := lim) (nt := nt) (C := zcd L) (k := i + 1) (t := t0) (fun m hm => by rw [e2, decide_eq_false (by omega)]; rfl) (13 - i)
        rw [show i + 1 + (13 - i) = 14 by omega] at this
        rw [← this, zdraw, ht0]
      have := down (i + 1) 0 t0 S2 none (Nat.le_refl _) hD0 hs (by
        have : ∀ n, zcs (fun m => decide (i + 1 ≤ m) && t0.2.1 m) (fun _ => 1) n = 0 := by
          intro n
          induction n with
          | zero => rfl
          | succ n ihn =>
            rw [zcs, ihn, e2]
            by_cases q : i + 1 ≤ n
            · simp [show ¬ n = i by omega]
            · simp [q]
        exact (this 14).symm) (fun k hk => ht k hk) a b
      rw [pk_m1] at this
      exact this
    | succ d ih =>
      intro k S2 hk ht a b
      have hk14 : k < 14 := by omega
      have tail : ∀ S3 : zMS, S3.1 = S1.1 → (∀ a, a ≠ 20 → S3.2 a = S2.2 a) → (∀ j, j < k + 1 → S3.2 20 j = zbi (t0.2.1 j)) → zNW G kX12_finds m Q 37 [some (.ref m), some (.int (nI i)), some (.int (nI k)), none, none] [] S3 := by
        intro S3 a' b' c'
        have n18 : ∀ j, j < 14 → (zST S3 21 k (nI 0)).2 18 j = zbi (zcd L j) := cC _ fun a q1 q2 q3 => (zST_n _ _ _ q2).trans ((b' a q1).trans (b a q1 q2 q3))
        have fin : ∀ x : Bool, x = t0.1 k → zNW G kX12_finds m Q 68 [some (.ref m), some (.int (nI i)), some (.int (nI k)), none, none] [.int (zbi x), .int (nI k), .ref (m + 1 + 22)] (zST S3 21 k (nI 0)) := by
          intro x hx
          refine n_zast (j := 22) dX12_finds_68 (by decide) rfl rfl (show _ < 14 by omega) (zbi_n x) ?_
          refine n_inc1 dX12_finds_69 rfl (by decide) ?_
          refine n_goto (tgt := 6) dX12_finds_72 (by decide) ?_
          rw [nI_1]
          refine ih (k + 1) _ (by omega) (fun j hj => ⟨?_, (zSTo (by decide)).trans ((zSTo (by decide)).trans (c' j hj)), (zSTo (by decide)).trans ?_⟩) a' fun a q1 q2 q3 => (zST_n _ _ _ q3).trans ((zST_n _ _ _ q2).trans ((b' a q1).trans (b a q1 q2 q3)))
          · by_cases e : j = k
            · subst e; rw [zSTs, hx]
            · rw [zSTn e, zSTo (by decide), b' 22 (by decide)]; exact (ht j (by omega)).1
          · rw [e3]
            by_cases e : j = k
            · subst e; rw [zSTs]; rfl
            · rw [zSTn e, b' 21 (by decide), (ht j (by omega)).2.2, e3]
        refine n_aload_n dX12_finds_37 rfl ?_
        refine n_get dX12_finds_38 fl_X12_84 rfl ?_
        refine n_iload_n dX12_finds_41 rfl ?_
        refine n_iconst (v := (nI 0)) dX12_finds_42 (by decide) ?_
        refine n_zast (j := 21) dX12_finds_43 (by decide) rfl rfl (show _ < 14 by omega) rfl ?_
        refine n_aload_n dX12_finds_44 rfl ?_
        refine n_get dX12_finds_45 fl_X12_87 rfl ?_
        refine n_iload_n dX12_finds_48 rfl ?_
        refine n_iload_n dX12_finds_49 rfl ?_
        refine n_iload_n dX12_finds_50 rfl ?_
        by_cases e : k = i
        · subst e
          refine n_icmp_ne (tgt := 67) dX12_finds_51 (by decide) (fun q => absurd (rfl) q) (fun _ => ?_)
          refine n_aload_n dX12_finds_54 rfl ?_
          refine n_get dX12_finds_55 fl_X12_75 rfl ?_
          refine n_iload_n dX12_finds_58 rfl ?_
          refine n_zald (j := 18) dX12_finds_59 (by decide) rfl rfl (show _ < 14 by omega) (n18 k hk14) ?_
          cases w : zcd L k with
          | true =>
            refine n_if_eq (tgt := 67) dX12_finds_60 (by decide) (fun q => absurd q ((by decide))) (fun _ => ?_)
            refine n_iconst (v := (nI 1)) dX12_finds_63 (by decide) ?_
            refine n_goto (tgt := 68) dX12_finds_64 (by decide) ?_
            exact fin true (by rw [e1, w]; simp)
          | false =>
            refine n_if_eq (tgt := 67) dX12_finds_60 (by decide) (fun _ => ?_) (fun q => absurd (rfl) q)
            refine n_iconst (v := (nI 0)) dX12_finds_67 (by decide) ?_
            exact fin false (by rw [e1, w]; simp)
        · refine n_icmp_ne (tgt := 67) dX12_finds_51 (by decide) (fun _ => ?_) (fun q => absurd q ((fun w => e ((nI_eq (by omega) (by omega)).mp w))))
          refine n_iconst (v := (nI 0)) dX12_finds_67 (by decide) ?_
          exact fin false (by rw [e1]; simp [e])
      have n18 : ∀ j, j < 14 → S2.2 18 j = zbi (zcd L j) := cC _ b
      have fin : ∀ x : Bool, x = t0.2.1 k → zNW G kX12_finds m Q 36 [some (.ref m), some (.int (nI i)), some (.int (nI k)), none, none] [.int (zbi x), .int (nI k), .ref (m + 1 + 20)] S2 := by
        intro x hx
        refine n_zast (j := 20) dX12_finds_36 (by decide) rfl rfl (show _ < 14 by omega) (zbi_n x) ?_
        refine tail _ a (fun a q => zST_n _ _ _ q) fun j hj => ?_
        by_cases e : j = k
        · subst e; rw [zSTs, hx]
        · rw [zSTn e]; exact (ht j (by omega)).2.1
      refine n_iload_n dX12_finds_6 rfl ?_
      refine n_bipush (v := (nI 14)) dX12_finds_7 (by decide) ?_
      refine n_icmp_ge (tgt := 75) dX12_finds_9 (by decide) (fun q => absurd q ((nI_ge hk14 (by decide)))) (fun _ => ?_)
      refine n_aload_n dX12_finds_12 rfl ?_
      refine n_get dX12_finds_13 fl_X12_81 rfl ?_
      refine n_iload_n dX12_finds_16 rfl ?_
      refine n_iload_n dX12_finds_17 rfl ?_
      refine n_iload_n dX12_finds_18 rfl ?_
      by_cases e : k = i
      · subst e
        refine n_icmp_ne (tgt := 35) dX12_finds_19 (by decide) (fun q => absurd (rfl) q) (fun _ => ?_)
        refine n_aload_n dX12_finds_22 rfl ?_
        refine n_get dX12_finds_23 fl_X12_75 rfl ?_
        refine n_iload_n dX12_finds_26 rfl ?_
        refine n_zald (j := 18) dX12_finds_27 (by decide) rfl rfl (show _ < 14 by omega) (n18 k hk14) ?_
        cases w : zcd L k with
        | true =>
          refine n_if_ne (tgt := 35) dX12_finds_28 (by decide) (fun _ => ?_) (fun q => absurd q ((by decide)))
          refine n_iconst (v := (nI 0)) dX12_finds_35 (by decide) ?_
          exact fin false (by rw [e2, w]; simp)
        | false =>
          refine n_if_ne (tgt := 35) dX12_finds_28 (by decide) (fun q => absurd (rfl) q) (fun _ => ?_)
          refine n_iconst (v := (nI 1)) dX12_finds_31 (by decide) ?_
          refine n_goto (tgt := 36) dX12_finds_32 (by decide) ?_
          exact fin true (by rw [e2, w]; simp)
      · refine n_icmp_ne (tgt := 35) dX12_finds_19 (by decide) (fun _ => ?_) (fun q => absurd q ((fun w => e ((nI_eq (by omega) (by omega)).mp w))))
        refine n_iconst (v := (nI 0)) dX12_finds_35 (by decide) ?_
        exact fin false (by rw [e2]; simp [e])
  refine n_iconst (v := (nI 0)) dX12_finds_4 (by decide) ?_
  refine n_istore_n dX12_finds_5 (by decide) ?_
  exact init 14 0 S1 rfl (fun j hj => absurd hj (Nat.not_lt_zero _)) rfl fun _ _ _ _ => rfl
set_option maxRecDepth 100000 in
theorem c_m_stages {x : Int32} (hw : zWf nt) (hh : zHow nt) (hlim : lim ≤ 1000) (h : zrM S nt lim mem wk slow r L A tk sp cs un) : zMN G yX12_stages kX12_stages m [.int x] S (fun v S' => zQm v S' (zk_node nt.length x) (v = some (.int (nI (zcn (zdraw lim nt (zcd L) x.toNatClampNeg).2.1 14))) ∧ zrM S' nt lim mem wk slow r L A tk sp cs un) (zrM S' nt lim mem wk slow r L A tk sp cs un)) := by
  refine zMN.of (ls := [some (.ref m), some (.int x)]) (by decide +kernel) ⟨rfl, rfl, rfl⟩ (Nat.le_of_ble_eq_true rfl) (fun _ h => h) fun Q hQ => ?_
  have h14 := h.1.2.1
  have hn := h.1.1
  refine n_aload_n dX12_stages_0 rfl ?_
  refine n_aload_n dX12_stages_1 rfl ?_
  refine n_iload_n dX12_stages_2 rfl ?_
  refine n_call dX12_stages_3 cv_X12_138 (c_is hn) rfl rfl rfl ⟨(Nat.le_of_ble_eq_true rfl), (Nat.le_of_ble_eq_true rfl)⟩ rfl rfl (Nat.le_of_ble_eq_true rfl) (fun v S1 hq1 => ?_)
  obtain ⟨rfl, hS⟩ := hq1
  subst hS
  rcases zk_node_01 nt.length x with ⟨k0, c⟩ | ⟨k1, c⟩
  · rw [zif_t c]
    obtain ⟨i, hi, rfl⟩ := zis_of (by omega) c
    rw [nI_clamp (by omega)] at hQ
    refine n_if_eq (tgt := 13) dX12_stages_6 (by decide) (fun q => absurd q ((by decide))) (fun _ => ?_)
    refine n_iconst (v := (nI 0)) dX12_stages_9 (by decide) ?_
    refine n_goto (tgt := 14) dX12_stages_10 (by decide) ?_
    refine n_call dX12_stages_14 cv_X12_130 c_fails rfl rfl rfl ⟨(Nat.le_of_ble_eq_true rfl), (Nat.le_of_ble_eq_true rfl)⟩ rfl rfl (Nat.le_of_ble_eq_true rfl) (fun v S2 hq2 => ?_)
    obtain ⟨rfl, rfl⟩ := hq2
    refine n_if_eq (tgt := 24) dX12_stages_17 (by decide) (fun _ => ?_) (fun q => absurd (rfl) q)
    refine n_aload_n dX12_stages_24 rfl ?_
    refine n_iload_n dX12_stages_25 rfl ?_
    refine n_call dX12_stages_26 cv_X12_235 (c_finds hw hh hlim h.thr hi) rfl rfl rfl ⟨(Nat.le_of_ble_eq_true rfl), (Nat.le_of_ble_eq_true rfl)⟩ rfl rfl (Nat.le_of_ble_eq_true rfl) (fun v S3 hq3 => ?_)
    obtain ⟨rfl, q1, q2, q3, q4⟩ := hq3
    have h3 := h.thr.fi q1 (fun j w1 w2 w3 w4 => q2 j w1 w2 w3 w4) q3
    exact n_iret dX12_stages_29 rfl (hQ _ _ (zQm.ok (by rw [q1, pk_un (by decide)]; exact zSF_s) k0 ⟨rfl, h3⟩))
  · rw [zif_f c]
    refine n_if_eq (tgt := 13) dX12_stages_6 (by decide) (fun _ => ?_) (fun q => absurd (rfl) q)
    refine n_iconst (v := (nI 1)) dX12_stages_13 (by decide) ?_
    refine n_call dX12_stages_14 cv_X12_130 c_fails rfl rfl rfl ⟨(Nat.le_of_ble_eq_true rfl), (Nat.le_of_ble_eq_true rfl)⟩ rfl rfl (Nat.le_of_ble_eq_true rfl) (fun v S2 hq2 => ?_)
    obtain ⟨rfl, rfl⟩ := hq2
    refine n_if_eq (tgt := 24) dX12_stages_17 (by decide) (fun q => absurd q ((by decide))) (fun _ => ?_)
    refine n_iconst (v := (nI 0)) dX12_stages_20 (by decide) ?_
    refine n_goto (tgt := 29) dX12_stages_21 (by decide) ?_
    exact n_iret dX12_stages_29 rfl (hQ _ _ (zQm.bad zSF_s k1 (by decide) h.thr))
set_option maxRecDepth 100000 in
theorem c_m_outputOf {x y : Int32} (hw : zWf nt) (hh : zHow nt) (hlim : lim ≤ 1000) (h : zrM S nt lim mem wk slow r L A tk sp cs un) : zMN G yX12_outputOf kX12_outputOf m [.int x, .int y] S (fun v S' => zQm v S' (zk_out lim nt (zcd L) x y) (v = some (.int (nI (znu (zdraw lim nt (zcd L) x.toNatClampNeg).2.1 y.toNatClampNeg))) ∧ zrM S' nt lim mem wk slow r L A tk sp cs un) (zrM S' nt lim mem wk slow r L A tk sp cs un)) := by
  refine zMN.of (ls := [some (.ref m), some (.int x), some (.int y), none, none, none]) (by decide +kernel) ⟨rfl, rfl, rfl⟩ (Nat.le_of_ble_eq_true rfl) (fun _ h => h) fun Q hQ => ?_
  have h14 := h.1.2.1
  have hn := h.1.1
  have bad : ∀ (S2 : zMS) (n : Int32), zrM S2 nt lim mem wk slow r L A tk sp cs un → zk_out lim nt (zcd L) x y = 1 → zNW G kX12_outputOf m Q 32 [some (.ref m), some (.int x), some (.int y), some (.int n), none, none] [.ref m] S2 := by
    intro S2 n h2 k1
    refine n_iconst (v := (nI 1)) dX12_outputOf_32 (by decide) ?_
    refine n_call dX12_outputOf_33 cv_X12_130 c_fails rfl rfl rfl ⟨(Nat.le_of_ble_eq_true rfl), (Nat.le_of_ble_eq_true rfl)⟩ rfl rfl (Nat.le_of_ble_eq_true rfl) (fun v S3 hq3 => ?_)
    obtain ⟨rfl, rfl⟩ := hq3
    refine n_if_eq (tgt := 41) dX12_outputOf_36 (by decide) (fun q => absurd q ((by decide))) (fun _ => ?_)
    refine n_iconst (v := (nI 0)) dX12_outputOf_39 (by decide) ?_
    exact n_iret dX12_outputOf_40 rfl (hQ _ _ (zQm.bad (c' := 1) zSF_s k1 (by decide) h2.thr))
  refine n_aload_n dX12_outputOf_0 rfl ?_
  refine n_iload_n dX12_outputOf_1 rfl ?_
  refine n_call dX12_outputOf_2 cv_X12_138 (c_is hn) rfl rfl rfl ⟨(Nat.le_of_ble_eq_true rfl), (Nat.le_of_ble_eq_true rfl)⟩ rfl rfl (Nat.le_of_ble_eq_true rfl) (fun v S1 hq1 => ?_)
  obtain ⟨rfl, hS⟩ := hq1
  subst hS
  rcases zk_node_01 nt.length x with ⟨k0, c⟩ | ⟨k1, c⟩
  · rw [zif_t c]
    obtain ⟨i, hi, rfl⟩ := zis_of (by omega) c
    have hcn := zcn_le (zdraw lim nt (zcd L) i).2.1 14
    have hkk : zk_out lim nt (zcd L) (nI i) y = if znob (zcn (zdraw lim nt (zcd L) i).2.1 14) y = true then 1 else 0 := by
      unfold zk_out
      rw [nI_clamp (by omega), znob_f.mpr c]
      simp
    rw [hkk, nI_clamp (by omega)] at hQ
    rw [hkk] at bad
    refine n_if_eq (tgt := 16) dX12_outputOf_5 (by decide) (fun q => absurd q ((by decide))) (fun _ => ?_)
    refine n_aload_n dX12_outputOf_8 rfl ?_
    refine n_iload_n dX12_outputOf_9 rfl ?_
    refine n_call dX12_outputOf_10 cv_X12_235 (c_finds hw hh hlim h hi) rfl rfl rfl ⟨(Nat.le_of_ble_eq_true rfl), (Nat.le_of_ble_eq_true rfl)⟩ rfl rfl (Nat.le_of_ble_eq_true rfl) (fun v S3 hq3 => ?_)
    obtain ⟨rfl, q1, q2, q3, q4⟩ := hq3
    have h3 := h.fi q1 (fun j w1 w2 w3 w4 => q2 j w1 w2 w3 w4) q3
    refine n_goto (tgt := 17) dX12_outputOf_13 (by decide) ?_
    refine n_istore_n dX12_outputOf_17 (by decide) ?_
    refine n_aload_n dX12_outputOf_18 rfl ?_
    refine n_iload_n dX12_outputOf_19 rfl ?_
    by_cases c1 : y < 0
    · refine n_if_lt (tgt := 32) dX12_outputOf_20 (by decide) (fun _ => ?_) (fun q => absurd (c1) q)
      exact bad _ _ h3 (by rw [if_pos (znob_t.mpr fun w => w.1 c1)])
    · refine n_if_lt (tgt := 32) dX12_outputOf_20 (by decide) (fun q => absurd q (c1)) (fun _ => ?_)
      obtain ⟨n, hn2, rfl⟩ := nI_of c1
      refine n_iload_n dX12_outputOf_23 rfl ?_
      refine n_iload_n dX12_outputOf_24 rfl ?_
      by_cases c2 : n < zcn (zdraw lim nt (zcd L) i).2.1 14
      · have k0' : (if znob (zcn (zdraw lim nt (zcd L) i).2.1 14) (nI n) = true then 1 else 0) = 0 := by rw [znob_f.mpr (zis_in (by omega) c2)]; rfl
        rw [nI_clamp hn2] at hQ
        obtain ⟨j, j1, j2, j3, j4⟩ := znth_ex c2 14 0 rfl (Nat.zero_le _)
        rw [znu_of j2 j3 j4] at hQ
        have q5 : ∀ k, k < 14 → S3.2 20 k = zbi ((zdraw lim nt (zcd L) i).2.1 k) := fun k hk => (q4 k hk).2.1
        generalize (zdraw lim nt (zcd L) i).2.1 = s at *
        refine n_icmp_ge (tgt := 32) dX12_outputOf_25 (by decide) (fun q => absurd q ((nI_ge c2 (by omega)))) (fun _ => ?_)
        refine n_iconst (v := (nI 0)) dX12_outputOf_28 (by decide) ?_
        refine n_goto (tgt := 33) dX12_outputOf_29 (by decide) ?_
        refine n_call dX12_outputOf_33 cv_X12_130 c_fails rfl rfl rfl ⟨(Nat.le_of_ble_eq_true rfl), (Nat.le_of_ble_eq_true rfl)⟩ rfl rfl (Nat.le_of_ble_eq_true rfl) (fun v S4 hq4 => ?_)
        obtain ⟨rfl, rfl⟩ := hq4
        refine n_if_eq (tgt := 41) dX12_outputOf_36 (by decide) (fun _ => ?_) (fun q => absurd (rfl) q)
        refine n_iload_n dX12_outputOf_41 rfl ?_
        refine n_istore dX12_outputOf_42 (by decide) ?_
        refine n_iconst (v := (nI 0)) dX12_outputOf_44 (by decide) ?_
        refine n_istore dX12_outputOf_45 (by decide) ?_
        have loop : ∀ (d k : Nat), k + d = j → zNW G kX12_outputOf m Q 47 [some (.ref m), some (.int (nI i)), some (.int (nI n)), some (.int (nI (zcn s 14))), some (.int (nI (n - zcn s k))), some (.int (nI k))] [] (zSF S3 11 (nI 0)) := by
          intro d
          induction d with
          | zero =>
            intro k hk
            have ek : k = j := by omega
            subst ek
            refine n_iload dX12_outputOf_47 rfl ?_
            refine n_if_gt (tgt := 62) dX12_outputOf_49 (by decide) (fun q => absurd q ((by rw [j4, Nat.sub_self]; decide))) (fun _ => ?_)
            refine n_aload_n dX12_outputOf_52 rfl ?_
            refine n_get dX12_outputOf_53 fl_X12_81 rfl ?_
            refine n_iload dX12_outputOf_56 rfl ?_
            refine n_zald (j := 20) dX12_outputOf_58 (by decide) rfl rfl (show _ < 14 by omega) (q5 k j2) ?_
            rw [j3]
            refine n_if_ne (tgt := 88) dX12_outputOf_59 (by decide) (fun _ => ?_) (fun q => absurd q ((by decide)))
            refine n_iload dX12_outputOf_88 rfl ?_
            exact n_iret dX12_outputOf_90 rfl (hQ _ _ (zQm.ok zSF_s k0' ⟨rfl, h3.thr⟩))
          | succ d ihd =>
            intro k hk
            have hle := zcn_mono s (show k + 1 ≤ j by omega)
            have hst : zcn s (k + 1) = zcn s k + (if s k = true then 1 else 0) := rfl
            have hq := q5 k (by omega)
            have step : zNW G kX12_outputOf m Q 62 [some (.ref m), some (.int (nI i)), some (.int (nI n)), some (.int (nI (zcn s 14))), some (.int (nI (n - zcn s k))), some (.int (nI k))] [] (zSF S3 11 (nI 0)) := by
              have nx := ihd (k + 1) (by omega)
              rw [hst] at nx
              refine n_iload dX12_outputOf_62 rfl ?_
              refine n_aload_n dX12_outputOf_64 rfl ?_
              refine n_get dX12_outputOf_65 fl_X12_81 rfl ?_
              refine n_iload dX12_outputOf_68 rfl ?_
              refine n_zald (j := 20) dX12_outputOf_70 (by decide) rfl rfl (show _ < 14 by omega) hq ?_
              cases w : s k with
              | true =>
                rw [w, if_pos rfl] at hst nx
                refine n_if_eq (tgt := 78) dX12_outputOf_71 (by decide) (fun q => absurd q ((by decide))) (fun _ => ?_)
                refine n_iconst (v := (nI 1)) dX12_outputOf_74 (by decide) ?_
                refine n_goto (tgt := 79) dX12_outputOf_75 (by decide) ?_
                refine n_isub dX12_outputOf_79 ?_
                rw [pk_sub (by omega), show n - zcn s k - 1 = n - (zcn s k + 1) by omega]
                refine n_istore dX12_outputOf_80 (by decide) ?_
                refine n_inc1 dX12_outputOf_82 rfl (by decide) ?_
                refine n_goto (tgt := 47) dX12_outputOf_85 (by decide) ?_
                rw [nI_1]
                exact nx
              | false =>
                rw [w, if_neg (by decide)] at hst nx
                refine n_if_eq (tgt := 78) dX12_outputOf_71 (by decide) (fun _ => ?_) (fun q => absurd (rfl) q)
                refine n_iconst (v := (nI 0)) dX12_outputOf_78 (by decide) ?_
                refine n_isub dX12_outputOf_79 ?_
                rw [pk_sub (by omega), Nat.sub_zero]
                refine n_istore dX12_outputOf_80 (by decide) ?_
                refine n_inc1 dX12_outputOf_82 rfl (by decide) ?_
                refine n_goto (tgt := 47) dX12_outputOf_85 (by decide) ?_
                rw [nI_1]
                exact nx
            by_cases w : zcn s k < n
            · refine n_iload dX12_outputOf_47 rfl ?_
              refine n_if_gt (tgt := 62) dX12_outputOf_49 (by decide) (fun _ => ?_) (fun q => absurd ((nI_lt (a := 0) (by omega) (by omega))) q)
              exact step
            · refine n_iload dX12_outputOf_47 rfl ?_
              have e0 : n - zcn s k = 0 := by omega
              have sk : s k = false := by
                cases w2 : s k with
                | false => rfl
                | true => rw [w2, if_pos rfl] at hst; omega
              rw [e0] at step ⊢
              refine n_if_gt (tgt := 62) dX12_outputOf_49 (by decide) (fun q => absurd q ((by decide))) (fun _ => ?_)
              refine n_aload_n dX12_outputOf_52 rfl ?_
              refine n_get dX12_outputOf_53 fl_X12_81 rfl ?_
              refine n_iload dX12_outputOf_56 rfl ?_
              refine n_zald (j := 20) dX12_outputOf_58 (by decide) rfl rfl (show _ < 14 by omega) hq ?_
              rw [sk]
              refine n_if_ne (tgt := 88) dX12_outputOf_59 (by decide) (fun q => absurd (rfl) q) (fun _ => ?_)
              exact step
        exact loop j 0 (by omega)
      · refine n_icmp_ge (tgt := 32) dX12_outputOf_25 (by decide) (fun _ => ?_) (fun q => absurd ((nI_le (by omega) hn2)) q)
        exact bad _ _ h3 (by rw [if_pos (znob_t.mpr fun w => by have := (nI_ltI hn2 (by omega)).mp w.2; omega)])
  · rw [zif_f c]
    have hkk : zk_out lim nt (zcd L) x y = 1 := by unfold zk_out; rw [if_pos (Or.inl (znob_t.mpr c))]
    refine n_if_eq (tgt := 16) dX12_outputOf_5 (by decide) (fun _ => ?_) (fun q => absurd (rfl) q)
    refine n_iconst (v := (nI 0)) dX12_outputOf_16 (by decide) ?_
    refine n_istore_n dX12_outputOf_17 (by decide) ?_
    refine n_aload_n dX12_outputOf_18 rfl ?_
    refine n_iload_n dX12_outputOf_19 rfl ?_
    by_cases c1 : y < 0
    · refine n_if_lt (tgt := 32) dX12_outputOf_20 (by decide) (fun _ => ?_) (fun q => absurd (c1) q)
      exact bad _ _ h hkk
    · refine n_if_lt (tgt := 32) dX12_outputOf_20 (by decide) (fun q => absurd q (c1)) (fun _ => ?_)
      refine n_iload_n dX12_outputOf_23 rfl ?_
      refine n_iload_n dX12_outputOf_24 rfl ?_
      refine n_icmp_ge (tgt := 32) dX12_outputOf_25 (by decide) (fun _ => ?_) (fun q => absurd ((Int32.not_lt.mp c1)) q)
      exact bad _ _ h hkk
end
