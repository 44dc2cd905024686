-- model
/-! the model: what nodes hold is worked out -/
def zKp (S S' : zMS) (its : Nat) : Prop := S'.1 = S.1 ∧ (∀ j, j < 12 ∨ 16 ≤ j → S'.2 j = S.2 j) ∧ (∀ i, i ≠ its → S'.2 12 i = S.2 12 i) ∧ (∀ k, k < 9 * its ∨ 9 * its + 9 ≤ k → S'.2 13 k = S.2 13 k) ∧ ∀ k, k < 300 * its ∨ 300 * its + 300 ≤ k → S'.2 14 k = S.2 14 k ∧ S'.2 15 k = S.2 15 k
def zBd0 (S : zMS) (its : Nat) (P : List zP2) : Prop := (∀ p, p < P.length → S.2 13 (9 * its + p) = nI (P.take p).flatten.length) ∧ ∀ (k : Nat) (q : Int32 × Int32), P.flatten[k]? = some q → S.2 14 (300 * its + k) = q.1 ∧ S.2 15 (300 * its + k) = q.2
def zBd (S : zMS) (its : Nat) (P : List zP2) (T : zP2) : Prop := (∀ p, p ≤ P.length → S.2 13 (9 * its + p) = nI (P.take p).flatten.length) ∧ ∀ (k : Nat) (q : Int32 × Int32), (P.flatten ++ T)[k]? = some q → S.2 14 (300 * its + k) = q.1 ∧ S.2 15 (300 * its + k) = q.2
section
variable {S S' S0 : zMS} {its : Nat} {P : List zP2} {T : zP2}
theorem zKp.rf : zKp S S its := ⟨rfl, fun _ _ => rfl, fun _ _ => rfl, fun _ _ => rfl, fun _ _ => ⟨rfl, rfl⟩⟩
theorem zKp.v {j i : Nat} {v : Int32} (h : zKp S S' its) (hj : j < 12 ∨ 16 ≤ j) (hv : S.2 j i = v) : S'.2 j i = v := by rw [h.2.1 j hj]; exact hv
theorem zKp.beg {p : Nat} {x : Int32} (h : zKp S0 S its) (hp : p < 9) : zKp S0 (zST S 13 (9 * its + p) x) its := by
  refine ⟨h.1, fun j hj => (zST_n _ _ _ (by omega)).trans (h.2.1 j hj), fun i hi => (zSTo (by decide)).trans (h.2.2.1 i hi), fun k hk => (zSTn (by omega)).trans (h.2.2.2.1 k hk), fun k hk => ⟨(zSTo (by decide)).trans (h.2.2.2.2 k hk).1, (zSTo (by decide)).trans (h.2.2.2.2 k hk).2⟩⟩
theorem zKp.par {x : Int32} (h : zKp S0 S its) : zKp S0 (zST S 12 its x) its := by
  refine ⟨h.1, fun j hj => (zST_n _ _ _ (by omega)).trans (h.2.1 j hj), fun i hi => (zSTn hi).trans (h.2.2.1 i hi), fun k hk => (zSTo (by decide)).trans (h.2.2.2.1 k hk), fun k hk => ⟨(zSTo (by decide)).trans (h.2.2.2.2 k hk).1, (zSTo (by decide)).trans (h.2.2.2.2 k hk).2⟩⟩
theorem zKp.row {n : Nat} {x y : Int32} (h : zKp S0 S its) (hn : n < 300) : zKp S0 (zST (zST S 14 (300 * its + n) x) 15 (300 * its + n) y) its := by
  refine ⟨h.1, fun j hj => (zST_n _ _ _ (by omega)).trans ((zST_n _ _ _ (by omega)).trans (h.2.1 j hj)), fun i hi => (zSTo (by decide)).trans ((zSTo (by decide)).trans (h.2.2.1 i hi)), fun k hk => (zSTo (by decide)).trans ((zSTo (by decide)).trans (h.2.2.2.1 k hk)), fun k hk => ⟨?_, ?_⟩⟩
  · exact (zSTo (by decide)).trans ((zSTn (by omega)).trans (h.2.2.2.2 k hk).1)
  · exact (zSTn (by omega)).trans ((zSTo (by decide)).trans (h.2.2.2.2 k hk).2)
theorem zKp.H {f : Nat} (h : zKp S0 S its) (hf : f ≠ its) (hP : zmH S0 f P) (h8 : P.length ≤ 8) (h3 : P.flatten.length ≤ 300) : zmH S f P := by
  refine ⟨(h.2.2.1 f hf).trans hP.1, fun p hp => (h.2.2.2.1 _ (by omega)).trans (hP.2.1 p hp), fun k q hk => ?_⟩
  have := zR_lt hk
  obtain ⟨a, b⟩ := h.2.2.2.2 (300 * f + k) (by omega)
  rw [a, b]
  exact hP.2.2 k q hk
theorem zBd0.nil : zBd0 S its [] := ⟨fun p hp => absurd hp (Nat.not_lt_zero _), fun k q h => by simp at h⟩
theorem zBd0.par {i : Nat} {x : Int32} (h : zBd0 S its P) : zBd0 (zST S 12 i x) its P := ⟨fun p hp => (zSTo (by decide)).trans (h.1 p hp), fun k q hk => ⟨(zSTo (by decide)).trans (h.2 k q hk).1, (zSTo (by decide)).trans (h.2 k q hk).2⟩⟩
theorem zBd0.beg (h : zBd0 S its P) : zBd (zST S 13 (9 * its + P.length) (nI P.flatten.length)) its P [] := by
  refine ⟨fun p hp => ?_, fun k q hk => ?_⟩
  · by_cases e : p = P.length
    · subst e; rw [zSTs, List.take_length]
    · rw [zSTn (by omega)]; exact h.1 p (by omega)
  · rw [List.append_nil] at hk
    exact ⟨(zSTo (by decide)).trans (h.2 k q hk).1, (zSTo (by decide)).trans (h.2 k q hk).2⟩
theorem zBd.row {n : Nat} {x y : Int32} (h : zBd S its P T) (hn : P.flatten.length + T.length = n) : zBd (zST (zST S 14 (300 * its + n) x) 15 (300 * its + n) y) its P (T ++ [(x, y)]) := by
  refine ⟨fun p hp => (zSTo (by decide)).trans ((zSTo (by decide)).trans (h.1 p hp)), fun k q hk => ?_⟩
  rw [← List.append_assoc] at hk
  by_cases c : k < n
  · rw [List.getElem?_append_left (by rw [List.length_append]; omega)] at hk
    rw [zSTo (by decide), zSTn (by omega), zSTn (by omega), zSTo (by decide)]
    exact h.2 k q hk
  · have hl := zR_lt hk
    rw [List.length_append, List.length_append, List.length_singleton] at hl
    have e : k = n := by omega
    subst e
    rw [List.getElem?_append_right (by rw [List.length_append]; omega), List.length_append, hn, Nat.sub_self] at hk
    cases hk
    rw [zSTo (by decide), zSTs, zSTs]
    exact ⟨rfl, rfl⟩
theorem zBd.skip {n : Nat} {x y : Int32} (h : zBd S its P T) (hn : P.flatten.length + T.length = n) : zBd (zST (zST S 14 (300 * its + n) x) 15 (300 * its + n) y) its P T := by
  have h2 := h.row (x := x) (y := y) hn
  refine ⟨h2.1, fun k q hk => h2.2 k q ?_⟩
  rw [← List.append_assoc, List.getElem?_append_left (zR_lt hk)]
  exact hk
theorem zBd.done (h : zBd S its P T) : zBd0 S its (P ++ [T]) := by
  refine ⟨fun p hp => ?_, fun k q hk => h.2 k q (by simpa using hk)⟩
  rw [List.length_append] at hp
  have hp' : p ≤ P.length := by simp at hp; omega
  rw [List.take_append_of_le_length hp']
  exact h.1 p hp'
theorem zBd.fin (h : zBd S its P []) (hp : S.2 12 its = nI P.length) : zmH S its P := ⟨hp, h.1, fun k q hk => h.2 k q (by rw [List.append_nil]; exact hk)⟩
theorem zfl1 (P : List zP2) (T : zP2) : (P ++ [T]).flatten.length = P.flatten.length + T.length := by rw [List.flatten_append, List.length_append, List.flatten_cons, List.flatten_nil, List.append_nil]
theorem zpk_skip {c : Nat → Bool} {R : zP2} {a : Nat} : ∀ d, (∀ k, a ≤ k → k < a + d → c k = false) → zpk c 0 (R.take (a + d)) = zpk c 0 (R.take a)
  | 0, _ => rfl
  | d + 1, h => by
    have ih := zpk_skip (c := c) (R := R) (a := a) d fun k h1 h2 => h k h1 (by omega)
    by_cases q : a + d < R.length
    · have hg : R[a + d]? = some (R[a + d]'q) := List.getElem?_eq_getElem _
      rw [show a + (d + 1) = (a + d) + 1 by omega, ztake hg, zpk_snoc, ih, Nat.zero_add, List.length_take, Nat.min_eq_left (by omega), h (a + d) (by omega) (by omega)]
      simp
    · rw [List.take_of_length_le (by omega), ← ih, List.take_of_length_le (by omega)]
theorem zpk_hit {c : Nat → Bool} {R : zP2} {k : Nat} {q : Int32 × Int32} (h : R[k]? = some q) (hc : c k = true) : zpk c 0 (R.take (k + 1)) = zpk c 0 (R.take k) ++ [q] := by
  have := zR_lt h
  rw [ztake h, zpk_snoc, Nat.zero_add, List.length_take, Nat.min_eq_left (by omega), hc]
  rfl
theorem zmod_gap {k k' p : Nat} (h1 : k < k') (h2 : k' < k + p) : k' % p ≠ k % p := by
  intro h
  have := Nat.sub_mod_eq_zero_of_mod_eq h
  rw [Nat.mod_eq_of_lt (by omega)] at this
  omega
end
section
variable {G : zG} {m its : Nat} {S : zMS}
set_option maxRecDepth 100000 in
theorem c_holdsSource {p : Nat} {R : zP2} (hi : its < 14) (hp : S.2 6 its = nI p) (p1 : 1 ≤ p) (p8 : p ≤ 8) (hR : S.2 9 its = nI R.length) (hR2 : R.length ≤ 12) (hs : ∀ (k : Nat) (q : Int32 × Int32), R[k]? = some q → S.2 10 (12 * its + k) = q.1 ∧ S.2 11 (12 * its + k) = q.2) : zMN G yX12_holdsSource kX12_holdsSource m [.int (nI its)] S (fun v S' => v = none ∧ zKp S S' its ∧ zmH S' its (zdeal R p)) := by
  refine zMN.of (ls := [some (.ref m), some (.int (nI its)), none, none, none]) (by decide +kernel) ⟨rfl, rfl, rfl⟩ (Nat.le_of_ble_eq_true rfl) (fun _ h => h) fun Q hQ => ?_
  have htot := zdeal_tot p1 R
  have hfl : ∀ i, i < p → (zrng i fun i => zpk (fun k => k % p == i) 0 R).flatten.length + (zpk (fun k => k % p == i) 0 R).length ≤ R.length := fun i hi => by
    have := zrng_fl (f := fun i => zpk (fun k => k % p == i) 0 R) hi
    unfold zdeal at htot
    omega
  have outer : ∀ (d i : Nat) (S1 : zMS) (x4 : Option Value), i + d = p → zKp S S1 its → S1.2 12 its = nI p → zBd0 S1 its (zrng i fun i => zpk (fun k => k % p == i) 0 R) →
      zNW G kX12_holdsSource m Q 16 [some (.ref m), some (.int (nI its)), some (.int (nI (zrng i fun i => zpk (fun k => k % p == i) 0 R).flatten.length)), some (.int (nI i)), x4] [] S1 := by
    intro d
    induction d with
    | zero =>
      intro i S1 x4 hd hK hpt hB
      have e : i = p := by omega
      subst e
      refine n_iload_n dX12_holdsSource_16 rfl ?_
      refine n_aload_n dX12_holdsSource_17 rfl ?_
      refine n_get dX12_holdsSource_18 fl_X12_28 rfl ?_
      refine n_iload_n dX12_holdsSource_21 rfl ?_
      refine n_iald (j := 6) dX12_holdsSource_22 (by decide) rfl rfl (show _ < 14 by omega) (hK.v (by decide) hp) ?_
      refine n_icmp_ge (tgt := 105) dX12_holdsSource_23 (by decide) (fun _ => ?_) (fun q => absurd ((nI_le (Nat.le_refl _) (by omega))) q)
      refine n_aload_n dX12_holdsSource_105 rfl ?_
      refine n_get dX12_holdsSource_106 fl_X12_49 rfl ?_
      refine n_bipush (v := (nI 9)) dX12_holdsSource_109 (by decide) ?_
      refine n_iload_n dX12_holdsSource_111 rfl ?_
      refine n_imul dX12_holdsSource_112 ?_
      rw [pk_mul]
      refine n_aload_n dX12_holdsSource_113 rfl ?_
      refine n_get dX12_holdsSource_114 fl_X12_28 rfl ?_
      refine n_iload_n dX12_holdsSource_117 rfl ?_
      refine n_iald (j := 6) dX12_holdsSource_118 (by decide) rfl rfl (show _ < 14 by omega) (hK.v (by decide) hp) ?_
      refine n_iadd dX12_holdsSource_119 ?_
      rw [nI_add]
      refine n_iload_n dX12_holdsSource_120 rfl ?_
      refine n_iast (j := 13) dX12_holdsSource_121 (by decide) rfl rfl (show _ < 126 by omega) ?_
      have hb := hB.beg
      rw [zrng_len] at hb
      exact n_vret dX12_holdsSource_122 rfl (hQ _ _ ⟨rfl, hK.beg (by omega), hb.fin ((zSTo (by decide)).trans (by rw [zrng_len]; exact hpt))⟩)
    | succ d ih =>
      intro i S1 x4 hd hK hpt hB
      have hfi := hfl i (by omega)
      generalize hP : (zrng i fun i => zpk (fun k => k % p == i) 0 R) = P at *
      have hPl : P.length = i := by rw [← hP, zrng_len]
      refine n_iload_n dX12_holdsSource_16 rfl ?_
      refine n_aload_n dX12_holdsSource_17 rfl ?_
      refine n_get dX12_holdsSource_18 fl_X12_28 rfl ?_
      refine n_iload_n dX12_holdsSource_21 rfl ?_
      refine n_iald (j := 6) dX12_holdsSource_22 (by decide) rfl rfl (show _ < 14 by omega) (hK.v (by decide) hp) ?_
      refine n_icmp_ge (tgt := 105) dX12_holdsSource_23 (by decide) (fun q => absurd q ((nI_ge (show i < p by omega) (by omega)))) (fun _ => ?_)
      refine n_aload_n dX12_holdsSource_26 rfl ?_
      refine n_get dX12_holdsSource_27 fl_X12_49 rfl ?_
      refine n_bipush (v := (nI 9)) dX12_holdsSource_30 (by decide) ?_
      refine n_iload_n dX12_holdsSource_32 rfl ?_
      refine n_imul dX12_holdsSource_33 ?_
      rw [pk_mul]
      refine n_iload_n dX12_holdsSource_34 rfl ?_
      refine n_iadd dX12_holdsSource_35 ?_
      rw [nI_add]
      refine n_iload_n dX12_holdsSource_36 rfl ?_
      refine n_iast (j := 13) dX12_holdsSource_37 (by decide) rfl rfl (show _ < 126 by omega) ?_
      refine n_iload_n dX12_holdsSource_38 rfl ?_
      refine n_istore dX12_holdsSource_39 (by decide) ?_
      have hb := hB.beg
      rw [hPl] at hb
      have hK2 : zKp S (zST S1 13 (9 * its + i) (nI P.flatten.length)) its := hK.beg (by omega)
      have inner : ∀ (e k : Nat) (S2 : zMS), R.length ≤ k + e → k % p = i → zKp S S2 its → S2.2 12 its = nI p → zBd S2 its P (zpk (fun k => k % p == i) 0 (R.take k)) → k < 100 →
          zNW G kX12_holdsSource m Q 41 [some (.ref m), some (.int (nI its)), some (.int (nI (P.flatten.length + (zpk (fun k => k % p == i) 0 (R.take k)).length))), some (.int (nI i)), some (.int (nI k))] [] S2 := by
        intro e
        induction e with
        | zero =>
          intro k S2 he hk hK3 hpt3 hB3 hk1
          refine n_iload dX12_holdsSource_41 rfl ?_
          refine n_aload_n dX12_holdsSource_43 rfl ?_
          refine n_get dX12_holdsSource_44 fl_X12_37 rfl ?_
          refine n_iload_n dX12_holdsSource_47 rfl ?_
          refine n_iald (j := 9) dX12_holdsSource_48 (by decide) rfl rfl (show _ < 14 by omega) (hK3.v (by decide) hR) ?_
          refine n_icmp_ge (tgt := 99) dX12_holdsSource_49 (by decide) (fun _ => ?_) (fun q => absurd ((nI_le (by omega) (by omega))) q)
          refine n_inc1 dX12_holdsSource_99 rfl (by decide) ?_
          refine n_goto (tgt := 16) dX12_holdsSource_102 (by decide) ?_
          rw [nI_1]
          rw [List.take_of_length_le (show R.length ≤ k by omega)] at hB3 ⊢
          have e2 : (zrng (i + 1) fun i => zpk (fun k => k % p == i) 0 R) = P ++ [zpk (fun k => k % p == i) 0 R] := by rw [zrng_s, hP]
          have := ih (i + 1) S2 (some (.int (nI k))) (by omega) hK3 hpt3 (by rw [e2]; exact hB3.done)
          rw [e2, zfl1] at this
          exact this
        | succ e ihe =>
          intro k S2 he hk hK3 hpt3 hB3 hk1
          by_cases c : k < R.length
          · have hg : R[k]? = some (R[k]'c) := List.getElem?_eq_getElem _
            obtain ⟨s1, s2⟩ := hs k _ hg
            generalize R[k]'c = q at hg s1 s2
            have hit := zpk_hit (c := fun k => k % p == i) hg (by simpa using hk)
            have skip : zpk (fun k => k % p == i) 0 (R.take (k + p)) = zpk (fun k => k % p == i) 0 (R.take (k + 1)) := by
              have := zpk_skip (c := fun k => k % p == i) (R := R) (a := k + 1) (p - 1) fun k' h1 h2 => by
                have := zmod_gap (p := p) (show k < k' by omega) (by omega)
                rw [hk] at this
                simpa using this
              rwa [show k + 1 + (p - 1) = k + p by omega] at this
            have hle := zpk_take (fun k => k % p == i) R 0 (k + 1)
            rw [hit, List.length_append, List.length_singleton] at hle
            refine n_iload dX12_holdsSource_41 rfl ?_
            refine n_aload_n dX12_holdsSource_43 rfl ?_
            refine n_get dX12_holdsSource_44 fl_X12_37 rfl ?_
            refine n_iload_n dX12_holdsSource_47 rfl ?_
            refine n_iald (j := 9) dX12_holdsSource_48 (by decide) rfl rfl (show _ < 14 by omega) (hK3.v (by decide) hR) ?_
            refine n_icmp_ge (tgt := 99) dX12_holdsSource_49 (by decide) (fun q => absurd q ((nI_ge c (by omega)))) (fun _ => ?_)
            refine n_aload_n dX12_holdsSource_52 rfl ?_
            refine n_iload_n dX12_holdsSource_53 rfl ?_
            refine n_iload_n dX12_holdsSource_54 rfl ?_
            refine n_aload_n dX12_holdsSource_55 rfl ?_
            refine n_get dX12_holdsSource_56 fl_X12_40 rfl ?_
            refine n_bipush (v := (nI 12)) dX12_holdsSource_59 (by decide) ?_
            refine n_iload_n dX12_holdsSource_61 rfl ?_
            refine n_imul dX12_holdsSource_62 ?_
            rw [pk_mul]
            refine n_iload dX12_holdsSource_63 rfl ?_
            refine n_iadd dX12_holdsSource_65 ?_
            rw [nI_add]
            refine n_iald (j := 10) dX12_holdsSource_66 (by decide) rfl rfl (show _ < 168 by omega) (hK3.v (by decide) s1) ?_
            refine n_aload_n dX12_holdsSource_67 rfl ?_
            refine n_get dX12_holdsSource_68 fl_X12_43 rfl ?_
            refine n_bipush (v := (nI 12)) dX12_holdsSource_71 (by decide) ?_
            refine n_iload_n dX12_holdsSource_73 rfl ?_
            refine n_imul dX12_holdsSource_74 ?_
            rw [pk_mul]
            refine n_iload dX12_holdsSource_75 rfl ?_
            refine n_iadd dX12_holdsSource_77 ?_
            rw [nI_add]
            refine n_iald (j := 11) dX12_holdsSource_78 (by decide) rfl rfl (show _ < 168 by omega) (hK3.v (by decide) s2) ?_
            refine n_call dX12_holdsSource_79 cv_X12_155 (c_adds hi (by omega)) rfl rfl rfl ⟨(Nat.le_of_ble_eq_true rfl), (Nat.le_of_ble_eq_true rfl)⟩ rfl rfl (Nat.le_of_ble_eq_true rfl) (fun v S4 hq4 => ?_)
            obtain ⟨rfl, rfl⟩ := hq4
            have hK4 := hK3.row (n := P.flatten.length + (zpk (fun k => k % p == i) 0 (R.take k)).length) (x := q.1) (y := q.2) (by omega)
            have hB4 := hB3.row (x := q.1) (y := q.2) rfl
            refine n_inc1 dX12_holdsSource_82 rfl (by decide) ?_
            refine n_iload dX12_holdsSource_85 rfl ?_
            refine n_aload_n dX12_holdsSource_87 rfl ?_
            refine n_get dX12_holdsSource_88 fl_X12_28 rfl ?_
            refine n_iload_n dX12_holdsSource_91 rfl ?_
            rw [nI_1]
            refine n_iald (j := 6) dX12_holdsSource_92 (by decide) rfl rfl (show _ < 14 by omega) (hK4.v (by decide) hp) ?_
            refine n_iadd dX12_holdsSource_93 ?_
            rw [nI_add]
            refine n_istore dX12_holdsSource_94 (by decide) ?_
            refine n_goto (tgt := 41) dX12_holdsSource_96 (by decide) ?_
            have := ihe (k + p) _ (by omega) (by rw [Nat.add_mod_right]; exact hk) hK4 ((zSTo (by decide)).trans ((zSTo (by decide)).trans hpt3)) (by rw [skip, hit]; exact hB4) (by omega)
            rw [skip, hit, List.length_append, List.length_singleton, ← Nat.add_assoc] at this
            exact this
          · exact (by
              refine n_iload dX12_holdsSource_41 rfl ?_
              refine n_aload_n dX12_holdsSource_43 rfl ?_
              refine n_get dX12_holdsSource_44 fl_X12_37 rfl ?_
              refine n_iload_n dX12_holdsSource_47 rfl ?_
              refine n_iald (j := 9) dX12_holdsSource_48 (by decide) rfl rfl (show _ < 14 by omega) (hK3.v (by decide) hR) ?_
              refine n_icmp_ge (tgt := 99) dX12_holdsSource_49 (by decide) (fun _ => ?_) (fun q => absurd ((nI_le (by omega) (by omega))) q)
              refine n_inc1 dX12_holdsSource_99 rfl (by decide) ?_
              refine n_goto (tgt := 16) dX12_holdsSource_102 (by decide) ?_
              rw [nI_1]
              rw [List.take_of_length_le (show R.length ≤ k by omega)] at hB3 ⊢
              have e2 : (zrng (i + 1) fun i => zpk (fun k => k % p == i) 0 R) = P ++ [zpk (fun k => k % p == i) 0 R] := by rw [zrng_s, hP]
              have := ih (i + 1) S2 (some (.int (nI k))) (by omega) hK3 hpt3 (by rw [e2]; exact hB3.done)
              rw [e2, zfl1] at this
              exact this)
      have start : zpk (fun k => k % p == i) 0 (R.take i) = [] := by
        have := zpk_skip (c := fun k => k % p == i) (R := R) (a := 0) i fun k' _ h2 => by
          have : k' % p = k' := Nat.mod_eq_of_lt (by omega)
          simp [this]
          omega
        rwa [Nat.zero_add, List.take_zero] at this
      have := inner R.length i _ (by omega) (Nat.mod_eq_of_lt (by omega)) hK2 ((zSTo (by decide)).trans hpt) (by rw [start]; exact hb) (by omega)
      rw [start] at this
      exact this
  refine n_aload_n dX12_holdsSource_0 rfl ?_
  refine n_get dX12_holdsSource_1 fl_X12_46 rfl ?_
  refine n_iload_n dX12_holdsSource_4 rfl ?_
  refine n_aload_n dX12_holdsSource_5 rfl ?_
  refine n_get dX12_holdsSource_6 fl_X12_28 rfl ?_
  refine n_iload_n dX12_holdsSource_9 rfl ?_
  refine n_iald (j := 6) dX12_holdsSource_10 (by decide) rfl rfl (show _ < 14 by omega) hp ?_
  refine n_iast (j := 12) dX12_holdsSource_11 (by decide) rfl rfl (show _ < 14 by omega) ?_
  refine n_iconst (v := (nI 0)) dX12_holdsSource_12 (by decide) ?_
  refine n_istore_n dX12_holdsSource_13 (by decide) ?_
  refine n_iconst (v := (nI 0)) dX12_holdsSource_14 (by decide) ?_
  refine n_istore_n dX12_holdsSource_15 (by decide) ?_
  exact outer p 0 _ none (by omega) zKp.rf.par zSTs zBd0.nil
end
