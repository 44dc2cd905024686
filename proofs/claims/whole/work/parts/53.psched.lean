/-! stages: what is so of their states, whatever machine runs them -/
def zIv (o m bg sz tick : Nat) (S : zSS) : Prop := S.1 ≤ m ∧ bg + S.1 ≤ S.2.2.2.2.length ∧ (S.1 < m → S.2.2.2.2.length = bg + S.1) ∧
  (∀ (k : Nat) (a : zAE), S.2.2.2.2[k]? = some a → (k < bg → a.1 ≠ o) ∧ (bg ≤ k → a.1 = o ∧ a.2.1 < S.1 ∧ a.2.2.2.2.1 = S.2.1 a.2.1 ∧ (k < bg + S.1 → a.2.1 = k - bg) ∧ (bg + S.1 ≤ k → S.2.2.1 a.2.1 = true))) ∧
  (∀ k, k < sz → S.2.2.2.1 k ≤ tick ∨ ∃ p, p < S.1 ∧ S.2.2.2.1 k = S.2.1 p ∧ (zwk S.2.2.2.2 (bg + p) = k ∨ S.2.2.1 p = true)) ∧ ∀ p, S.2.2.1 p = true → p < S.1
theorem zIv.up {o m bg sz tick tick' : Nat} {S : zSS} (h : zIv o m bg sz tick S) (ht : tick ≤ tick') : zIv o m bg sz tick' S := by
  obtain ⟨h1, h2, h3, h4, h5, h6⟩ := h
  exact ⟨h1, h2, h3, h4, fun k hk => (h5 k hk).imp (fun w => Nat.le_trans w ht) id, h6⟩
theorem zIv_pt {work slow : Nat → Nat} {o m bg sz tick k : Nat} {S : zSS} (h : zIv o m bg sz tick S) (ht : S.1 < m) : zIv o m bg sz tick (zpt work slow o tick k S) := by
  obtain ⟨h1, h2, h3, h4, h5, h6⟩ := h
  obtain ⟨n, ends, cop, idle, A⟩ := S
  simp only at *
  have hA := h3 ht
  have nocop : ∀ a : zAE, ∀ j, A[j]? = some a → bg ≤ j → j < bg + n := fun a j hj _ => by have := zR_lt hj; omega
  refine ⟨ht, ?_, fun _ => ?_, fun j a hj => ?_, fun j hj => ?_, fun p hp => Nat.lt_succ_of_lt (h6 p hp)⟩
  · show bg + (n + 1) ≤ (A ++ [_]).length
    rw [List.length_append, List.length_singleton]; omega
  · show (A ++ [_]).length = bg + (n + 1)
    rw [List.length_append, List.length_singleton]; omega
  · have hj : (A ++ [(o, n, k, tick, tick + work n * slow k, false)])[j]? = some a := hj
    by_cases c : j < A.length
    · rw [List.getElem?_append_left c] at hj
      obtain ⟨g1, g2⟩ := h4 j a hj
      refine ⟨g1, fun q => ?_⟩
      obtain ⟨e1, e2, e3, e4, e5⟩ := g2 q
      refine ⟨e1, Nat.lt_succ_of_lt e2, ?_, fun _ => e4 (by omega), fun w => ?_⟩
      · show _ = zun ends n _ a.2.1
        rw [zun_n (by omega)]; exact e3
      · have w' : bg + (n + 1) ≤ j := w
        omega
    · have hl := zR_lt hj
      rw [List.length_append, List.length_singleton] at hl
      have e : j = A.length := by omega
      subst e
      rw [List.getElem?_append_right (Nat.le_refl _), Nat.sub_self] at hj
      cases hj
      refine ⟨fun q => by omega, fun _ => ⟨rfl, Nat.lt_succ_self n, ?_, fun _ => by show n = A.length - bg; omega, fun w => ?_⟩⟩
      · show _ = zun ends n _ n
        rw [zun_s]
      · have w' : bg + (n + 1) ≤ A.length := w
        omega
  · show zun idle k _ j ≤ tick ∨ ∃ p, p < n + 1 ∧ zun idle k _ j = zun ends n _ p ∧ (zwk (A ++ [_]) (bg + p) = j ∨ cop p = true)
    by_cases e : j = k
    · subst e
      refine Or.inr ⟨n, Nat.lt_succ_self n, by rw [zun_s, zun_s], Or.inl ?_⟩
      rw [zwk, List.getD_eq_getElem?_getD, List.getElem?_append_right (by omega), show bg + n - A.length = 0 by omega]
      rfl
    · rw [zun_n e]
      rcases h5 j hj with w | ⟨p, p1, p2, p3⟩
      · exact Or.inl w
      · refine Or.inr ⟨p, by omega, by rw [zun_n (by omega)]; exact p2, ?_⟩
        rw [zwk_app (by omega)]
        exact p3
theorem zIv_pc {o m bg sz tick e k p : Nat} {S : zSS} (h : zIv o m bg sz tick S) (hm : S.1 = m) (hp : p < S.1) (hc : S.2.2.1 p = false) : zIv o m bg sz tick (zpc bg o tick e k p S) := by
  obtain ⟨h1, h2, h3, h4, h5, h6⟩ := h
  obtain ⟨n, ends, cop, idle, A⟩ := S
  simp only at *
  refine ⟨h1, ?_, fun q => absurd q (by show ¬ n < m; omega), fun j a hj => ?_, fun j hj => ?_, fun q hq => ?_⟩
  · show bg + n ≤ (zse (A ++ [_]) _ _).length
    rw [zse_len, List.length_append]; omega
  · have hj : (zse (A ++ [(o, p, k, tick, e, true)]) (bg + p) e)[j]? = some a := hj
    rw [zse, List.getElem?_modify] at hj
    obtain ⟨b, hb, ea⟩ : ∃ b, (A ++ [(o, p, k, tick, e, true)])[j]? = some b ∧ a = if bg + p = j then (b.1, b.2.1, b.2.2.1, b.2.2.2.1, e, b.2.2.2.2.2) else b := by
      cases hb : (A ++ [(o, p, k, tick, e, true)])[j]? with
      | none => rw [hb] at hj; exact nomatch hj
      | some b =>
        rw [hb] at hj
        exact ⟨b, rfl, (Option.some.inj hj).symm⟩
    show (j < bg → a.1 ≠ o) ∧ (bg ≤ j → a.1 = o ∧ a.2.1 < n ∧ a.2.2.2.2.1 = zun ends p e a.2.1 ∧ (j < bg + n → a.2.1 = j - bg) ∧ (bg + n ≤ j → zor cop p a.2.1 = true))
    by_cases c : j < A.length
    · rw [List.getElem?_append_left c] at hb
      obtain ⟨g1, g2⟩ := h4 j b hb
      by_cases q : bg + p = j
      · rw [if_pos q] at ea
        subst ea
        obtain ⟨e1, e2, e3, e4, e5⟩ := g2 (by omega)
        have e6 := e4 (by omega)
        refine ⟨fun w => by omega, fun _ => ⟨e1, e2, ?_, e4, fun w => by omega⟩⟩
        show e = zun ends p e b.2.1
        rw [e6, show j - bg = p by omega, zun_s]
      · rw [if_neg q] at ea
        subst ea
        refine ⟨g1, fun w => ?_⟩
        obtain ⟨e1, e2, e3, e4, e5⟩ := g2 w
        have ne : a.2.1 ≠ p := by
          intro z
          by_cases y : j < bg + n
          · have := e4 y; omega
          · have := e5 (by omega); rw [z, hc] at this; exact nomatch this
        refine ⟨e1, e2, by rw [zun_n ne]; exact e3, e4, fun y => ?_⟩
        rw [zor, e5 y]; rfl
    · have hl := zR_lt hb
      rw [List.length_append, List.length_singleton] at hl
      have ej : j = A.length := by omega
      subst ej
      rw [List.getElem?_append_right (Nat.le_refl _), Nat.sub_self] at hb
      cases hb
      rw [if_neg (by omega)] at ea
      subst ea
      refine ⟨fun w => by omega, fun _ => ⟨rfl, hp, by rw [zun_s], fun w => by omega, fun _ => ?_⟩⟩
      simp [zor]
  · show zun (zun idle k e) _ e j ≤ tick ∨ ∃ q, q < n ∧ zun (zun idle k e) _ e j = zun ends p e q ∧ (zwk (zse (A ++ [_]) _ _) (bg + q) = j ∨ zor cop p q = true)
    have own : zun (zun idle k e) (zwk A (bg + p)) e j = e → zun (zun idle k e) (zwk A (bg + p)) e j ≤ tick ∨ ∃ q, q < n ∧ zun (zun idle k e) (zwk A (bg + p)) e j = zun ends p e q ∧ (zwk (zse (A ++ [(o, p, k, tick, e, true)]) (bg + p) e) (bg + q) = j ∨ zor cop p q = true) := fun w => Or.inr ⟨p, hp, by rw [w, zun_s], Or.inr (by simp [zor])⟩
    by_cases y : j = zwk A (bg + p)
    · exact own (by rw [y, zun_s])
    · by_cases z : j = k
      · exact own (by rw [zun_n y, z, zun_s])
      · rw [zun_n y, zun_n z]
        rcases h5 j hj with w | ⟨q, q1, q2, q3⟩
        · exact Or.inl w
        · have ne : q ≠ p := by
            intro x
            subst x
            rcases q3 with q3 | q3
            · exact y q3.symm
            · rw [hc] at q3; exact nomatch q3
          refine Or.inr ⟨q, q1, by rw [zun_n ne]; exact q2, ?_⟩
          rw [zwk_se, zwk_app (by omega)]
          exact q3.imp id fun w => by rw [zor, w]; rfl
  · have hq : zor cop p q = true := hq
    rcases zor_iff.mp hq with w | w
    · exact h6 q w
    · rw [w]; exact hp
-- ends that count
theorem zec_ext {ends ends' : Nat → Nat} {tick : Nat} : ∀ n, (∀ p, p < n → (ends p ≤ tick ↔ ends' p ≤ tick)) → zec ends tick n = zec ends' tick n
  | 0, _ => rfl
  | n + 1, h => by
    rw [zec, zec, zec_ext n fun p hp => h p (by omega)]
    congr 1
    by_cases c : ends n ≤ tick
    · rw [if_pos c, if_pos ((h n (by omega)).mp c)]
    · rw [if_neg c, if_neg (fun w => c ((h n (by omega)).mpr w))]
theorem zec_full {ends : Nat → Nat} {tick : Nat} : ∀ n, zec ends tick n = n ↔ ∀ p, p < n → ends p ≤ tick
  | 0 => ⟨fun _ p hp => absurd hp (Nat.not_lt_zero _), fun _ => rfl⟩
  | n + 1 => by
    have ih := zec_full (ends := ends) (tick := tick) n
    have := zec_le ends tick n
    rw [zec]
    constructor
    · intro h p hp
      by_cases c : ends n ≤ tick
      · rw [if_pos c] at h
        by_cases e : p = n
        · subst e; exact c
        · exact ih.mp (by omega) p (by omega)
      · rw [if_neg c] at h; omega
    · intro h
      rw [if_pos (h n (by omega)), ih.mpr fun p hp => h p (by omega)]
theorem zec_mono {ends : Nat → Nat} {a b : Nat} (h : a ≤ b) : ∀ n, zec ends a n ≤ zec ends b n
  | 0 => Nat.le_refl _
  | n + 1 => by
    have := zec_mono (ends := ends) h n
    rw [zec, zec]
    by_cases c : ends n ≤ a
    · rw [if_pos c, if_pos (Nat.le_trans c h)]; omega
    · rw [if_neg c]; omega
theorem zec_lt {ends : Nat → Nat} {a b p : Nat} (h : a ≤ b) (h1 : a < ends p) (h2 : ends p ≤ b) : ∀ n, p < n → zec ends a n + 1 ≤ zec ends b n
  | 0, hp => absurd hp (Nat.not_lt_zero _)
  | n + 1, hp => by
    rw [zec, zec]
    by_cases e : p = n
    · subst e
      have := zec_mono (ends := ends) h p
      rw [if_neg (by omega), if_pos h2]
      omega
    · have := zec_lt h h1 h2 n (by omega)
      by_cases c : ends n ≤ a
      · rw [if_pos c, if_pos (Nat.le_trans c h)]; omega
      · rw [if_neg c]; omega
theorem zea_spec {ends : Nat → Nat} {tick : Nat} : ∀ n, (zea ends tick n = tick ∧ ∀ p, p < n → ends p ≤ tick) ∨ (tick < zea ends tick n ∧ (∃ p, p < n ∧ ends p = zea ends tick n) ∧ ∀ p, p < n → tick < ends p → zea ends tick n ≤ ends p)
  | 0 => Or.inl ⟨rfl, fun p hp => absurd hp (Nat.not_lt_zero _)⟩
  | n + 1 => by
    rw [zea]
    rcases zea_spec (ends := ends) (tick := tick) n with ⟨e, h⟩ | ⟨e1, ⟨p0, e2, e3⟩, e4⟩
    · by_cases c : tick < ends n
      · rw [if_pos ⟨c, Or.inl e⟩]
        refine Or.inr ⟨c, ⟨n, Nat.lt_succ_self n, rfl⟩, fun p hp hp2 => ?_⟩
        by_cases q : p = n
        · subst q; exact Nat.le_refl _
        · have := h p (by omega); omega
      · rw [if_neg (fun w => c w.1)]
        refine Or.inl ⟨e, fun p hp => ?_⟩
        by_cases q : p = n
        · subst q; omega
        · exact h p (by omega)
    · by_cases c : tick < ends n ∧ (zea ends tick n = tick ∨ ends n < zea ends tick n)
      · rw [if_pos c]
        refine Or.inr ⟨c.1, ⟨n, Nat.lt_succ_self n, rfl⟩, fun p hp hp2 => ?_⟩
        by_cases q : p = n
        · subst q; exact Nat.le_refl _
        · have := e4 p (by omega) hp2; omega
      · rw [if_neg c]
        refine Or.inr ⟨e1, ⟨p0, by omega, e3⟩, fun p hp hp2 => ?_⟩
        by_cases q : p = n
        · subst q
          by_cases z : zea ends tick p ≤ ends p
          · exact z
          · exact absurd ⟨hp2, Or.inr (by omega)⟩ c
        · exact e4 p (by omega) hp2
/-- some worker took something -/
def zlt (work slow : Nat → Nat) (m o bg tick : Nat) (half : Bool) : Nat → zSS → Bool
  | 0, _ => false
  | k + 1, S => zlt work slow m o bg tick half k S || (decide ((zlk work slow m o bg tick half k S).1.2.2.2.1 k ≤ tick ∧ (zlk work slow m o bg tick half k S).1.1 < m) || (zpw work slow m o bg tick half k (zlk work slow m o bg tick half k S).1).2)
/-- what a turn of a worker leaves -/
theorem zpw_keep {work slow : Nat → Nat} {m o bg tick k sz : Nat} {half : Bool} {S : zSS} (h : zIv o m bg sz tick S) (hw : ∀ p, 1 ≤ work p) (hs : 1 ≤ slow k) :
    zIv o m bg sz tick (zpw work slow m o bg tick half k S).1 ∧ zec (zpw work slow m o bg tick half k S).1.2.1 tick (zpw work slow m o bg tick half k S).1.1 = zec S.2.1 tick S.1 ∧ S.1 ≤ (zpw work slow m o bg tick half k S).1.1 ∧
    (∀ p, p < S.1 → tick < S.2.1 p → tick < (zpw work slow m o bg tick half k S).1.2.1 p) ∧ (∀ p, S.1 ≤ p → p < (zpw work slow m o bg tick half k S).1.1 → tick < (zpw work slow m o bg tick half k S).1.2.1 p) ∧
    ((zpw work slow m o bg tick half k S).1.1 < m → tick < (zpw work slow m o bg tick half k S).1.2.2.2.1 k) ∧ (∀ j, tick < S.2.2.2.1 j → tick < (zpw work slow m o bg tick half k S).1.2.2.2.1 j) ∧
    zcn S.2.2.1 8 + (zpw work slow m o bg tick half k S).2.toNat ≤ zcn (zpw work slow m o bg tick half k S).1.2.2.1 8 + (if m ≤ 8 then 0 else 1) := by
  have hwk : ∀ p, tick < tick + work p * slow k := fun p => by
    have := Nat.mul_le_mul (hw p) hs
    omega
  unfold zpw
  by_cases c1 : S.2.2.2.1 k ≤ tick
  · rw [if_pos c1]
    by_cases c2 : S.1 < m
    · rw [if_pos c2]
      have e0 : (zpt work slow o tick k S).2.1 = zun S.2.1 S.1 (tick + work S.1 * slow k) := rfl
      refine ⟨zIv_pt h c2, ?_, Nat.le_succ _, fun p hp hp2 => ?_, fun p hp hp2 => ?_, fun _ => ?_, fun j hj => ?_, by show zcn S.2.2.1 8 + 0 ≤ zcn S.2.2.1 8 + _; omega⟩
      · show zec (zun S.2.1 S.1 _) tick (S.1 + 1) = _
        rw [zec, zun_s, if_neg (by have := hwk S.1; omega), Nat.add_zero]
        exact zec_ext _ fun p hp => by rw [zun_n (by omega)]
      · rw [e0, zun_n (by omega)]; exact hp2
      · have hp2 : p < S.1 + 1 := hp2
        have e : p = S.1 := by omega
        rw [e0, e, zun_s]
        exact hwk _
      · show tick < zun S.2.2.2.1 k _ k
        rw [zun_s]; exact hwk _
      · show tick < zun S.2.2.2.1 k _ j
        by_cases e : j = k
        · subst e; rw [zun_s]; exact hwk _
        · rw [zun_n e]; exact hj
    · rw [if_neg c2]
      have em : S.1 = m := by have := h.1; omega
      by_cases c3 : half = true ∧ (zlw S.2.1 S.2.2.1 tick m S.1).1 < m ∧ tick + work (zlw S.2.1 S.2.2.1 tick m S.1).1 * slow k < S.2.1 (zlw S.2.1 S.2.2.1 tick m S.1).1
      · rw [if_pos c3]
        rcases zlw_cop (ends := S.2.1) (cop := S.2.2.1) (tick := tick) (m := m) S.1 with e | ⟨e1, e2, e3, e4⟩
        · have := c3.2.1; rw [e] at this; exact absurd this (Nat.lt_irrefl m)
        · obtain ⟨-, -, c4⟩ := c3
          generalize (zlw S.2.1 S.2.2.1 tick m S.1).1 = p at *
          have hwp := hwk p
          generalize tick + work p * slow k = e at *
          have x0 : (zpc bg o tick e k p S).2.1 = zun S.2.1 p e := rfl
          refine ⟨zIv_pc h em e2 e1, ?_, Nat.le_refl _, fun q hq hq2 => ?_, fun q hq hq2 => absurd hq2 (by show ¬ q < S.1; omega), fun w => absurd w c2, fun j hj => ?_, ?_⟩
          · show zec (zun S.2.1 p e) tick S.1 = _
            refine zec_ext _ fun q hq => ?_
            by_cases y : q = p
            · subst y; rw [zun_s]; omega
            · rw [zun_n y]
          · rw [x0]
            by_cases y : q = p
            · subst y; rw [zun_s]; exact hwp
            · rw [zun_n y]; exact hq2
          · show tick < zun (zun S.2.2.2.1 k e) _ e j
            by_cases y : j = zwk S.2.2.2.2 (bg + p)
            · rw [y, zun_s]; exact hwp
            · rw [zun_n y]
              by_cases z : j = k
              · rw [z, zun_s]; exact hwp
              · rw [zun_n z]; exact hj
          · show zcn S.2.2.1 8 + 1 ≤ zcn (zor S.2.2.1 p) 8 + _
            rw [zcn_or e1]
            by_cases y : m ≤ 8
            · rw [if_pos y, if_pos (by omega)]; omega
            · rw [if_neg y]; omega
      · rw [if_neg c3]
        exact ⟨h, rfl, Nat.le_refl _, fun _ _ w => w, fun p a b => absurd b (by show ¬ p < S.1; omega), fun w => absurd w c2, fun _ w => w, Nat.le_add_right _ _⟩
  · rw [if_neg c1]
    exact ⟨h, rfl, Nat.le_refl _, fun _ _ w => w, fun p a b => absurd b (by show ¬ p < S.1; omega), fun _ => by show tick < S.2.2.2.1 k; omega, fun _ w => w, Nat.le_add_right _ _⟩
/-- what a look leaves -/
theorem zlk_keep {work slow : Nat → Nat} {m o bg tick sz : Nat} {half : Bool} {S : zSS} (h : zIv o m bg sz tick S) (hm : m ≤ 8) (hw : ∀ p, 1 ≤ work p) (hs : ∀ k, k < 4 → 1 ≤ slow k) : ∀ k, k ≤ 4 →
    zIv o m bg sz tick (zlk work slow m o bg tick half k S).1 ∧ zec (zlk work slow m o bg tick half k S).1.2.1 tick (zlk work slow m o bg tick half k S).1.1 = zec S.2.1 tick S.1 ∧ S.1 ≤ (zlk work slow m o bg tick half k S).1.1 ∧
    (∀ p, p < S.1 → tick < S.2.1 p → tick < (zlk work slow m o bg tick half k S).1.2.1 p) ∧ (∀ p, S.1 ≤ p → p < (zlk work slow m o bg tick half k S).1.1 → tick < (zlk work slow m o bg tick half k S).1.2.1 p) ∧
    ((zlk work slow m o bg tick half k S).1.1 < m → ∀ j, j < k → tick < (zlk work slow m o bg tick half k S).1.2.2.2.1 j) ∧
    zcn S.2.2.1 8 + (zlk work slow m o bg tick half k S).2.toNat ≤ zcn (zlk work slow m o bg tick half k S).1.2.2.1 8
  | 0, _ => ⟨h, rfl, Nat.le_refl _, fun _ _ w => w, fun p a b => absurd b (by show ¬ p < S.1; omega), fun _ j hj => absurd hj (Nat.not_lt_zero _), Nat.le_refl _⟩
  | k + 1, hk => by
    obtain ⟨g1, g2, g3, g4, g5, g6, g7⟩ := zlk_keep (half := half) h hm hw hs k (by omega)
    obtain ⟨p1, p2, p3, p4, p5, p6, p7, p8⟩ := zpw_keep (half := half) (k := k) g1 hw (hs k (by omega))
    rw [if_pos hm, Nat.add_zero] at p8
    simp only [zlk]
    refine ⟨p1, p2.trans g2, Nat.le_trans g3 p3, fun p a b => p4 p (by omega) (g4 p a b), fun p a b => ?_, fun w j hj => ?_, ?_⟩
    · by_cases c : p < (zlk work slow m o bg tick half k S).1.1
      · exact p4 p c (g5 p a c)
      · exact p5 p (by omega) b
    · by_cases e : j = k
      · subst e; exact p6 w
      · exact p7 j (g6 (by omega) j (by omega))
    · have key : ∀ a b : Bool, (a || b).toNat ≤ a.toNat + b.toNat := by decide
      have := key (zlk work slow m o bg tick half k S).2 (zpw work slow m o bg tick half k (zlk work slow m o bg tick half k S).1).2
      omega
/-- a look in which nothing is taken changes nothing, and a tick later nothing is taken either, if nothing ends then -/
theorem zlk_none {work slow : Nat → Nat} {m o bg tick : Nat} {half : Bool} {S : zSS} (h : ∀ k, S.2.2.2.1 k ≤ tick → ¬ S.1 < m ∧ ¬ (half = true ∧ (zlw S.2.1 S.2.2.1 tick m S.1).1 < m ∧ tick + work (zlw S.2.1 S.2.2.1 tick m S.1).1 * slow k < S.2.1 (zlw S.2.1 S.2.2.1 tick m S.1).1) ∨ 4 ≤ k) : ∀ k, k ≤ 4 → zlk work slow m o bg tick half k S = (S, false) ∧ zlt work slow m o bg tick half k S = false
  | 0, _ => ⟨rfl, rfl⟩
  | k + 1, hk => by
    obtain ⟨e1, e2⟩ := zlk_none h k (by omega)
    have e3 : zpw work slow m o bg tick half k S = (S, false) := by
      unfold zpw
      by_cases c1 : S.2.2.2.1 k ≤ tick
      · rcases h k c1 with ⟨q1, q2⟩ | q
        · rw [if_pos c1, if_neg q1, if_neg q2]
        · omega
      · rw [if_neg c1]
    have e4 : zlk work slow m o bg tick half (k + 1) S = ((zpw work slow m o bg tick half k (zlk work slow m o bg tick half k S).1).1, (zlk work slow m o bg tick half k S).2 || (zpw work slow m o bg tick half k (zlk work slow m o bg tick half k S).1).2) := rfl
    have e5 : zlt work slow m o bg tick half (k + 1) S = (zlt work slow m o bg tick half k S || (decide ((zlk work slow m o bg tick half k S).1.2.2.2.1 k ≤ tick ∧ (zlk work slow m o bg tick half k S).1.1 < m) || (zpw work slow m o bg tick half k (zlk work slow m o bg tick half k S).1).2)) := rfl
    rw [e1] at e4 e5
    simp only at e4 e5
    rw [e3] at e4 e5
    rw [e2] at e5
    refine ⟨e4, ?_⟩
    rw [e5, Bool.false_or, Bool.or_false]
    refine decide_eq_false ?_
    rintro ⟨c1, c2⟩
    rcases h k c1 with ⟨q1, -⟩ | q
    · exact q1 c2
    · omega
theorem zlw_ext {ends : Nat → Nat} {cop : Nat → Bool} {a b m : Nat} (h : a ≤ b) : ∀ n, (∀ p, p < n → (ends p ≤ a ↔ ends p ≤ b)) → (zlw ends cop a m n = (m, a) ∧ zlw ends cop b m n = (m, b)) ∨ (zlw ends cop a m n = zlw ends cop b m n ∧ b < (zlw ends cop b m n).2)
  | 0, _ => Or.inl ⟨rfl, rfl⟩
  | n + 1, hp => by
    have hn := hp n (by omega)
    rw [zlw, zlw]
    rcases zlw_ext h n fun p q => hp p (by omega) with ⟨e1, e2⟩ | ⟨e1, e2⟩
    · rw [e1, e2]
      simp only
      by_cases c : cop n = false ∧ a < ends n
      · rw [if_pos c, if_pos ⟨c.1, by omega⟩]
        exact Or.inr ⟨rfl, by show b < ends n; omega⟩
      · rw [if_neg c, if_neg (fun w => c ⟨w.1, by omega⟩)]
        exact Or.inl ⟨rfl, rfl⟩
    · rw [e1]
      by_cases c : cop n = false ∧ (zlw ends cop b m n).2 < ends n
      · rw [if_pos c]
        exact Or.inr ⟨rfl, by show b < ends n; omega⟩
      · rw [if_neg c]
        exact Or.inr ⟨rfl, e2⟩
