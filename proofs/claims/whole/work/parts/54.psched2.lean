/-! stages: ticks at which nothing can happen -/
theorem zlk_non {work slow : Nat → Nat} {m o bg tick sz : Nat} {half : Bool} {S : zSS} (h : ∀ k, k < sz → S.2.2.2.1 k ≤ tick → ¬ S.1 < m ∧ ¬ (half = true ∧ (zlw S.2.1 S.2.2.1 tick m S.1).1 < m ∧ tick + work (zlw S.2.1 S.2.2.1 tick m S.1).1 * slow k < S.2.1 (zlw S.2.1 S.2.2.1 tick m S.1).1)) : ∀ k, k ≤ sz → zlk work slow m o bg tick half k S = (S, false) ∧ zlt work slow m o bg tick half k S = false
  | 0, _ => ⟨rfl, rfl⟩
  | k + 1, hk => by
    obtain ⟨e1, e2⟩ := zlk_non h k (by omega)
    have e3 : zpw work slow m o bg tick half k S = (S, false) := by
      unfold zpw
      by_cases c1 : S.2.2.2.1 k ≤ tick
      · obtain ⟨q1, q2⟩ := h k (by omega) c1
        rw [if_pos c1, if_neg q1, if_neg q2]
      · rw [if_neg c1]
    have e4 : zlk work slow m o bg tick half (k + 1) S = ((zpw work slow m o bg tick half k (zlk work slow m o bg tick half k S).1).1, (zlk work slow m o bg tick half k S).2 || (zpw work slow m o bg tick half k (zlk work slow m o bg tick half k S).1).2) := rfl
    have e5 : zlt work slow m o bg tick half (k + 1) S = (zlt work slow m o bg tick half k S || (decide ((zlk work slow m o bg tick half k S).1.2.2.2.1 k ≤ tick ∧ (zlk work slow m o bg tick half k S).1.1 < m) || (zpw work slow m o bg tick half k (zlk work slow m o bg tick half k S).1).2)) := rfl
    rw [e1] at e4 e5
    simp only at e4 e5
    rw [e3] at e4 e5
    rw [e2] at e5
    refine ⟨e4, ?_⟩
    rw [e5, Bool.false_or, Bool.or_false]
    exact decide_eq_false fun w => (h k (by omega) w.1).1 w.2
/-- who is idle behind a look without copies has refused -/
theorem zlk_ref {work slow : Nat → Nat} {m o bg tick sz : Nat} {half : Bool} {S : zSS} (h : zIv o m bg sz tick S) (hm : m ≤ 8) (hw : ∀ p, 1 ≤ work p) (hs : ∀ k, k < 4 → 1 ≤ slow k) : ∀ k, k ≤ 4 → (zlk work slow m o bg tick half k S).2 = false →
    ∀ j, j < k → (zlk work slow m o bg tick half k S).1.2.2.2.1 j ≤ tick → ¬ (half = true ∧ (zlw (zlk work slow m o bg tick half k S).1.2.1 (zlk work slow m o bg tick half k S).1.2.2.1 tick m (zlk work slow m o bg tick half k S).1.1).1 < m ∧ tick + work (zlw (zlk work slow m o bg tick half k S).1.2.1 (zlk work slow m o bg tick half k S).1.2.2.1 tick m (zlk work slow m o bg tick half k S).1.1).1 * slow j < (zlk work slow m o bg tick half k S).1.2.1 (zlw (zlk work slow m o bg tick half k S).1.2.1 (zlk work slow m o bg tick half k S).1.2.2.1 tick m (zlk work slow m o bg tick half k S).1.1).1)
  | 0, _, _, j, hj, _ => absurd hj (Nat.not_lt_zero _)
  | k + 1, hk, hc, j, hj, hidle => by
    have e4 : zlk work slow m o bg tick half (k + 1) S = ((zpw work slow m o bg tick half k (zlk work slow m o bg tick half k S).1).1, (zlk work slow m o bg tick half k S).2 || (zpw work slow m o bg tick half k (zlk work slow m o bg tick half k S).1).2) := rfl
    rw [e4] at hc hidle ⊢
    simp only [Bool.or_eq_false_iff] at hc hidle ⊢
    have ih := zlk_ref (half := half) h hm hw hs k (by omega) hc.1
    obtain ⟨g1, -, -, -, -, g6, -⟩ := zlk_keep (half := half) h hm hw hs k (by omega)
    obtain ⟨-, -, -, -, -, p6, p7, -⟩ := zpw_keep (half := half) (k := k) g1 hw (hs k (by omega))
    generalize (zlk work slow m o bg tick half k S).1 = U at *
    have hwk : ∀ p, tick < tick + work p * slow k := fun p => by
      have := Nat.mul_le_mul (hw p) (hs k (by omega))
      omega
    have two := hc.2
    unfold zpw at two hidle p6 p7 ⊢
    by_cases c1 : U.2.2.2.1 k ≤ tick
    · rw [if_pos c1] at two hidle p6 p7 ⊢
      by_cases c2 : U.1 < m
      · rw [if_pos c2] at hidle p7
        by_cases e : j = k
        · subst e
          have : zun U.2.2.2.1 j (tick + work U.1 * slow j) j ≤ tick := hidle
          rw [zun_s] at this
          have := hwk U.1
          omega
        · have hid : zun U.2.2.2.1 k (tick + work U.1 * slow k) j ≤ tick := hidle
          rw [zun_n e] at hid
          have := g6 c2 j (by omega)
          omega
      · rw [if_neg c2] at two hidle ⊢
        by_cases c3 : half = true ∧ (zlw U.2.1 U.2.2.1 tick m U.1).1 < m ∧ tick + work (zlw U.2.1 U.2.2.1 tick m U.1).1 * slow k < U.2.1 (zlw U.2.1 U.2.2.1 tick m U.1).1
        · rw [if_pos c3] at two; exact nomatch two
        · rw [if_neg c3] at hidle ⊢
          by_cases e : j = k
          · subst e; exact c3
          · exact ih j (by omega) hidle
    · rw [if_neg c1] at hidle ⊢
      by_cases e : j = k
      · subst e; exact absurd hidle c1
      · exact ih j (by omega) hidle
theorem zlt_of {work slow : Nat → Nat} {m o bg tick : Nat} {half : Bool} {S : zSS} : ∀ k, (zlk work slow m o bg tick half k S).2 = true → zlt work slow m o bg tick half k S = true
  | 0, h => nomatch h
  | k + 1, h => by
    have h : ((zlk work slow m o bg tick half k S).2 || (zpw work slow m o bg tick half k (zlk work slow m o bg tick half k S).1).2) = true := h
    show (zlt work slow m o bg tick half k S || (decide _ || (zpw work slow m o bg tick half k (zlk work slow m o bg tick half k S).1).2)) = true
    rcases Bool.or_eq_true _ _ ▸ h with w | w
    · rw [zlt_of k w]; rfl
    · rw [w, Bool.or_true, Bool.or_true]
section
variable {work slow : Nat → Nat} {m o bg tick sz : Nat} {S : zSS}
/-- while a stage goes on, something ends later -/
theorem zsim_go (h : zIv o m bg sz tick S) (hm : m ≤ 8) (h1 : 1 ≤ sz) (h4 : sz ≤ 4) (hw : ∀ p, 1 ≤ work p) (hs : ∀ k, k < 4 → 1 ≤ slow k) {half : Bool} (hz : zec S.2.1 tick S.1 < m) : ∃ p, p < (zlk work slow m o bg tick half sz S).1.1 ∧ tick < (zlk work slow m o bg tick half sz S).1.2.1 p := by
  obtain ⟨g1, g2, g3, g4, g5, g6, -⟩ := zlk_keep (half := half) h hm hw hs sz h4
  by_cases c : ∃ p, p < (zlk work slow m o bg tick half sz S).1.1 ∧ tick < (zlk work slow m o bg tick half sz S).1.2.1 p
  · exact c
  · have all : ∀ p, p < (zlk work slow m o bg tick half sz S).1.1 → (zlk work slow m o bg tick half sz S).1.2.1 p ≤ tick := fun p hp => Nat.not_lt.mp fun w => c ⟨p, hp, w⟩
    have e := (zec_full _).mpr all
    have hlt : (zlk work slow m o bg tick half sz S).1.1 < m := by omega
    have hi := g6 hlt 0 (by omega)
    rcases g1.2.2.2.2.1 0 (by omega) with w | ⟨p, p1, p2, -⟩
    · omega
    · exact ⟨p, p1, by omega⟩
/-- where a stage has ended, nothing is taken -/
theorem zsim_end (h : zIv o m bg sz tick S) (h4 : sz ≤ 4) {half : Bool} (hz : zec S.2.1 tick S.1 = m) : zlk work slow m o bg tick half sz S = (S, false) ∧ zlt work slow m o bg tick half sz S = false ∧ S.1 = m ∧ ∀ p, p < m → S.2.1 p ≤ tick := by
  have hle := zec_le S.2.1 tick S.1
  have h1 := h.1
  have en : S.1 = m := by omega
  rw [en] at hz
  have all := (zec_full m).mp hz
  have no : ∀ k, ¬ (half = true ∧ (zlw S.2.1 S.2.2.1 tick m S.1).1 < m ∧ tick + work (zlw S.2.1 S.2.2.1 tick m S.1).1 * slow k < S.2.1 (zlw S.2.1 S.2.2.1 tick m S.1).1) := by
    intro k w
    rcases zlw_cop (ends := S.2.1) (cop := S.2.2.1) (tick := tick) (m := m) S.1 with e | ⟨-, e2, e3, e4⟩
    · have := w.2.1; rw [e] at this; exact absurd this (Nat.lt_irrefl m)
    · have := all _ (by rw [← en]; exact e2); omega
  obtain ⟨a, b⟩ := zlk_non (work := work) (slow := slow) (o := o) (bg := bg) (half := half) (S := S) (m := m) (tick := tick) (sz := sz) (fun k hk _ => ⟨by omega, no k⟩) sz (Nat.le_refl _)
  exact ⟨a, b, en, all⟩
/-- the tick behind a look without copies, if nothing ends at it -/
theorem zsim_skip (h : zIv o m bg sz tick S) (hm : m ≤ 8) (h1 : 1 ≤ sz) (h4 : sz ≤ 4) (hw : ∀ p, 1 ≤ work p) (hs : ∀ k, k < 4 → 1 ≤ slow k) (hz : zec S.2.1 tick S.1 < m) {S' : zSS} (hS : S' = (zlk work slow m o bg tick (zhf m tick S) sz S).1) (hc : (zlk work slow m o bg tick (zhf m tick S) sz S).2 = false) (he : tick + 1 < zea S'.2.1 tick S'.1) :
    zlk work slow m o bg (tick + 1) (zhf m (tick + 1) S') sz S' = (S', false) ∧ zlt work slow m o bg (tick + 1) (zhf m (tick + 1) S') sz S' = false ∧ zea S'.2.1 (tick + 1) S'.1 = zea S'.2.1 tick S'.1 := by
  obtain ⟨g1, g2, g3, g4, g5, g6, -⟩ := zlk_keep (half := zhf m tick S) h hm hw hs sz h4
  have ref := zlk_ref (half := zhf m tick S) h hm hw hs sz h4 hc
  rw [← hS] at g1 g2 g3 g4 g5 g6 ref
  rcases zea_spec (ends := S'.2.1) (tick := tick) S'.1 with ⟨e1, -⟩ | ⟨e1, ⟨p0, e2, e3⟩, e4⟩
  · omega
  · have gap : ∀ p, p < S'.1 → (S'.2.1 p ≤ tick ↔ S'.2.1 p ≤ tick + 1) := fun p hp => ⟨fun w => by omega, fun w => Nat.not_lt.mp fun w2 => by have := e4 p hp w2; omega⟩
    have hec : zec S'.2.1 (tick + 1) S'.1 = zec S'.2.1 tick S'.1 := by
      have : ∀ n, n ≤ S'.1 → zec S'.2.1 (tick + 1) n = zec S'.2.1 tick n := by
        intro n
        induction n with
        | zero => intro _; rfl
        | succ n ih =>
          intro hn
          rw [zec, zec, ih (by omega)]
          congr 1
          by_cases c : S'.2.1 n ≤ tick
          · rw [if_pos c, if_pos ((gap n (by omega)).mp c)]
          · rw [if_neg c, if_neg fun w => c ((gap n (by omega)).mpr w)]
      exact this _ (Nat.le_refl _)
    have hhalf : zhf m (tick + 1) S' = zhf m tick S := by unfold zhf; rw [hec, g2]
    have idle : ∀ k, k < sz → S'.2.2.2.1 k ≤ tick + 1 → S'.2.2.2.1 k ≤ tick := fun k hk w => by
      rcases g1.2.2.2.2.1 k hk with z | ⟨p, p1, p2, -⟩
      · exact z
      · rw [p2] at w ⊢; exact (gap p p1).mpr w
    have no : ∀ k, k < sz → S'.2.2.2.1 k ≤ tick + 1 → ¬ S'.1 < m ∧ ¬ (zhf m tick S = true ∧ (zlw S'.2.1 S'.2.2.1 (tick + 1) m S'.1).1 < m ∧ tick + 1 + work (zlw S'.2.1 S'.2.2.1 (tick + 1) m S'.1).1 * slow k < S'.2.1 (zlw S'.2.1 S'.2.2.1 (tick + 1) m S'.1).1) := by
      intro k hk hi
      have hi' := idle k hk hi
      refine ⟨fun w => by have := g6 w k hk; omega, fun w => ?_⟩
      have r := ref k hk hi'
      rcases zlw_ext (ends := S'.2.1) (cop := S'.2.2.1) (m := m) (show tick ≤ tick + 1 by omega) S'.1 gap with ⟨-, q2⟩ | ⟨q1, -⟩
      · have := w.2.1; rw [q2] at this; exact absurd this (Nat.lt_irrefl m)
      · rw [q1] at r
        exact r ⟨w.1, w.2.1, by omega⟩
    obtain ⟨a, b⟩ := zlk_non (work := work) (slow := slow) (o := o) (bg := bg) (half := zhf m tick S) (S := S') (m := m) (tick := tick + 1) (sz := sz) no sz (Nat.le_refl _)
    refine ⟨by rw [hhalf]; exact a, by rw [hhalf]; exact b, ?_⟩
    rcases zea_spec (ends := S'.2.1) (tick := tick + 1) S'.1 with ⟨-, f2⟩ | ⟨f1, ⟨p1, f2, f3⟩, f4⟩
    · have := f2 p0 e2; omega
    · have := e4 p1 f2 (by omega)
      have := f4 p0 e2 (by omega)
      omega
end
