/-! the attempts of a run: what is so of them, one stage after the other -/
theorem zIv_up {o m bg sz tick tick' : Nat} {S : zSS} (h : zIv o m bg sz tick S) (ht : tick ≤ tick') : zIv o m bg sz tick' S := by
  obtain ⟨h1, h2, h3, h4, h5, h6⟩ := h
  exact ⟨h1, h2, h3, h4, fun k hk => (h5 k hk).imp (fun w => Nat.le_trans w ht) id, h6⟩
theorem zapp_get {α : Type} {A : List α} {x a : α} {k : Nat} (h : (A ++ [x])[k]? = some a) : (k < A.length ∧ A[k]? = some a) ∨ (k = A.length ∧ a = x) := by
  by_cases c : k < A.length
  · rw [List.getElem?_append_left c] at h
    exact Or.inl ⟨c, h⟩
  · have hl := zR_lt h
    rw [List.length_append, List.length_singleton] at hl
    have e : k = A.length := by omega
    subst e
    rw [List.getElem?_append_right (Nat.le_refl _), Nat.sub_self] at h
    cases h
    exact Or.inr ⟨rfl, rfl⟩
theorem zse_get {A : List zAE} {j e k : Nat} {a : zAE} (h : (zse A j e)[k]? = some a) : ∃ b, A[k]? = some b ∧ a = if j = k then (b.1, b.2.1, b.2.2.1, b.2.2.2.1, e, b.2.2.2.2.2) else b := by
  rw [zse, List.getElem?_modify] at h
  cases hb : A[k]? with
  | none => rw [hb] at h; exact nomatch h
  | some b =>
    rw [hb] at h
    exact ⟨b, rfl, (Option.some.inj h).symm⟩
/-- the attempts of a stage, while it goes on -/
def zIx (A0 : List zAE) (o m bg sz b0 tick n : Nat) (ends : Nat → Nat) (cop : Nat → Bool) (idle : Nat → Nat) (A : List zAE) : Prop :=
  n ≤ m ∧ A.length = bg + n + zcn cop 8 ∧ (n < m → zcn cop 8 = 0) ∧ (∀ p, cop p = true → p < n) ∧ (∀ j, j < bg → A[j]? = A0[j]?) ∧
  (∀ (k : Nat) (a : zAE), A[k]? = some a → bg ≤ k → (a.1 = o ∧ a.2.1 < n ∧ a.2.2.1 < sz ∧ b0 ≤ a.2.2.2.1 ∧ a.2.2.2.1 ≤ tick ∧ a.2.2.2.1 < a.2.2.2.2.1) ∧ a.2.2.2.2.1 = ends a.2.1 ∧ a.2.2.2.2.1 ≤ idle a.2.2.1 ∧ (k < bg + n → a.2.1 = k - bg ∧ a.2.2.2.2.2 = false) ∧ (bg + n ≤ k → cop a.2.1 = true ∧ a.2.2.2.2.2 = true ∧ zwk A (bg + a.2.1) ≠ a.2.2.1)) ∧
  (∀ (i k : Nat) (a c : zAE), A[i]? = some a → A[k]? = some c → bg ≤ i → i < k → a.2.2.2.1 ≤ c.2.2.2.1 ∧ (a.2.2.1 = c.2.2.1 → a.2.2.2.2.1 ≤ c.2.2.2.1) ∧ (bg + n ≤ i → a.2.1 ≠ c.2.1))
def zIw (A0 : List zAE) (o m bg sz b0 tick : Nat) (S : zSS) : Prop := zIx A0 o m bg sz b0 tick S.1 S.2.1 S.2.2.1 S.2.2.2.1 S.2.2.2.2
theorem zIw.up {A0 : List zAE} {o m bg sz b0 tick tick' : Nat} {S : zSS} (h : zIw A0 o m bg sz b0 tick S) (ht : tick ≤ tick') : zIw A0 o m bg sz b0 tick' S := by
  obtain ⟨h1, h2, h3, h4, h5, h6, h7⟩ := h
  refine ⟨h1, h2, h3, h4, h5, fun k a hk hb => ?_, h7⟩
  obtain ⟨⟨g1, g2, g3, g4, g5, g6⟩, g7⟩ := h6 k a hk hb
  exact ⟨⟨g1, g2, g3, g4, by omega, g6⟩, g7⟩
theorem zIw_0 {A : List zAE} {o m sz b0 : Nat} : zIw A o m A.length sz b0 b0 (0, fun _ => 0, fun _ => false, fun _ => b0, A) := by
  have e0 : zcn (fun _ => false) 8 = 0 := by decide
  show zIx A o m A.length sz b0 b0 0 (fun _ => 0) (fun _ => false) (fun _ => b0) A
  refine ⟨Nat.zero_le _, by rw [e0]; rfl, fun _ => e0, fun p hp => (nomatch hp), fun j _ => rfl, fun k a hk hb => ?_, fun i k a c hi hk hb hik => ?_⟩
  · have := zR_lt hk
    have hk' : k < A.length := this
    omega
  · have := zR_lt hi
    have hk' : i < A.length := this
    omega
theorem zIw_pt {A0 : List zAE} {work slow : Nat → Nat} {o m bg sz b0 tick k : Nat} {S : zSS} (h : zIw A0 o m bg sz b0 tick S) (hb0 : b0 ≤ tick) (ht : S.1 < m) (hk : k < sz) (hid : S.2.2.2.1 k ≤ tick) (hw : 1 ≤ work S.1) (hs : 1 ≤ slow k) : zIw A0 o m bg sz b0 tick (zpt work slow o tick k S) := by
  have hwk : tick < tick + work S.1 * slow k := by have := Nat.mul_le_mul hw hs; omega
  obtain ⟨h1, h2, h3, h4, h5, h6, h7⟩ := h
  obtain ⟨n, ends, cop, idle, A⟩ := S
  unfold zpt
  simp only at *
  have h0 := h3 ht
  generalize tick + work n * slow k = e at *
  have hA : A.length = bg + n := by omega
  show zIx A0 o m bg sz b0 tick (n + 1) (zun ends n e) cop (zun idle k e) (A ++ [(o, n, k, tick, e, false)])
  refine ⟨ht, ?_, fun _ => h0, fun p hp => by have := h4 p hp; omega, fun j hj => ?_, fun j a hj hb => ?_, fun i j a c hi hj hb hij => ?_⟩
  · rw [List.length_append, List.length_singleton]; omega
  · rw [List.getElem?_append_left (by omega)]; exact h5 j hj
  · rcases zapp_get hj with ⟨q, hj⟩ | ⟨q, rfl⟩
    · obtain ⟨⟨g1, g2, g3, g4, g5, g6⟩, g7, g8, g9, g10⟩ := h6 j a hj hb
      refine ⟨⟨g1, by omega, g3, g4, g5, g6⟩, ?_, ?_, fun _ => g9 (by omega), fun w => by omega⟩
      · rw [zun_n (by omega)]; exact g7
      · by_cases c : a.2.2.1 = k
        · rw [c, zun_s]; rw [c] at g8; omega
        · rw [zun_n c]; exact g8
    · refine ⟨⟨rfl, Nat.lt_succ_self n, hk, hb0, Nat.le_refl _, hwk⟩, by rw [zun_s], by rw [zun_s]; exact Nat.le_refl _, fun _ => ⟨by show n = j - bg; omega, rfl⟩, fun w => by omega⟩
  · rcases zapp_get hi with ⟨q, hi⟩ | ⟨q, rfl⟩
    · rcases zapp_get hj with ⟨q2, hj⟩ | ⟨q2, rfl⟩
      · obtain ⟨g1, g2, g3⟩ := h7 i j a c hi hj hb hij
        exact ⟨g1, g2, fun w => g3 (by omega)⟩
      · obtain ⟨⟨g1, g2, g3, g4, g5, g6⟩, g7, g8, g9, g10⟩ := h6 i a hi hb
        refine ⟨g5, fun w => ?_, fun w => by omega⟩
        have w : a.2.2.1 = k := w
        rw [w] at g8
        show a.2.2.2.2.1 ≤ tick
        omega
    · have := zR_lt hj
      rw [List.length_append, List.length_singleton] at this
      omega
theorem zIw_pc {A0 : List zAE} {o m bg sz b0 tick e k p : Nat} {S : zSS} (h : zIw A0 o m bg sz b0 tick S) (hm8 : m ≤ 8) (hb0 : b0 ≤ tick) (hm : S.1 = m) (hp : p < S.1) (hc : S.2.2.1 p = false) (hk : k < sz) (hid : S.2.2.2.1 k ≤ tick) (he : tick < e) (hpe : e < S.2.1 p) : zIw A0 o m bg sz b0 tick (zpc bg o tick e k p S) := by
  obtain ⟨h1, h2, h3, h4, h5, h6, h7⟩ := h
  obtain ⟨n, ends, cop, idle, A⟩ := S
  unfold zpc
  simp only at *
  have hlt : bg + p < A.length := by omega
  obtain ⟨a0, ha0⟩ : ∃ a, A[bg + p]? = some a := ⟨_, List.getElem?_eq_getElem hlt⟩
  obtain ⟨w0, hw0⟩ : ∃ w, w = zwk A (bg + p) := ⟨_, rfl⟩
  have ew : a0.2.2.1 = w0 := by rw [hw0, zwk, List.getD_eq_getElem?_getD, ha0]; rfl
  obtain ⟨⟨o1, o2, o3, o4, o5, o6⟩, o7, o8, o9, -⟩ := h6 _ a0 ha0 (by omega)
  obtain ⟨op, -⟩ := o9 (by omega)
  have op : a0.2.1 = p := by omega
  rw [op] at o7
  rw [ew] at o8
  have kw : k ≠ w0 := by intro z; subst z; omega
  show zIx A0 o m bg sz b0 tick n (zun ends p e) (zor cop p) (zun (zun idle k e) (zwk A (bg + p)) e) (zse (A ++ [(o, p, k, tick, e, true)]) (bg + p) e)
  rw [← hw0]
  refine ⟨h1, ?_, fun q => absurd q (by omega), fun q hq => ?_, fun j hj => ?_, fun j a hj hb => ?_, fun i j a c hi hj hb hij => ?_⟩
  · rw [zse_len, List.length_append, List.length_singleton, zcn_or hc, if_pos (by omega)]; omega
  · rcases zor_iff.mp hq with w | w
    · exact h4 q w
    · rw [w]; exact hp
  · rw [zse, List.getElem?_modify, List.getElem?_append_left (by omega), ← h5 j hj]
    cases A[j]? with
    | none => rfl
    | some y =>
      show some (if bg + p = j then _ else y) = some y
      rw [if_neg (by omega)]
  · obtain ⟨b, hb2, ea⟩ := zse_get hj
    rcases zapp_get hb2 with ⟨q, hb2⟩ | ⟨q, rfl⟩
    · obtain ⟨⟨g1, g2, g3, g4, g5, g6⟩, g7, g8, g9, g10⟩ := h6 j b hb2 hb
      by_cases y : bg + p = j
      · rw [if_pos y] at ea
        subst y
        cases Option.some.inj (ha0.symm.trans hb2)
        subst ea
        refine ⟨⟨g1, g2, g3, g4, g5, by show a0.2.2.2.1 < e; omega⟩, ?_, ?_, g9, fun w => by omega⟩
        · show e = zun ends p e a0.2.1
          rw [op, zun_s]
        · show e ≤ zun (zun idle k e) w0 e a0.2.2.1
          rw [ew, zun_s]; exact Nat.le_refl _
      · rw [if_neg y] at ea
        subst ea
        have ne : a.2.1 ≠ p := by
          intro z
          by_cases c : j < bg + n
          · have := (g9 c).1; omega
          · have := (g10 (by omega)).1; rw [z, hc] at this; exact nomatch this
        refine ⟨⟨g1, g2, g3, g4, g5, g6⟩, by rw [zun_n ne]; exact g7, ?_, g9, fun w => ?_⟩
        · by_cases z : a.2.2.1 = w0
          · rw [z, zun_s]
            rcases Nat.lt_or_ge j (bg + p) with c | c
            · have := (h7 j (bg + p) a a0 hb2 ha0 hb c).2.1 (z.trans ew.symm); omega
            · have := (h7 (bg + p) j a0 a ha0 hb2 (by omega) (by omega)).2.1 (ew.trans z.symm); omega
          · rw [zun_n z]
            by_cases x : a.2.2.1 = k
            · rw [x, zun_s]; rw [x] at g8; omega
            · rw [zun_n x]; exact g8
        · obtain ⟨r1, r2, r3⟩ := g10 w
          refine ⟨by rw [zor, r1]; rfl, r2, ?_⟩
          rw [zwk_se, zwk_app (by omega)]
          exact r3
    · rw [if_neg (by omega)] at ea
      subst ea
      refine ⟨⟨rfl, hp, hk, hb0, Nat.le_refl _, he⟩, by rw [zun_s], ?_, fun w => by omega, fun _ => ⟨by simp [zor], rfl, ?_⟩⟩
      · show e ≤ zun (zun idle k e) w0 e k
        rw [zun_n kw, zun_s]; exact Nat.le_refl _
      · show zwk (zse (A ++ [_]) _ _) (bg + p) ≠ k
        rw [zwk_se, zwk_app (by omega), ← hw0]
        exact fun z => kw z.symm
  · obtain ⟨b, hb2, ea⟩ := zse_get hi
    obtain ⟨d, hd2, ec⟩ := zse_get hj
    have sa : a.2.1 = b.2.1 ∧ a.2.2.1 = b.2.2.1 ∧ a.2.2.2.1 = b.2.2.2.1 := by rw [ea]; split <;> exact ⟨rfl, rfl, rfl⟩
    have sc : c.2.1 = d.2.1 ∧ c.2.2.1 = d.2.2.1 ∧ c.2.2.2.1 = d.2.2.2.1 := by rw [ec]; split <;> exact ⟨rfl, rfl, rfl⟩
    rw [sa.1, sa.2.1, sa.2.2, sc.1, sc.2.1, sc.2.2]
    rcases zapp_get hb2 with ⟨q, hb2⟩ | ⟨q, rfl⟩
    · obtain ⟨⟨g1, g2, g3, g4, g5, g6⟩, g7, g8, g9, g10⟩ := h6 i b hb2 hb
      have ends_ : bg + p ≠ i → a.2.2.2.2.1 = b.2.2.2.2.1 := fun w => by rw [ea, if_neg w]
      rcases zapp_get hd2 with ⟨q2, hd2⟩ | ⟨q2, rfl⟩
      · obtain ⟨r1, r2, r3⟩ := h7 i j b d hb2 hd2 hb hij
        refine ⟨r1, fun w => ?_, r3⟩
        by_cases y : bg + p = i
        · subst y
          cases Option.some.inj (ha0.symm.trans hb2)
          have := r2 w
          have := (h6 j d hd2 (by omega)).1.2.2.2.2.1
          omega
        · rw [ends_ y]; exact r2 w
      · refine ⟨g5, fun w => ?_, fun w z => ?_⟩
        · have w : b.2.2.1 = k := w
          have y : bg + p ≠ i := by
            intro y
            subst y
            cases Option.some.inj (ha0.symm.trans hb2)
            exact kw (w.symm.trans ew)
          rw [ends_ y]
          rw [w] at g8
          show b.2.2.2.2.1 ≤ tick
          omega
        · have z : b.2.1 = p := z
          have := (g10 w).1
          rw [z, hc] at this
          exact nomatch this
    · have := zR_lt hj
      rw [zse_len, List.length_append, List.length_singleton] at this
      omega
section
variable {A0 : List zAE} {work slow : Nat → Nat} {o m bg sz b0 tick : Nat}
theorem zIw_pw {half : Bool} {k : Nat} {S : zSS} (h : zIw A0 o m bg sz b0 tick S) (hm8 : m ≤ 8) (hb0 : b0 ≤ tick) (hk : k < sz) (hw : ∀ p, 1 ≤ work p) (hs : 1 ≤ slow k) : zIw A0 o m bg sz b0 tick (zpw work slow m o bg tick half k S).1 := by
  unfold zpw
  by_cases c1 : S.2.2.2.1 k ≤ tick
  · rw [if_pos c1]
    by_cases c2 : S.1 < m
    · rw [if_pos c2]
      exact zIw_pt h hb0 c2 hk c1 (hw _) hs
    · rw [if_neg c2]
      by_cases c3 : half = true ∧ (zlw S.2.1 S.2.2.1 tick m S.1).1 < m ∧ tick + work (zlw S.2.1 S.2.2.1 tick m S.1).1 * slow k < S.2.1 (zlw S.2.1 S.2.2.1 tick m S.1).1
      · rw [if_pos c3]
        rcases zlw_cop (ends := S.2.1) (cop := S.2.2.1) (tick := tick) (m := m) S.1 with e | ⟨e1, e2, e3, e4⟩
        · have := c3.2.1; rw [e] at this; exact absurd this (Nat.lt_irrefl m)
        · have := Nat.mul_le_mul (hw (zlw S.2.1 S.2.2.1 tick m S.1).1) hs
          exact zIw_pc h hm8 hb0 (by have := h.1; omega) e2 e1 hk c1 (by omega) c3.2.2
      · rw [if_neg c3]; exact h
  · rw [if_neg c1]; exact h
theorem zIw_lk {half : Bool} {S : zSS} (h : zIw A0 o m bg sz b0 tick S) (hm8 : m ≤ 8) (hb0 : b0 ≤ tick) (hw : ∀ p, 1 ≤ work p) (hs : ∀ k, k < sz → 1 ≤ slow k) : ∀ k, k ≤ sz → zIw A0 o m bg sz b0 tick (zlk work slow m o bg tick half k S).1
  | 0, _ => h
  | k + 1, hk => zIw_pw (zIw_lk h hm8 hb0 hw hs k (by omega)) hm8 hb0 (by omega) hw (hs k (by omega))
/-- a stage ends: all of its tasks have, the last one then -/
theorem zwo_all39 (hm8 : m ≤ 8) (h1 : 1 ≤ sz) (h4 : sz ≤ 4) (hw : ∀ p, 1 ≤ work p) (hs : ∀ k, k < 4 → 1 ≤ slow k) : ∀ (d tick : Nat) (S : zSS), b0 ≤ tick → zIv o m bg sz tick S → zIw A0 o m bg sz b0 tick S → m - zec S.2.1 tick S.1 + (8 - zcn S.2.2.1 8) ≤ d → (zec S.2.1 tick S.1 < m ∨ ∃ p, p < m ∧ S.2.1 p = tick) →
    ∃ U : zSS, (zwo work slow m o bg sz d tick S).2 = U ∧ zIw A0 o m bg sz b0 (zwo work slow m o bg sz d tick S).1 U ∧ U.1 = m ∧ (∀ p, p < m → U.2.1 p ≤ (zwo work slow m o bg sz d tick S).1) ∧ (∃ p, p < m ∧ U.2.1 p = (zwo work slow m o bg sz d tick S).1) ∧ tick ≤ (zwo work slow m o bg sz d tick S).1 ∧ (zec S.2.1 tick S.1 < m → tick < (zwo work slow m o bg sz d tick S).1) := by
  have stop : ∀ (tick : Nat) (S : zSS), zIv o m bg sz tick S → zec S.2.1 tick S.1 = m → S.1 = m ∧ ∀ p, p < m → S.2.1 p ≤ tick := fun tick S hi hz => by
    obtain ⟨-, -, e1, e2⟩ := zsim_end (work := work) (slow := slow) (half := false) hi h4 hz
    exact ⟨e1, e2⟩
  intro d
  induction d with
  | zero =>
    intro tick S hb hi hj hd hz
    have hle := zec_le S.2.1 tick S.1
    have hn := hi.1
    have he : zec S.2.1 tick S.1 = m := by omega
    obtain ⟨e1, e2⟩ := stop tick S hi he
    exact ⟨S, rfl, hj, e1, e2, hz.resolve_left (by omega), Nat.le_refl _, fun w => by omega⟩
  | succ d ih =>
    intro tick S hb hi hj hd hz
    have hle := zec_le S.2.1 tick S.1
    have hn := hi.1
    by_cases c : zec S.2.1 tick S.1 < m
    · clear hz
      obtain ⟨p0, q1, q2⟩ := zsim_go (o := o) (half := zhf m tick S) hi hm8 h1 h4 hw hs c
      obtain ⟨g1, g2, g3, -, -, -, g7⟩ := zlk_keep (half := zhf m tick S) hi hm8 hw hs sz h4
      have gj := zIw_lk (half := zhf m tick S) hj hm8 hb hw (fun k hk => hs k (by omega)) sz (Nat.le_refl _)
      rw [zwo, if_pos c]
      generalize hU : (zlk work slow m o bg tick (zhf m tick S) sz S).1 = U at *
      generalize hf : (zlk work slow m o bg tick (zhf m tick S) sz S).2 = f at *
      obtain ⟨t, ht⟩ : ∃ t, t = (if f then tick + 1 else zea U.2.1 tick U.1) := ⟨_, rfl⟩
      rw [← ht]
      have hU1 := g1.1
      have key : tick < t ∧ (∀ p, p < U.1 → U.2.1 p ≤ t → tick < U.2.1 p → U.2.1 p = t) ∧ m - zec U.2.1 t U.1 + (8 - zcn U.2.2.1 8) ≤ d := by
        have mono : zec U.2.1 tick U.1 ≤ zec U.2.1 t U.1 ∨ t < tick := (Nat.lt_or_ge t tick).symm.imp (fun w => zec_mono w _) id
        cases f with
        | true =>
          have ht : t = tick + 1 := ht
          simp only [Bool.toNat_true] at g7
          have h8 := zcn_le U.2.2.1 8
          refine ⟨by omega, fun p _ w w2 => by omega, ?_⟩
          rcases mono with w | w <;> omega
        | false =>
          have ht : t = zea U.2.1 tick U.1 := ht
          simp only [Bool.toNat_false] at g7
          rcases zea_spec (ends := U.2.1) (tick := tick) U.1 with ⟨-, e2⟩ | ⟨e1, ⟨p, e2, e3⟩, e4⟩
          · have := e2 p0 q1; omega
          · have e5 := zec_lt (ends := U.2.1) (a := tick) (b := t) (p := p) (by omega) (by omega) (by omega) U.1 e2
            refine ⟨by omega, fun r hr w w2 => by have := e4 r hr w2; omega, by omega⟩
      obtain ⟨k1, k2, k3⟩ := key
      have at' : zec U.2.1 t U.1 < m ∨ ∃ p, p < m ∧ U.2.1 p = t := by
        have hle2 := zec_le U.2.1 t U.1
        rcases Nat.lt_or_ge (zec U.2.1 t U.1) m with w | w
        · exact Or.inl w
        · have e : zec U.2.1 t U.1 = U.1 := by omega
          exact Or.inr ⟨p0, by omega, k2 p0 q1 ((zec_full _).mp e p0 q1) q2⟩
      obtain ⟨V, v1, v2, v3, v4, v5, v6, -⟩ := ih t U (by omega) (zIv_up g1 (by omega)) (gj.up (by omega)) k3 at'
      exact ⟨V, v1, v2, v3, v4, v5, by omega, fun _ => by omega⟩
    · have he : zec S.2.1 tick S.1 = m := by omega
      obtain ⟨e1, e2⟩ := stop tick S hi he
      rw [zwo, if_neg c]
      exact ⟨S, rfl, hj, e1, e2, hz.resolve_left c, Nat.le_refl _, fun w => absurd w c⟩
end
/-- how many copies -/
def zcps (A : List zAE) : Nat := (A.filter fun a => a.2.2.2.2.2).length
theorem zcps_app (A B : List zAE) : zcps (A ++ B) = zcps A + zcps B := by rw [zcps, List.filter_append, List.length_append]; rfl
/-- the attempts of a run -/
def zAt (sz T : Nat) (mk : Nat → Nat) (A : List zAE) : Prop :=
  (∀ (k : Nat) (a : zAE), A[k]? = some a → a.2.2.2.1 < a.2.2.2.2.1 ∧ a.2.2.2.2.1 ≤ T ∧ a.2.2.1 < sz ∧ a.2.1 < mk a.1) ∧
  (∀ (i k : Nat) (a c : zAE), A[i]? = some a → A[k]? = some c → i < k → a.2.2.2.1 ≤ c.2.2.2.1 ∧ (a.2.2.1 = c.2.2.1 → a.2.2.2.2.1 ≤ c.2.2.2.1) ∧ (a.1 = c.1 ∨ a.1 < c.1 ∧ a.2.2.2.2.1 ≤ c.2.2.2.1) ∧ (a.1 = c.1 → a.2.1 = c.2.1 → a.2.2.2.2.1 = c.2.2.2.2.1 ∧ a.2.2.1 ≠ c.2.2.1 ∧ c.2.2.2.2.2 = true)) ∧
  (∀ (k : Nat) (c : zAE), A[k]? = some c → c.2.2.2.2.2 = true → ∃ (i : Nat) (a : zAE), i < k ∧ A[i]? = some a ∧ a.1 = c.1 ∧ a.2.1 = c.2.1 ∧ ∀ (i' : Nat) (a' : zAE), i' < k → A[i']? = some a' → a'.1 = c.1 → a'.2.1 = c.2.1 → i' = i) ∧
  ((T = 0 ∧ A = []) ∨ (0 < T ∧ ∃ a ∈ A, a.2.2.2.2.1 = T)) ∧ 2 * zcps A ≤ A.length
