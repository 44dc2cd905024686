/-! what is held, by keys: sorted rows, groups, the next key -/
def zkf (x : Int32) (R : zP2) : zP2 := R.filter fun q => decide (q.1 = x)
def zab (a : Int) (R : zP2) : zP2 := R.filter fun q => decide (a < q.1.toInt)
def zst1 (D : Nat → Int32) (a : Option Int32) (q : Int32 × Int32) : Option Int32 := match a with
  | none => some (zg0 D q.2)
  | some w => some (zg1 D w q.2)
def zagg (D : Nat → Int32) (R : zP2) : Option Int32 := R.foldl (zst1 D) none
def zone (x : Int32) (a : Option Int32) : zP2 := match a with
  | none => []
  | some w => [(x, w)]
theorem zkf_app (x : Int32) (R T : zP2) : zkf x (R ++ T) = zkf x R ++ zkf x T := List.filter_append _ _
theorem zkf_cons_t {x : Int32} {q : Int32 × Int32} {R : zP2} (h : q.1 = x) : zkf x (q :: R) = q :: zkf x R := by unfold zkf; rw [List.filter_cons_of_pos (by simpa using h)]
theorem zkf_cons_f {x : Int32} {q : Int32 × Int32} {R : zP2} (h : q.1 ≠ x) : zkf x (q :: R) = zkf x R := by unfold zkf; rw [List.filter_cons_of_neg (by simpa using h)]
theorem zkf_nil {x : Int32} {R : zP2} (h : ∀ q ∈ R, q.1 ≠ x) : zkf x R = [] := by
  unfold zkf
  rw [List.filter_eq_nil_iff]
  intro q hq
  simpa using h q hq
theorem zagg_snoc (D : Nat → Int32) (R : zP2) (q : Int32 × Int32) : zagg D (R ++ [q]) = zst1 D (zagg D R) q := by simp [zagg, List.foldl_append]
theorem zkf_key {x : Int32} {R : zP2} {q : Int32 × Int32} (h : q ∈ zkf x R) : q ∈ R ∧ q.1 = x := by
  have := List.mem_filter.mp h
  exact ⟨this.1, by simpa using this.2⟩
theorem zins_perm (R : zP2) (j : Nat) (q : Int32 × Int32) : (zins R j q).Perm (q :: R) := by
  unfold zins
  refine List.perm_middle.trans ?_
  rw [List.take_append_drop]
theorem zdrop_gt {R : zP2} {q : Int32 × Int32} (h : zUp R) : ∀ z ∈ R.drop (zcnt R q.1), z.1 ≠ q.1 := by
  intro z hz
  obtain ⟨i, hi⟩ := List.getElem?_of_mem hz
  rw [List.getElem?_drop] at hi
  have := zcnt_ge R q.1 _ z h (Nat.le_add_right _ _) hi
  exact fun e => this (by rw [e]; exact Int32.le_refl _)
theorem zins_kf {R : zP2} {q : Int32 × Int32} {x : Int32} (h : zUp R) : zkf x (zins R (zcnt R q.1) q) = zkf x R ++ (if q.1 = x then [q] else []) := by
  have e : zkf x R = zkf x (R.take (zcnt R q.1)) ++ zkf x (R.drop (zcnt R q.1)) := by rw [← zkf_app, List.take_append_drop]
  unfold zins
  rw [zkf_app, e]
  by_cases c : q.1 = x
  · rw [if_pos c, zkf_cons_t c]
    subst c
    rw [zkf_nil (zdrop_gt h), List.append_nil]
  · rw [if_neg c, zkf_cons_f c, List.append_nil]
theorem zsrt_kf (x : Int32) (R : zP2) : zkf x (zsrt R) = zkf x R := by
  have key : ∀ n, n ≤ R.length → zkf x (zsrt (R.take n)) = zkf x (R.take n) := by
    intro n
    induction n with
    | zero => intro _; rfl
    | succ n ih =>
      intro hn
      have hg : R[n]? = some (R[n]'(by omega)) := List.getElem?_eq_getElem _
      rw [ztake hg, zsrt_snoc, zins_kf (zsrt_up _).1, ih (by omega), zkf_app]
      congr 1
      by_cases c : (R[n]'(by omega)).1 = x
      · rw [if_pos c, zkf_cons_t c]; rfl
      · rw [if_neg c, zkf_cons_f c]; rfl
  have := key R.length (Nat.le_refl _)
  rwa [List.take_length] at this
theorem zset_kf {R : zP2} {j : Nat} {g e : Int32 × Int32} {x : Int32} (hj : R[j]? = some g) (h1 : g.1 = x) (h2 : e.1 = x) (h3 : zkf x R = [g]) : zkf x (R.set j e) = [e] := by
  have hl := zR_lt hj
  have e1 : R = R.take j ++ g :: R.drop (j + 1) := by
    have h2 : R[j] = g := by rw [List.getElem?_eq_getElem hl] at hj; exact Option.some.inj hj
    rw [← h2, List.getElem_cons_drop, List.take_append_drop]
  have e2 : R.set j e = R.take j ++ e :: R.drop (j + 1) := by
    rw [List.set_eq_take_append_cons_drop, if_pos hl]
  rw [e1, zkf_app, zkf_cons_t h1] at h3
  rw [e2, zkf_app, zkf_cons_t h2]
  have hlen := congrArg List.length h3
  rw [List.length_append, List.length_cons, List.length_singleton] at hlen
  have z1 : zkf x (R.take j) = [] := List.length_eq_zero_iff.mp (by omega)
  have z2 : zkf x (R.drop (j + 1)) = [] := List.length_eq_zero_iff.mp (by omega)
  rw [z1, z2]
  rfl
theorem zset_kf_o {R : zP2} {j : Nat} {g e : Int32 × Int32} {x : Int32} (hj : R[j]? = some g) (h1 : g.1 ≠ x) (h2 : e.1 ≠ x) : zkf x (R.set j e) = zkf x R := by
  have hl := zR_lt hj
  have e1 : R = R.take j ++ g :: R.drop (j + 1) := by
    have h2 : R[j] = g := by rw [List.getElem?_eq_getElem hl] at hj; exact Option.some.inj hj
    rw [← h2, List.getElem_cons_drop, List.take_append_drop]
  have e2 : R.set j e = R.take j ++ e :: R.drop (j + 1) := by
    rw [List.set_eq_take_append_cons_drop, if_pos hl]
  rw [e2, zkf_app, zkf_cons_f h2]
  conv => rhs; rw [e1, zkf_app, zkf_cons_f h1]
theorem zgad_kf {D : Nat → Int32} {R : zP2} {q : Int32 × Int32} (h : zUp R) (a : Int32 → Option Int32) (ha : ∀ x, zkf x R = zone x (a x)) : ∀ x, zkf x (zgad D R q) = zone x (if q.1 = x then zst1 D (a x) q else a x) := by
  intro x
  unfold zgad
  by_cases c : 0 < zcnt R q.1 ∧ ∃ z, R[zcnt R q.1 - 1]? = some z ∧ z.1 = q.1
  · rw [if_pos c]
    obtain ⟨c1, z, hz, hz1⟩ := c
    have hv : (R.getD (zcnt R q.1 - 1) (0, 0)) = z := by rw [List.getD_eq_getElem?_getD, hz]; rfl
    rw [hv]
    by_cases e : q.1 = x
    · rw [if_pos e]
      have hm : z ∈ zkf x R := List.mem_filter.mpr ⟨List.mem_of_getElem? hz, by simpa using hz1.trans e⟩
      have hax := ha x
      cases hw : a x with
      | none => rw [hax, hw] at hm; exact absurd hm (by simp [zone])
      | some w =>
        rw [hw] at hax
        rw [hax] at hm
        have ez : z = (x, w) := by simpa [zone] using hm
        rw [zset_kf (e := (q.1, zg1 D z.2 q.2)) hz (hz1.trans e) e (by rw [hax, ez]; rfl), ez, e]
        rfl
    · rw [if_neg e, zset_kf_o (e := (q.1, zg1 D z.2 q.2)) hz (by rw [hz1]; exact e) e, ha x]
  · rw [if_neg c, zins_kf (q := (q.1, zg0 D q.2)) h]
    by_cases e : q.1 = x
    · rw [if_pos e, if_pos e]
      have none : zkf x R = [] := by
        refine zkf_nil fun z hz ez => c ?_
        obtain ⟨i, hi⟩ := List.getElem?_of_mem hz
        have hlt : i < zcnt R q.1 := by
          rcases Nat.lt_or_ge i (zcnt R q.1) with w | w
          · exact w
          · exact absurd (by rw [ez, e]; exact Int32.le_refl _) (zcnt_ge R q.1 i z h w hi)
        have hle := zcnt_le R q.1
        have hg : R[zcnt R q.1 - 1]? = some (R[zcnt R q.1 - 1]'(by omega)) := List.getElem?_eq_getElem _
        refine ⟨by omega, _, hg, ?_⟩
        have h1 := zcnt_lt R q.1 _ _ (by omega) hg
        have h2 := h i (zcnt R q.1 - 1) z _ (by omega) hi hg
        rw [ez, ← e] at h2
        exact Int32.le_antisymm h1 h2
      have hax := ha x
      rw [none] at hax
      cases hw : a x with
      | none => rw [none, e]; rfl
      | some w => rw [hw] at hax; exact nomatch hax
    · rw [if_neg e, if_neg e, List.append_nil]
      exact ha x
theorem zgrp_kf (D : Nat → Int32) (R : zP2) : ∀ x, zkf x (zgrp D R) = zone x (zagg D (zkf x R)) := by
  have key : ∀ n, n ≤ R.length → ∀ x, zkf x (zgrp D (R.take n)) = zone x (zagg D (zkf x (R.take n))) := by
    intro n
    induction n with
    | zero => intro _ x; rfl
    | succ n ih =>
      intro hn x
      have hg : R[n]? = some (R[n]'(by omega)) := List.getElem?_eq_getElem _
      generalize R[n]'(by omega) = q at hg
      rw [ztake hg, zgrp_snoc, zgad_kf (zgrp_up D _).1 (fun x => zagg D (zkf x (R.take n))) (ih (by omega)), zkf_app]
      congr 1
      by_cases c : q.1 = x
      · rw [if_pos c, zkf_cons_t c]; exact (zagg_snoc D _ q).symm
      · rw [if_neg c, zkf_cons_f c]
        show _ = zagg D (_ ++ [])
        rw [List.append_nil]
  have := key R.length (Nat.le_refl _)
  rwa [List.take_length] at this
-- keys above
theorem zab_all {a : Int} {R : zP2} (h : a < -2147483648) : zab a R = R := by
  unfold zab
  rw [List.filter_eq_self]
  intro q _
  have := Int32.le_toInt q.1
  simp
  omega
theorem zab_none {a : Int} {R : zP2} (h : ∀ q ∈ R, ¬ a < q.1.toInt) : zab a R = [] := by
  unfold zab
  rw [List.filter_eq_nil_iff]
  intro q hq
  simpa using h q hq
theorem zup_cons {q : Int32 × Int32} {T : zP2} (h : zUp (q :: T)) : zUp T ∧ ∀ z ∈ T, q.1 ≤ z.1 := by
  refine ⟨fun i j a b hij ha hb => h (i + 1) (j + 1) a b (by omega) (by simpa using ha) (by simpa using hb), fun z hz => ?_⟩
  obtain ⟨i, hi⟩ := List.getElem?_of_mem hz
  exact h 0 (i + 1) q z (by omega) rfl (by simpa using hi)
theorem zab_cut {a : Int} {k : Int32} : ∀ {T : zP2}, zUp T → a < k.toInt → (∀ q ∈ T, a < q.1.toInt → k.toInt ≤ q.1.toInt) → zab a T = zkf k T ++ zab k.toInt T
  | [], _, _, _ => rfl
  | q :: T, hu, hk, hm => by
    obtain ⟨u1, u2⟩ := zup_cons hu
    have ih := zab_cut u1 hk fun z hz => hm z (List.mem_cons_of_mem _ hz)
    by_cases c1 : a < q.1.toInt
    · have c2 := hm q List.mem_cons_self c1
      have e1 : zab a (q :: T) = q :: zab a T := by unfold zab; rw [List.filter_cons_of_pos (by simpa using c1)]
      rw [e1]
      by_cases c3 : q.1 = k
      · have e2 : zab k.toInt (q :: T) = zab k.toInt T := by unfold zab; rw [List.filter_cons_of_neg (by rw [c3]; simp)]
        rw [zkf_cons_t c3, e2, ih]
        rfl
      · have c4 : k.toInt < q.1.toInt := by
          rcases Int.lt_or_eq_of_le c2 with w | w
          · exact w
          · exact absurd (Int32.toInt_inj.mp w).symm c3
        have e2 : zab k.toInt (q :: T) = q :: zab k.toInt T := by unfold zab; rw [List.filter_cons_of_pos (by simpa using c4)]
        have e3 : zkf k T = [] := zkf_nil fun z hz e => by
          have := Int32.le_iff_toInt_le.mp (u2 z hz)
          rw [e] at this
          omega
        rw [zkf_cons_f c3, e2, ih, e3]
        rfl
    · have e1 : zab a (q :: T) = zab a T := by unfold zab; rw [List.filter_cons_of_neg (by simpa using c1)]
      have e2 : zab k.toInt (q :: T) = zab k.toInt T := by unfold zab; rw [List.filter_cons_of_neg (by simp; omega)]
      rw [e1, e2, zkf_cons_f (fun e => c1 (by rw [e]; exact hk)), ih]
/-- the least key above a, or 2^40 -/
def znx1 (a : Int) (l : Int) (q : Int32 × Int32) : Int := if a < q.1.toInt ∧ q.1.toInt < l then q.1.toInt else l
def znx (a : Int) (R : zP2) : Int := R.foldl (znx1 a) 1099511627776
theorem znx_snoc (a : Int) (R : zP2) (q : Int32 × Int32) : znx a (R ++ [q]) = znx1 a (znx a R) q := by simp [znx, List.foldl_append]
theorem znx_spec (a : Int) (R : zP2) : (znx a R = 1099511627776 ∧ ∀ q ∈ R, ¬ a < q.1.toInt) ∨ ((∃ q ∈ R, q.1.toInt = znx a R) ∧ a < znx a R ∧ ∀ q ∈ R, a < q.1.toInt → znx a R ≤ q.1.toInt) := by
  have key : ∀ n, n ≤ R.length → (znx a (R.take n) = 1099511627776 ∧ ∀ q ∈ R.take n, ¬ a < q.1.toInt) ∨ ((∃ q ∈ R.take n, q.1.toInt = znx a (R.take n)) ∧ a < znx a (R.take n) ∧ ∀ q ∈ R.take n, a < q.1.toInt → znx a (R.take n) ≤ q.1.toInt) := by
    intro n
    induction n with
    | zero => intro _; exact Or.inl ⟨rfl, fun q h => by simp at h⟩
    | succ n ih =>
      intro hn
      have hg : R[n]? = some (R[n]'(by omega)) := List.getElem?_eq_getElem _
      generalize R[n]'(by omega) = q at hg
      have ih := ih (by omega)
      rw [ztake hg, znx_snoc]
      generalize znx a (R.take n) = l at *
      have hq31 := Int32.toInt_lt q.1
      unfold znx1
      by_cases c : a < q.1.toInt ∧ q.1.toInt < l
      · rw [if_pos c]
        refine Or.inr ⟨⟨q, by simp, rfl⟩, c.1, fun z hz hz2 => ?_⟩
        rcases List.mem_append.mp hz with w | w
        · rcases ih with ⟨e1, e2⟩ | ⟨-, -, e3⟩
          · exact absurd hz2 (e2 z w)
          · have := e3 z w hz2; omega
        · have : z = q := by simpa using w
          rw [this]
          exact Int.le_refl _
      · rw [if_neg c]
        rcases ih with ⟨e1, e2⟩ | ⟨⟨z0, hz0, e0⟩, e1, e3⟩
        · refine Or.inl ⟨e1, fun z hz => ?_⟩
          rcases List.mem_append.mp hz with w | w
          · exact e2 z w
          · have : z = q := by simpa using w
            rw [this]
            intro w2
            exact c ⟨w2, by omega⟩
        · refine Or.inr ⟨⟨z0, List.mem_append_left _ hz0, e0⟩, e1, fun z hz hz2 => ?_⟩
          rcases List.mem_append.mp hz with w | w
          · exact e3 z w hz2
          · have : z = q := by simpa using w
            rw [this] at hz2 ⊢
            exact Int.not_lt.mp fun w2 => c ⟨hz2, w2⟩
  have := key R.length (Nat.le_refl _)
  rwa [List.take_length] at this
theorem zsrt_perm (R : zP2) : (zsrt R).Perm R := by
  have key : ∀ n, n ≤ R.length → (zsrt (R.take n)).Perm (R.take n) := by
    intro n
    induction n with
    | zero => intro _; exact List.Perm.refl _
    | succ n ih =>
      intro hn
      have hg : R[n]? = some (R[n]'(by omega)) := List.getElem?_eq_getElem _
      rw [ztake hg, zsrt_snoc]
      refine (zins_perm _ _ _).trans ?_
      exact (List.Perm.cons _ (ih (by omega))).trans (List.perm_append_singleton _ _).symm
  have := key R.length (Nat.le_refl _)
  rwa [List.take_length] at this
theorem zpart_kf {p i : Nat} {k : Int32} {X : zP2} (h : zmd k (nI p) = nI i) : zkf k (zpart p X i) = zkf k X := by
  unfold zkf zpart
  rw [List.filter_filter]
  refine List.filter_congr fun q _ => ?_
  by_cases c : q.1 = k
  · simp [c, h]
  · simp [c]
theorem zUp_filter {f : Int32 × Int32 → Bool} : ∀ {T : zP2}, zUp T → zUp (T.filter f)
  | [], _ => zUp_nil
  | q :: T, h => by
    obtain ⟨u1, u2⟩ := zup_cons h
    have ih := zUp_filter (f := f) u1
    by_cases c : f q = true
    · rw [List.filter_cons_of_pos c]
      intro i j a b hij ha hb
      cases i with
      | zero =>
        cases ha
        cases j with
        | zero => cases hb; exact Int32.le_refl _
        | succ j => exact u2 b (List.mem_filter.mp (List.mem_of_getElem? (by simpa using hb))).1
      | succ i =>
        cases j with
        | zero => omega
        | succ j => exact ih i j a b (by omega) (by simpa using ha) (by simpa using hb)
    · rw [List.filter_cons_of_neg c]; exact ih
theorem zkf_mem {x : Int32} {R : zP2} : (∃ q ∈ R, q.1 = x) ↔ zkf x R ≠ [] := by
  constructor
  · rintro ⟨q, h1, h2⟩ e
    have : q ∈ zkf x R := List.mem_filter.mpr ⟨h1, by simpa using h2⟩
    rw [e] at this
    exact nomatch this
  · intro h
    obtain ⟨q, hq⟩ := List.exists_mem_of_ne_nil _ h
    exact ⟨q, (zkf_key hq).1, (zkf_key hq).2⟩
theorem zagg_ne {D : Nat → Int32} : ∀ {R : zP2}, R ≠ [] → ∃ w, zagg D R = some w := by
  intro R h
  obtain ⟨T, q, rfl⟩ : ∃ T q, R = T ++ [q] := by
    have hl : 0 < R.length := List.length_pos_iff.mpr h
    have hg : R[R.length - 1]? = some (R[R.length - 1]'(by omega)) := List.getElem?_eq_getElem _
    have e := ztake hg
    rw [show R.length - 1 + 1 = R.length by omega, List.take_length] at e
    exact ⟨_, _, e⟩
  rw [zagg_snoc]
  cases zagg D T with
  | none => exact ⟨_, rfl⟩
  | some w => exact ⟨_, rfl⟩
/-- one step through the keys of a share -/
theorem zshare_step {p i : Nat} {R X : zP2} {a : Int} (hu : zUp X) (hX : ∀ x, (∃ q ∈ X, q.1 = x) ↔ ∃ q ∈ R, q.1 = x) :
    (znx a (zpart p R i) = 1099511627776 ∧ zab a (zpart p X i) = []) ∨ (∃ k : Int32, k.toInt = znx a (zpart p R i) ∧ zmd k (nI p) = nI i ∧ zkf k R ≠ [] ∧ zab a (zpart p X i) = zkf k X ++ zab k.toInt (zpart p X i)) := by
  have same : ∀ x, (∃ q ∈ zpart p X i, q.1 = x) ↔ ∃ q ∈ zpart p R i, q.1 = x := by
    intro x
    constructor
    · rintro ⟨q, hq, rfl⟩
      have h2 := List.mem_filter.mp hq
      obtain ⟨z, hz, ez⟩ := (hX q.1).mp ⟨q, h2.1, rfl⟩
      exact ⟨z, List.mem_filter.mpr ⟨hz, by rw [ez]; exact h2.2⟩, ez⟩
    · rintro ⟨q, hq, rfl⟩
      have h2 := List.mem_filter.mp hq
      obtain ⟨z, hz, ez⟩ := (hX q.1).mpr ⟨q, h2.1, rfl⟩
      exact ⟨z, List.mem_filter.mpr ⟨hz, by rw [ez]; exact h2.2⟩, ez⟩
  rcases znx_spec a (zpart p R i) with ⟨e1, e2⟩ | ⟨⟨q, hq, e1⟩, e2, e3⟩
  · refine Or.inl ⟨e1, zab_none fun q hq => ?_⟩
    obtain ⟨z, hz, ez⟩ := (same q.1).mp ⟨q, hq, rfl⟩
    rw [← ez]
    exact e2 z hz
  · have h2 := List.mem_filter.mp hq
    have hs : zmd q.1 (nI p) = nI i := by simpa using h2.2
    refine Or.inr ⟨q.1, e1, hs, zkf_mem.mp ⟨q, h2.1, rfl⟩, ?_⟩
    have cut := zab_cut (T := zpart p X i) (zUp_filter hu) (k := q.1) (a := a) (by rw [e1]; exact e2) fun z hz hz2 => ?_
    · rw [cut, zpart_kf hs]
    · obtain ⟨y, hy, ey⟩ := (same z.1).mp ⟨z, hz, rfl⟩
      rw [e1]
      rw [← ey] at hz2 ⊢
      exact e3 y hy hz2
theorem zsrt_keys (R : zP2) (x : Int32) : (∃ q ∈ zsrt R, q.1 = x) ↔ ∃ q ∈ R, q.1 = x := by rw [zkf_mem, zkf_mem, zsrt_kf]
theorem zgrp_keys (D : Nat → Int32) (R : zP2) (x : Int32) : (∃ q ∈ zgrp D R, q.1 = x) ↔ ∃ q ∈ R, q.1 = x := by
  rw [zkf_mem, zkf_mem, zgrp_kf]
  constructor
  · intro h e
    rw [e] at h
    exact h rfl
  · intro h
    obtain ⟨w, hw⟩ := zagg_ne (D := D) h
    rw [hw]
    exact fun q => nomatch q
