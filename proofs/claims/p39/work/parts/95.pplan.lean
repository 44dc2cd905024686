/-! stages, over the state alone -/
def zLe2 (t t' : zT3) : Prop := (∀ m, t.2.1 m = true → t'.2.1 m = true) ∧ ∀ m, t.2.2 m = true → t'.2.2 m = true
theorem zLe2.rf (t : zT3) : zLe2 t t := ⟨fun _ h => h, fun _ h => h⟩
theorem zLe2.tr {a b c : zT3} (h : zLe2 a b) (h2 : zLe2 b c) : zLe2 a c := ⟨fun m q => h2.1 m (h.1 m q), fun m q => h2.2 m (h.2 m q)⟩
theorem zLe2_need (C : Nat → Bool) (j : Nat) (t : zT3) : zLe2 t (zneed C j t) := by
  unfold zneed
  by_cases c : C j = true
  · rw [if_pos c]; exact ⟨fun _ h => h, fun _ h => h⟩
  · rw [if_neg c]; exact ⟨fun m h => zor_iff.mpr (Or.inl h), fun _ h => h⟩
theorem zLe2_met (i : Nat) (t : zT3) : zLe2 t (t.1, t.2.1, zor t.2.2 i) := ⟨fun _ h => h, fun m h => zor_iff.mpr (Or.inl h)⟩
theorem zLe2_read {lim : Nat} {nt : zNT} {C : Nat → Bool} : ∀ (d i j : Nat) (t : zT3), zLe2 t (zread lim nt C d i j t).1 ∧ (0 < d → C i = false → (zread lim nt C d i j t).1.2.2 i = true)
  | 0, _, _, t => ⟨zLe2.rf t, fun w => absurd w (Nat.lt_irrefl 0)⟩
  | d + 1, i, j, t => by
    have hm := zLe2_met i t
    have hi : (t.1, t.2.1, zor t.2.2 i).2.2 i = true := zor_iff.mpr (Or.inr rfl)
    rw [zread]
    by_cases c1 : C i = true
    · rw [if_pos c1]
      exact ⟨⟨fun _ h => h, fun _ h => h⟩, fun _ w => by rw [c1] at w; exact nomatch w⟩
    · rw [if_neg c1]
      by_cases c2 : zkd nt i = 0
      · rw [if_pos c2]
        exact ⟨hm, fun _ _ => hi⟩
      · rw [if_neg c2]
        by_cases c3 : zkd nt i = 4
        · rw [if_pos c3]
          have h := zLe2_need C (zf1 nt i) (t.1, t.2.1, zor t.2.2 i)
          exact ⟨hm.tr h, fun _ _ => h.2 i hi⟩
        · rw [if_neg c3]
          by_cases c4 : zkd nt i = 5
          · rw [if_pos c4]
            by_cases c5 : zbr lim nt i = true
            · rw [if_pos c5]
              have h := (zLe2_need C (zf2 nt i) (t.1, t.2.1, zor t.2.2 i)).tr (zLe2_read (lim := lim) (nt := nt) (C := C) d (zf1 nt i) j _).1
              exact ⟨hm.tr h, fun _ _ => h.2 i hi⟩
            · rw [if_neg c5]
              have h := (zLe2_need C (zf1 nt i) (t.1, t.2.1, zor t.2.2 i)).tr (zLe2_need C (zf2 nt i) _)
              exact ⟨hm.tr h, fun _ _ => h.2 i hi⟩
          · rw [if_neg c4]
            by_cases c6 : zkd nt i = 3 ∧ (zct lim nt (zf1 nt i)).length ≤ j
            · rw [if_pos c6]
              have h := (zLe2_read (lim := lim) (nt := nt) (C := C) d (zf2 nt i) (j - (zct lim nt (zf1 nt i)).length) (t.1, t.2.1, zor t.2.2 i)).1
              exact ⟨hm.tr h, fun _ _ => h.2 i hi⟩
            · rw [if_neg c6]
              have h := (zLe2_read (lim := lim) (nt := nt) (C := C) d (zf1 nt i) j (t.1, t.2.1, zor t.2.2 i)).1
              exact ⟨hm.tr h, fun _ _ => h.2 i hi⟩
theorem zLe2_row {lim : Nat} {nt : zNT} {C : Nat → Bool} (k : Nat) (t : zT3) : ∀ n, zLe2 t (zrow lim nt C k n t) ∧ (0 < n → C k = false → (zrow lim nt C k n t).2.2 k = true)
  | 0 => ⟨zLe2.rf t, fun w => absurd w (Nat.lt_irrefl 0)⟩
  | n + 1 => by
    have h := zLe2_read (lim := lim) (nt := nt) (C := C) 14 k n (zrow lim nt C k n t)
    exact ⟨(zLe2_row k t n).1.tr h.1, fun _ w => h.2 (by decide) w⟩
theorem zLe2_dr {lim : Nat} {nt : zNT} {C : Nat → Bool} : ∀ (k : Nat) (t : zT3), zLe2 t (zdr lim nt C k t)
  | 0, t => zLe2.rf t
  | k + 1, t => by
    rw [zdr]
    refine zLe2.tr ?_ (zLe2_dr k _)
    by_cases c : t.2.1 k = true
    · rw [if_pos c]; exact (zLe2_row k t _).1
    · rw [if_neg c]; exact zLe2.rf t
theorem zdr_met {lim : Nat} {nt : zNT} {C : Nat → Bool} {i : Nat} (hC : C i = false) (h1 : 1 ≤ (zct lim nt i).length) : ∀ (k : Nat) (t : zT3), i < k → t.2.1 i = true → (zdr lim nt C k t).2.2 i = true
  | 0, t, h, _ => absurd h (Nat.not_lt_zero _)
  | k + 1, t, h, ht => by
    rw [zdr]
    by_cases e : k = i
    · subst e
      rw [if_pos ht]
      exact (zLe2_dr k _).2 k ((zLe2_row k t _).2 (by omega) hC)
    · by_cases c : t.2.1 k = true
      · rw [if_pos c]
        exact zdr_met hC h1 k _ (by omega) ((zLe2_row k t _).1.1 i ht)
      · rw [if_neg c]
        exact zdr_met hC h1 k t (by omega) ht
theorem zdr_none {lim : Nat} {nt : zNT} {C : Nat → Bool} {t : zT3} (h : ∀ m, t.2.1 m = false) : ∀ k, zdr lim nt C k t = t
  | 0 => rfl
  | k + 1 => by rw [zdr, if_neg (by rw [h k]; decide), zdr_none h k]
theorem zdraw_c {lim : Nat} {nt : zNT} {C : Nat → Bool} {i : Nat} (h : C i = true) : zdraw lim nt C i = (zor (fun _ => false) i, fun _ => false, fun _ => false) := by
  rw [zdraw, zneed, if_pos h]
  exact zdr_none (fun _ => rfl) 14
theorem zdraw_n {lim : Nat} {nt : zNT} {C : Nat → Bool} {i : Nat} (h : C i = false) (hi : i < 14) (h1 : 1 ≤ (zct lim nt i).length) : (zdraw lim nt C i).2.1 i = true ∧ (zdraw lim nt C i).2.2 i = true := by
  have e : zneed C i zt0 = (zt0.1, zor zt0.2.1 i, zt0.2.2) := by rw [zneed, if_neg (by rw [h]; decide)]
  have hs : (zneed C i zt0).2.1 i = true := by rw [e]; show zor zt0.2.1 i i = true; exact zor_iff.mpr (Or.inr rfl)
  exact ⟨(zLe2_dr 14 _).1 i hs, zdr_met h h1 14 _ hi hs⟩
theorem zcn_nil : ∀ n, zcn (fun _ => false) n = 0
  | 0 => rfl
  | n + 1 => by rw [zcn, zcn_nil n]; rfl
theorem zcn_top {s : Nat → Bool} {a : Nat} (h : ∀ m, a ≤ m → s m = false) : ∀ d, zcn s (a + d) = zcn s a
  | 0 => rfl
  | d + 1 => by rw [show a + (d + 1) = (a + d) + 1 by omega, zcn, zcn_top h d, h (a + d) (by omega)]; rfl
theorem znu_spec {s : Nat → Bool} {n : Nat} (h : n < zcn s 14) : znu s n < 14 ∧ s (znu s n) = true ∧ zcn s (znu s n) = n := by
  obtain ⟨j, j1, j2, j3, j4⟩ := znth_ex h 14 0 rfl (Nat.zero_le _)
  rw [znu_of j2 j3 j4]
  exact ⟨j2, j3, j4⟩
theorem znu_lt {s : Nat → Bool} {n m : Nat} (h : m < zcn s 14) (hn : n < m) : znu s n < znu s m := by
  obtain ⟨a1, a2, a3⟩ := znu_spec (show n < zcn s 14 by omega)
  obtain ⟨b1, b2, b3⟩ := znu_spec h
  rcases Nat.lt_or_ge (znu s n) (znu s m) with c | c
  · exact c
  · have := zcn_mono s c
    omega
/-- the stages that it takes to work a node out -/
theorem zstages {lim : Nat} {nt : zNT} {C : Nat → Bool} {i : Nat} (hw : zWf nt) (h14 : nt.length ≤ 14) (hi : i < nt.length) (hC : C i = false) :
    0 < zcn (zdraw lim nt C i).2.1 14 ∧ znu (zdraw lim nt C i).2.1 (zcn (zdraw lim nt C i).2.1 14 - 1) = i ∧ ∀ n, n < zcn (zdraw lim nt C i).2.1 14 → znu (zdraw lim nt C i).2.1 n < nt.length ∧ C (znu (zdraw lim nt C i).2.1 n) = false := by
  obtain ⟨-, h1, -⟩ := zct_le (lim := lim) hw h14 hi
  obtain ⟨hs, -⟩ := zdraw_n (lim := lim) hC (by omega) h1
  obtain ⟨-, hd, -⟩ := zDI_draw (lim := lim) (C := C) hw h14 hi
  have hlt : ∀ m, i + 1 ≤ m → (zdraw lim nt C i).2.1 m = false := fun m hm => by
    cases q : (zdraw lim nt C i).2.1 m with
    | false => rfl
    | true =>
      obtain ⟨-, a, c⟩ := hd m q
      have := (zLin_lt hw h14 i hi).1 m (by omega) a
      omega
  generalize (zdraw lim nt C i).2.1 = s at *
  have e1 : zcn s 14 = zcn s i + 1 := by
    have := zcn_top hlt (14 - (i + 1))
    rw [show i + 1 + (14 - (i + 1)) = 14 by omega] at this
    rw [this, zcn, if_pos hs]
  refine ⟨by omega, znu_of (by omega) hs (by omega), fun n hn => ?_⟩
  obtain ⟨a1, a2, a3⟩ := znu_spec hn
  exact ⟨(hd _ a2).2.2, (hd _ a2).1⟩
/-! the cache: how many rows are in it -/
noncomputable def zcsm (lim : Nat) (nt : zNT) (L : zNS) : Nat → Nat
  | 0 => 0
  | j + 1 => zcsm lim nt L j + (if zcd L j = true then (zct lim nt j).flatten.length else 0)
theorem zcsm_nil (lim : Nat) (nt : zNT) : ∀ n, zcsm lim nt [] n = 0
  | 0 => rfl
  | n + 1 => by rw [zcsm, zcsm_nil lim nt n]; rfl
theorem zcsm_cons (lim : Nat) (nt : zNT) (q : Nat × Nat) (L : zNS) : ∀ n, zcsm lim nt (q :: L) n ≤ zcsm lim nt L n + (if q.1 < n then (zct lim nt q.1).flatten.length else 0)
  | 0 => Nat.zero_le _
  | n + 1 => by
    have ih := zcsm_cons lim nt q L n
    rw [zcsm, zcsm]
    have e : zcd (q :: L) n = (decide (q.1 = n) || zcd L n) := rfl
    rw [e]
    by_cases c : q.1 = n
    · rw [decide_eq_true c, Bool.true_or, if_pos rfl, if_pos (show q.1 < n + 1 by omega), c]
      rw [if_neg (by omega)] at ih
      omega
    · rw [decide_eq_false c, Bool.false_or]
      by_cases c2 : q.1 < n
      · rw [if_pos c2] at ih
        rw [if_pos (show q.1 < n + 1 by omega)]
        omega
      · rw [if_neg c2] at ih
        omega
theorem zcsm_le {lim : Nat} {nt : zNT} (n : Nat) : ∀ L : zNS, (∀ q ∈ L, q.2 = (zct lim nt q.1).flatten.length) → zcsm lim nt L n ≤ zsm L
  | [], _ => by rw [zcsm_nil]; exact Nat.zero_le _
  | q :: L, h => by
    have ih := zcsm_le n L fun a ha => h a (List.mem_cons_of_mem _ ha)
    have e : zsm (q :: L) = q.2 + zsm L := by simp [zsm]
    have hq := h q List.mem_cons_self
    have hc := zcsm_cons lim nt q L n
    rw [e]
    split at hc <;> omega
