/-! partitions: P is a list of partitions; the flat rows, and where each ends -/
def zcum : Nat → List zP2 → List Nat
  | _, [] => []
  | n, p :: t => (n + p.length) :: zcum (n + p.length) t
theorem zcum_len : ∀ (P : List zP2) (n : Nat), (zcum n P).length = P.length
  | [], _ => rfl
  | p :: t, n => by rw [zcum, List.length_cons, List.length_cons, zcum_len t]
theorem zcum_app : ∀ (P T : List zP2) (n : Nat), zcum n (P ++ T) = zcum n P ++ zcum (n + P.flatten.length) T
  | [], T, n => by simp [zcum]
  | p :: t, T, n => by rw [List.cons_append, zcum, zcum_app t T, zcum, List.cons_append, List.flatten_cons, List.length_append, Nat.add_assoc]
theorem zcum_snoc (P : List zP2) (q : zP2) (n : Nat) : zcum n (P ++ [q]) = zcum n P ++ [n + P.flatten.length + q.length] := by rw [zcum_app]; rfl
theorem zpre_flat {P : List zP2} {i : Nat} {p : zP2} (h : P[i]? = some p) : P = P.take i ++ p :: P.drop (i + 1) := by
  have hl := zR_lt h
  have h2 : P[i] = p := by rw [List.getElem?_eq_getElem hl] at h; exact Option.some.inj h
  rw [← h2, List.getElem_cons_drop, List.take_append_drop]
theorem zcum_at {P : List zP2} {i : Nat} {p : zP2} (h : P[i]? = some p) : (zcum 0 P)[i]? = some ((P.take i).flatten.length + p.length) := by
  have hl := zR_lt h
  rw [zpre_flat h, zcum_app, List.getElem?_append_right (by rw [zcum_len, List.length_take]; omega), zcum_len, List.length_take, Nat.min_eq_left (by omega), Nat.sub_self, zcum, List.getElem?_cons_zero]
  congr 2
  · rw [Nat.zero_add, ← zpre_flat h]
theorem zbeg_at {P : List zP2} {i : Nat} (h : i ≤ P.length) : zbeg (zcum 0 P) i = (P.take i).flatten.length := by
  unfold zbeg
  rcases Nat.eq_zero_or_pos i with e | e
  · subst e; simp
  · obtain ⟨j, rfl⟩ : ∃ j, i = j + 1 := ⟨i - 1, by omega⟩
    have hg : P[j]? = some (P[j]'(by omega)) := List.getElem?_eq_getElem _
    rw [if_neg (by omega), Nat.add_sub_cancel, List.getD_eq_getElem?_getD, zcum_at hg, ztake hg, List.flatten_append, List.length_append]
    simp
theorem zflat_at {P : List zP2} {i j : Nat} {p : zP2} {q : Int32 × Int32} (h : P[i]? = some p) (hq : p[j]? = some q) : P.flatten[(P.take i).flatten.length + j]? = some q := by
  have hl := zR_lt hq
  have e := zpre_flat h
  rw [show P.flatten = (P.take i).flatten ++ (p ++ (P.drop (i + 1)).flatten) by conv => lhs; rw [e, List.flatten_append, List.flatten_cons]]
  rw [List.getElem?_append_right (by omega), Nat.add_sub_cancel_left, List.getElem?_append_left hl]
  exact hq
def zHas (G : zG) (σ : zH) (r m : Nat) (P : List zP2) : Prop := zRows G σ r m P.flatten (zcum 0 P)
theorem zHas.len {G : zG} {σ : zH} {r m : Nat} {P : List zP2} (h : zHas G σ r m P) : P.length ≤ 8 ∧ P.flatten.length ≤ 300 := by
  obtain ⟨_, _, _, _, _, _, _, _, _, h7, h8, h9⟩ := h
  rw [zcum_len] at h8
  exact ⟨h8, by omega⟩
theorem zHas.c {G : zG} {σ : zH} {r m : Nat} {P : List zP2} (h : zHas G σ r m P) : σ r = some (zRC r m P.flatten.length (zcum 0 P).length) := by
  obtain ⟨_, _, _, h1, _⟩ := h
  exact h1
theorem zRows.c {G : zG} {σ : zH} {r m : Nat} {R : zP2} {E : List Nat} (h : zRows G σ r m R E) : σ r = some (zRC r m R.length E.length) := by
  obtain ⟨_, _, _, h1, _⟩ := h
  exact h1
def zAp (r s : Nat) : Prop := r + 7 ≤ s ∨ s + 7 ≤ r
theorem zRows.ap {G : zG} {σ σ' : zH} {r s m : Nat} {R : zP2} {E : List Nat} (h : zRows G σ r m R E) (hf : zFr σ σ' s 7) (ha : zAp r s) : zRows G σ' r m R E := h.fr fun b a c => hf b (by rcases ha with q | q <;> omega)
theorem zNode.ap {G : zG} {σ σ' : zH} {n s k : Nat} {D : Nat → Int32} {R : zP2} (h : zNode G σ n k D R) (hf : zFr σ σ' s 7) (ha : n + 8 ≤ s ∨ s + 7 ≤ n) : zNode G σ' n k D R := h.fr fun b a c => hf b (by omega)
/-- the rows whose places are such -/
def zpk (c : Nat → Bool) : Nat → zP2 → zP2
  | _, [] => []
  | k, q :: t => if c k then q :: zpk c (k + 1) t else zpk c (k + 1) t
theorem zpk_snoc (c : Nat → Bool) : ∀ (R : zP2) (q : Int32 × Int32) (k : Nat), zpk c k (R ++ [q]) = zpk c k R ++ (if c (k + R.length) then [q] else [])
  | [], q, k => by simp only [List.nil_append, zpk, List.length_nil, Nat.add_zero]
  | a :: t, q, k => by
    rw [List.cons_append, zpk, zpk, zpk_snoc c t q (k + 1), List.length_cons, show k + 1 + t.length = k + (t.length + 1) by omega]
    by_cases h : c k
    · rw [if_pos h, if_pos h, List.cons_append]
    · rw [if_neg h, if_neg h]
theorem zpk_le (c : Nat → Bool) : ∀ (R : zP2) (k : Nat), (zpk c k R).length ≤ R.length
  | [], k => by simp [zpk]
  | a :: t, k => by
    rw [zpk]
    by_cases h : c k
    · rw [if_pos h, List.length_cons, List.length_cons]; have := zpk_le c t (k + 1); omega
    · rw [if_neg h, List.length_cons]; have := zpk_le c t (k + 1); omega
theorem zpk_take (c : Nat → Bool) (R : zP2) (k j : Nat) : (zpk c k (R.take j)).length ≤ (zpk c k R).length := by
  have key : ∀ (A B : zP2) (k : Nat), (zpk c k A).length ≤ (zpk c k (A ++ B)).length := by
    intro A
    induction A with
    | nil => intro B k; simp [zpk]
    | cons a t ih =>
      intro B k
      rw [List.cons_append, zpk, zpk]
      by_cases h : c k
      · rw [if_pos h, if_pos h, List.length_cons, List.length_cons]; have := ih B (k + 1); omega
      · rw [if_neg h, if_neg h]; exact ih B (k + 1)
  have := key (R.take j) (R.drop j) k
  rwa [List.take_append_drop] at this
def zrng (p : Nat) (f : Nat → zP2) : List zP2 := (List.range p).map f
theorem zrng_s (p : Nat) (f : Nat → zP2) : zrng (p + 1) f = zrng p f ++ [f p] := by simp [zrng, List.range_succ]
theorem zrng_len (p : Nat) (f : Nat → zP2) : (zrng p f).length = p := by simp [zrng]
theorem zrng_fl {p i : Nat} {f : Nat → zP2} (h : i < p) : (zrng i f).flatten.length + (f i).length ≤ (zrng p f).flatten.length := by
  induction p with
  | zero => omega
  | succ p ih =>
    rw [zrng_s, List.flatten_append, List.length_append]
    rcases Nat.lt_or_ge i p with q | q
    · have := ih q; omega
    · have e : i = p := by omega
      subst e
      simp
def zdeal (R : zP2) (p : Nat) : List zP2 := zrng p fun i => zpk (fun k => k % p == i) 0 R
theorem zmd_small {k p : Nat} (hk : k < 2 ^ 31) (h0 : 0 < p) (hp : p < 2 ^ 31) : zmd (nI k) (nI p) = nI (k % p) := by
  have e := pk_rem hk h0 hp
  have h := Nat.mod_lt k h0
  rw [zmd, e, if_neg (nI_pos (by omega))]
/-- the rows of a key's matches -/
def zmat (q : Int32 × Int32) (S : zP2) : zP2 := (S.filter fun z => z.1 == q.1).map fun z => (q.1, q.2 + z.2)
theorem zmat_snoc (q : Int32 × Int32) (S : zP2) (z : Int32 × Int32) : zmat q (S ++ [z]) = zmat q S ++ (if z.1 = q.1 then [(q.1, q.2 + z.2)] else []) := by
  unfold zmat
  rw [List.filter_append, List.map_append]
  congr 1
  by_cases h : z.1 = q.1
  · simp [h]
  · simp [h]
theorem zmat_take (q : Int32 × Int32) (S : zP2) (j : Nat) : (zmat q (S.take j)).length ≤ (zmat q S).length := by
  have : zmat q S = zmat q (S.take j) ++ zmat q (S.drop j) := by
    unfold zmat
    rw [← List.map_append, ← List.filter_append, List.take_append_drop]
  rw [this, List.length_append]
  omega
def zfm (R S : zP2) : zP2 := R.flatMap fun q => zmat q S
theorem zfm_snoc (R S : zP2) (q : Int32 × Int32) : zfm (R ++ [q]) S = zfm R S ++ zmat q S := by simp [zfm]
theorem zfm_take (R S : zP2) (j : Nat) : (zfm (R.take j) S).length ≤ (zfm R S).length := by
  have : zfm R S = zfm (R.take j) S ++ zfm (R.drop j) S := by
    unfold zfm
    rw [← List.flatMap_append, List.take_append_drop]
  rw [this, List.length_append]
  omega
def zpart (p : Nat) (R : zP2) (i : Nat) : zP2 := R.filter fun q => zmd q.1 (nI p) == nI i
theorem zpart_snoc (p : Nat) (R : zP2) (i : Nat) (q : Int32 × Int32) : zpart p (R ++ [q]) i = zpart p R i ++ (if zmd q.1 (nI p) = nI i then [q] else []) := by
  unfold zpart
  rw [List.filter_append]
  congr 1
  by_cases h : zmd q.1 (nI p) = nI i
  · simp [h]
  · simp [h]
theorem zpart_take (p : Nat) (R : zP2) (i j : Nat) : (zpart p (R.take j) i).length ≤ (zpart p R i).length := by
  have : zpart p R i = zpart p (R.take j) i ++ zpart p (R.drop j) i := by
    unfold zpart
    rw [← List.filter_append, List.take_append_drop]
  rw [this, List.length_append]
  omega
theorem zpart_pre (p : Nat) (R : zP2) (i j : Nat) : zpart p R i = zpart p (R.take j) i ++ zpart p (R.drop j) i := by
  unfold zpart
  rw [← List.filter_append, List.take_append_drop]
/-- places by rising keys -/
def zcnt (R : zP2) (x : Int32) : Nat := (R.takeWhile fun q => decide (q.1 ≤ x)).length
theorem zcnt_le (R : zP2) (x : Int32) : zcnt R x ≤ R.length := (List.takeWhile_sublist _).length_le
theorem zcnt_of : ∀ (R : zP2) (x : Int32) (j : Nat), j ≤ R.length → (∀ (i : Nat) (q : Int32 × Int32), i < j → R[i]? = some q → q.1 ≤ x) → (∀ (i : Nat) (q : Int32 × Int32), j ≤ i → R[i]? = some q → ¬ q.1 ≤ x) → j = zcnt R x
  | [], x, j, h, _, _ => by simp at h; subst h; rfl
  | a :: t, x, 0, h, h1, h2 => by
    have := h2 0 a (Nat.le_refl _) rfl
    simp [zcnt, List.takeWhile_cons, this]
  | a :: t, x, j + 1, h, h1, h2 => by
    have := h1 0 a (by omega) rfl
    have ih := zcnt_of t x j (by simpa using h) (fun i q a b => h1 (i + 1) q (by omega) (by simpa using b)) (fun i q a b => h2 (i + 1) q (by omega) (by simpa using b))
    simp only [zcnt, List.takeWhile_cons, decide_eq_true this, if_true, List.length_cons]
    rw [ih]
    rfl
theorem zcnt_lt : ∀ (R : zP2) (x : Int32) (i : Nat) (q : Int32 × Int32), i < zcnt R x → R[i]? = some q → q.1 ≤ x
  | [], x, i, q, h, hq => by simp at hq
  | a :: t, x, i, q, h, hq => by
    simp only [zcnt, List.takeWhile_cons] at h
    by_cases ha : a.1 ≤ x
    · cases i with
      | zero => cases hq; exact ha
      | succ i =>
        simp only [decide_eq_true ha, if_true, List.length_cons] at h
        exact zcnt_lt t x i q (by unfold zcnt; omega) (by simpa using hq)
    · simp only [decide_eq_false ha] at h
      simp at h
theorem zcnt_ge : ∀ (R : zP2) (x : Int32) (i : Nat) (q : Int32 × Int32), zUp R → zcnt R x ≤ i → R[i]? = some q → ¬ q.1 ≤ x
  | [], x, i, q, _, h, hq => by simp at hq
  | a :: t, x, i, q, hu, h, hq => by
    simp only [zcnt, List.takeWhile_cons] at h
    by_cases ha : a.1 ≤ x
    · cases i with
      | zero => simp only [decide_eq_true ha, if_true, List.length_cons] at h; omega
      | succ i =>
        simp only [decide_eq_true ha, if_true, List.length_cons] at h
        exact zcnt_ge t x i q (fun i j a b hij hi hj => hu (i + 1) (j + 1) a b (by omega) (by simpa using hi) (by simpa using hj)) (by unfold zcnt; omega) (by simpa using hq)
    · intro hc
      have := hu 0 i a q (by omega) rfl hq
      exact ha (Int32.le_trans this hc)
theorem zUp_nil : zUp [] := fun i j a b _ h _ => by simp at h
theorem zUp_ins {R : zP2} {q : Int32 × Int32} (h : zUp R) : zUp (zins R (zcnt R q.1) q) := by
  have hle := zcnt_le R q.1
  intro i j a b hij ha hb
  rw [zins_at hle] at ha hb
  rcases Nat.lt_trichotomy i (zcnt R q.1) with h1 | h1 | h1
  · rw [if_pos h1] at ha
    rcases Nat.lt_trichotomy j (zcnt R q.1) with h2 | h2 | h2
    · rw [if_pos h2] at hb; exact h i j a b hij ha hb
    · rw [if_neg (by omega), if_pos h2] at hb; cases hb; exact zcnt_lt R q.1 i a h1 ha
    · rw [if_neg (by omega), if_neg (by omega)] at hb; exact h i (j - 1) a b (by omega) ha hb
  · rw [if_neg (by omega), if_pos h1] at ha
    cases ha
    rcases Nat.lt_trichotomy j (zcnt R q.1) with h2 | h2 | h2
    · omega
    · rw [if_neg (by omega), if_pos h2] at hb; cases hb; exact Int32.le_refl _
    · rw [if_neg (by omega), if_neg (by omega)] at hb
      exact Int32.le_of_lt (Int32.not_le.mp (zcnt_ge R q.1 (j - 1) b h (by omega) hb))
  · rw [if_neg (by omega), if_neg (by omega)] at ha
    rw [if_neg (by omega), if_neg (by omega)] at hb
    exact h (i - 1) (j - 1) a b (by omega) ha hb
theorem zUp_set {R : zP2} {j : Nat} {q : Int32 × Int32} {y : Int32} (h : zUp R) (hj : R[j]? = some q) : zUp (R.set j (q.1, y)) := by
  have key : ∀ (i : Nat) (a : Int32 × Int32), (R.set j (q.1, y))[i]? = some a → ∃ b, R[i]? = some b ∧ b.1 = a.1 := by
    intro i a ha
    by_cases e : i = j
    · subst e
      rw [List.getElem?_set_self (zR_lt hj)] at ha
      cases ha
      exact ⟨q, hj, rfl⟩
    · rw [List.getElem?_set_ne (Ne.symm e)] at ha
      exact ⟨a, ha, rfl⟩
  intro i k a b hik ha hb
  obtain ⟨a2, h1, h2⟩ := key i a ha
  obtain ⟨b2, h3, h4⟩ := key k b hb
  rw [← h2, ← h4]
  exact h i k a2 b2 hik h1 h3
/-- one row more into groups by rising keys -/
def zgad (D : Nat → Int32) (R : zP2) (q : Int32 × Int32) : zP2 :=
  if 0 < zcnt R q.1 ∧ ∃ z, R[zcnt R q.1 - 1]? = some z ∧ z.1 = q.1 then R.set (zcnt R q.1 - 1) (q.1, zg1 D (R.getD (zcnt R q.1 - 1) (0, 0)).2 q.2) else zins R (zcnt R q.1) (q.1, zg0 D q.2)
noncomputable def zgrp (D : Nat → Int32) (R : zP2) : zP2 := R.foldl (zgad D) []
def zsrt (R : zP2) : zP2 := R.foldl (fun a q => zins a (zcnt a q.1) q) []
