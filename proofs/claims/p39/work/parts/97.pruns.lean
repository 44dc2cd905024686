/-! the attempts of a whole run -/
theorem zcn_cap {s : Nat → Bool} {m n : Nat} (h : ∀ p, s p = true → p < m) (hm : m ≤ n) : zcn s n ≤ m := by
  have e : zcn s n = zcn s m := by
    have := zcn_top (s := s) (a := m) (fun p hp => by
      cases q : s p with
      | false => rfl
      | true => have := h p q; omega) (n - m)
    rw [show m + (n - m) = n by omega] at this
    exact this
  rw [e]
  exact zcn_le s m
theorem zcps_0 : ∀ {A : List zAE}, (∀ a ∈ A, a.2.2.2.2.2 = false) → zcps A = 0
  | [], _ => rfl
  | a :: A, h => by
    have ih := zcps_0 (A := A) fun x hx => h x (List.mem_cons_of_mem _ hx)
    rw [zcps] at ih ⊢
    rw [List.filter_cons_of_neg (by rw [h a List.mem_cons_self]; decide)]
    exact ih
theorem zcps_le (A : List zAE) : zcps A ≤ A.length := List.length_filter_le _ _
/-- a stage more -/
theorem zAt_stage {mk : Nat → Nat} {work slow : Nat → Nat} {sz T k m : Nat} {A : List zAE} (h : zAt sz T mk A) (hk : ∀ a ∈ A, a.1 < k) (hm : mk k = m) (m1 : 1 ≤ m) (m8 : m ≤ 8) (h1 : 1 ≤ sz) (h4 : sz ≤ 4) (hw : ∀ p, 1 ≤ work p) (hs : ∀ k, k < 4 → 1 ≤ slow k) {T' : Nat} {A' : List zAE}
    (eT : T' = (zwo work slow m k A.length sz 17 T (0, fun _ => 0, fun _ => false, fun _ => T, A)).1) (eA : A' = (zwo work slow m k A.length sz 17 T (0, fun _ => 0, fun _ => false, fun _ => T, A)).2.2.2.2.2) :
    zAt sz T' mk A' ∧ (∀ a ∈ A', a.1 < k + 1) ∧ T < T' ∧ A.length + m ≤ A'.length ∧ A'.length ≤ A.length + 2 * m := by
  have e0 : zcn (fun _ => false) 8 = 0 := zcn_nil 8
  have iv : zIv k m A.length sz T (0, fun _ => 0, fun _ => false, fun _ => T, A) := by
    refine ⟨Nat.zero_le _, Nat.le_refl _, fun _ => rfl, fun j a hj => ⟨fun _ => ?_, fun w => ?_⟩, fun j _ => Or.inl (Nat.le_refl _), fun p hp => (nomatch hp)⟩
    · exact Nat.ne_of_lt (hk a (List.mem_of_getElem? hj))
    · have hl := zR_lt hj
      exact absurd w (by show ¬ A.length ≤ j; exact Nat.not_le.mpr hl)
  obtain ⟨U, eU, iw, u1, ule, ⟨pm, pm1, pm2⟩, -, hlt⟩ := zwo_all39 (A0 := A) (o := k) (b0 := T) m8 h1 h4 hw hs 17 T _ (Nat.le_refl _) iv zIw_0 (by show m - 0 + (8 - zcn (fun _ => false) 8) ≤ 17; rw [e0]; omega) (Or.inl m1)
  rw [eU] at eA
  rw [← eT] at iw ule pm2 hlt
  have hT : T < T' := hlt m1
  clear eU iv hlt eT
  obtain ⟨n, ends, cop, idle, B⟩ := U
  have u1 : n = m := u1
  have eA : A' = B := eA
  subst u1
  subst eA
  have ule : ∀ p, p < n → ends p ≤ T' := ule
  have pm2 : ends pm = T' := pm2
  obtain ⟨-, c2, -, c4, c5, c6, c7⟩ := iw
  have c4 : ∀ p, cop p = true → p < n := c4
  have hcap := zcn_cap c4 m8
  have c2 : A'.length = A.length + n + zcn cop 8 := c2
  obtain ⟨g1, g2, g3, g4, g5⟩ := h
  have old : ∀ (j : Nat) (a : zAE), j < A.length → A'[j]? = some a → A[j]? = some a := fun j a hj ha => by rw [← c5 j hj]; exact ha
  have c6 : ∀ (j : Nat) (a : zAE), A'[j]? = some a → A.length ≤ j → (a.1 = k ∧ a.2.1 < n ∧ a.2.2.1 < sz ∧ T ≤ a.2.2.2.1 ∧ a.2.2.2.1 ≤ T' ∧ a.2.2.2.1 < a.2.2.2.2.1) ∧ a.2.2.2.2.1 = ends a.2.1 ∧ a.2.2.2.2.1 ≤ idle a.2.2.1 ∧ (j < A.length + n → a.2.1 = j - A.length ∧ a.2.2.2.2.2 = false) ∧ (A.length + n ≤ j → cop a.2.1 = true ∧ a.2.2.2.2.2 = true ∧ zwk A' (A.length + a.2.1) ≠ a.2.2.1) := c6
  have c7 : ∀ (i j : Nat) (a c : zAE), A'[i]? = some a → A'[j]? = some c → A.length ≤ i → i < j → a.2.2.2.1 ≤ c.2.2.2.1 ∧ (a.2.2.1 = c.2.2.1 → a.2.2.2.2.1 ≤ c.2.2.2.1) ∧ (A.length + n ≤ i → a.2.1 ≠ c.2.1) := c7
  refine ⟨⟨fun j a hj => ?_, fun i j a c hi hj hij => ?_, fun j c hj hc => ?_, Or.inr ⟨by omega, ?_⟩, ?_⟩, fun a ha => ?_, hT, by omega, by omega⟩
  · rcases Nat.lt_or_ge j A.length with q | q
    · obtain ⟨q1, q2, q3, q4⟩ := g1 j a (old j a q hj)
      exact ⟨q1, by omega, q3, q4⟩
    · obtain ⟨⟨q1, q2, q3, q4, q5, q6⟩, q7, -⟩ := c6 j a hj q
      exact ⟨q6, by rw [q7]; exact ule _ q2, q3, by rw [q1, hm]; exact q2⟩
  · rcases Nat.lt_or_ge i A.length with q | q
    · have ha := old i a q hi
      rcases Nat.lt_or_ge j A.length with y | y
      · exact g2 i j a c ha (old j c y hj) hij
      · obtain ⟨q1, q2, q3, q4⟩ := g1 i a ha
        obtain ⟨⟨y1, y2, y3, y4, y5, y6⟩, -⟩ := c6 j c hj y
        have hak := hk a (List.mem_of_getElem? ha)
        exact ⟨by omega, fun _ => by omega, Or.inr ⟨by omega, by omega⟩, fun w => by omega⟩
    · obtain ⟨⟨q1, q2, q3, q4, q5, q6⟩, q7, q8, q9, q10⟩ := c6 i a hi q
      obtain ⟨⟨y1, y2, y3, y4, y5, y6⟩, y7, y8, y9, y10⟩ := c6 j c hj (by omega)
      obtain ⟨z1, z2, z3⟩ := c7 i j a c hi hj q hij
      refine ⟨z1, z2, Or.inl (q1.trans y1.symm), fun _ w => ⟨by rw [q7, y7, w], ?_, ?_⟩⟩
      · rcases Nat.lt_or_ge j (A.length + n) with x | x
        · have := (y9 x).1
          have := (q9 (by omega)).1
          omega
        · obtain ⟨x1, x2, x3⟩ := y10 x
          rcases Nat.lt_or_ge i (A.length + n) with v | v
          · have e1 := (q9 v).1
            have e2 : A.length + c.2.1 = i := by omega
            rw [e2, zwk, List.getD_eq_getElem?_getD, hi] at x3
            exact x3
          · exact absurd w (z3 v)
      · rcases Nat.lt_or_ge j (A.length + n) with x | x
        · have := (y9 x).1
          have := (q9 (by omega)).1
          omega
        · exact (y10 x).2.1
  · rcases Nat.lt_or_ge j A.length with q | q
    · obtain ⟨i, a, i1, i2, i3, i4, i5⟩ := g3 j c (old j c q hj) hc
      exact ⟨i, a, i1, by rw [c5 i (by omega)]; exact i2, i3, i4, fun i' a' w w2 => i5 i' a' w (old i' a' (by omega) w2)⟩
    · obtain ⟨⟨y1, y2, y3, y4, y5, y6⟩, y7, y8, y9, y10⟩ := c6 j c hj q
      have x : A.length + n ≤ j := by
        rcases Nat.lt_or_ge j (A.length + n) with x | x
        · rw [(y9 x).2] at hc; exact nomatch hc
        · exact x
      have hil : A.length + c.2.1 < A'.length := by omega
      obtain ⟨a, ha⟩ : ∃ a, A'[A.length + c.2.1]? = some a := ⟨_, List.getElem?_eq_getElem hil⟩
      obtain ⟨⟨q1, -⟩, -, -, q9, -⟩ := c6 _ a ha (by omega)
      refine ⟨A.length + c.2.1, a, by omega, ha, q1.trans y1.symm, by have := (q9 (by omega)).1; omega, fun i' a' w w2 w3 w4 => ?_⟩
      rcases Nat.lt_or_ge i' A.length with v | v
      · have := hk a' (List.mem_of_getElem? (old i' a' v w2))
        omega
      · obtain ⟨-, -, -, v9, -⟩ := c6 i' a' w2 v
        rcases Nat.lt_or_ge i' (A.length + n) with u | u
        · have := (v9 u).1; omega
        · exact absurd w4 ((c7 i' j a' c w2 hj v w).2.2 u)
  · have hil : A.length + pm < A'.length := by omega
    obtain ⟨a, ha⟩ : ∃ a, A'[A.length + pm]? = some a := ⟨_, List.getElem?_eq_getElem hil⟩
    obtain ⟨-, q7, -, q9, -⟩ := c6 _ a ha (by omega)
    refine ⟨a, List.mem_of_getElem? ha, ?_⟩
    rw [q7, (q9 (by omega)).1, Nat.add_sub_cancel_left]
    exact pm2
  · have e1 : A'.take A.length = A := by
      refine List.ext_getElem? fun j => ?_
      rcases Nat.lt_or_ge j A.length with q | q
      · rw [List.getElem?_take_of_lt q]; exact c5 j q
      · rw [List.getElem?_eq_none (by rw [List.length_take]; omega), List.getElem?_eq_none q]
    have e2 : A' = A ++ ((A'.drop A.length).take n ++ (A'.drop A.length).drop n) := by
      conv => lhs; rw [← List.take_append_drop A.length A', e1]
      rw [List.take_append_drop]
    have e3 : zcps ((A'.drop A.length).take n) = 0 := zcps_0 fun a ha => by
      obtain ⟨j, hj⟩ := List.getElem?_of_mem ha
      have hl := zR_lt hj
      rw [List.length_take] at hl
      rw [List.getElem?_take_of_lt (by omega), List.getElem?_drop] at hj
      obtain ⟨-, -, -, q9, -⟩ := c6 _ a hj (by omega)
      exact (q9 (by omega)).2
    have e4 := zcps_le ((A'.drop A.length).drop n)
    rw [List.length_drop, List.length_drop] at e4
    have e5 := congrArg zcps e2
    rw [zcps_app, zcps_app, e3] at e5
    omega
  · obtain ⟨j, hj⟩ := List.getElem?_of_mem ha
    rcases Nat.lt_or_ge j A.length with q | q
    · have := hk a (List.mem_of_getElem? (old j a q hj)); omega
    · have := (c6 j a hj q).1.1; omega
/-- how many tasks the outputs have -/
def zot (s : Nat → Bool) (mk : Nat → Nat) : Nat → Nat
  | 0 => 0
  | k + 1 => zot s mk k + (if s k = true then mk k else 0)
def ztsk (s : Nat → Bool) (mk : Nat → Nat) : Nat → Nat
  | 0 => 0
  | n + 1 => ztsk s mk n + mk (znu s n)
theorem ztsk_eq (s : Nat → Bool) (mk : Nat → Nat) : ∀ k, k ≤ 14 → ztsk s mk (zcn s k) = zot s mk k
  | 0, _ => rfl
  | k + 1, h => by
    have ih := ztsk_eq s mk k (by omega)
    rw [zcn, zot]
    by_cases c : s k = true
    · rw [if_pos c, if_pos c, ztsk, ih, znu_of (by omega) c rfl]
    · rw [if_neg c, if_neg c]
      exact ih
theorem zAt_0 (sz : Nat) (mk : Nat → Nat) : zAt sz 0 mk [] := ⟨fun k a h => by simp at h, fun i k a c h => by simp at h, fun k c h => by simp at h, Or.inl ⟨rfl, rfl⟩, Nat.le_refl _⟩
theorem zrn_at {lim : Nat} {nt : zNT} {C : Nat → Bool} {mem : Nat} {slow : Nat → Nat} {wk : Nat} {O : Nat → Bool} (hw : zWf nt) (hl : nt.length ≤ 14) (hs : ∀ k, k < 4 → 1 ≤ slow k) (h1 : 1 ≤ wk) (h4 : wk ≤ 4) (hO : ∀ k, O k = true → k < nt.length) : ∀ k,
    zAt wk (zrn lim nt C mem slow wk O k).1 (fun o => (zct lim nt o).length) (zrn lim nt C mem slow wk O k).2.1 ∧ (∀ a ∈ (zrn lim nt C mem slow wk O k).2.1, a.1 < k ∧ a.1 < nt.length) ∧ zot O (fun o => (zct lim nt o).length) k ≤ (zrn lim nt C mem slow wk O k).2.1.length ∧ (zrn lim nt C mem slow wk O k).2.1.length ≤ 2 * zot O (fun o => (zct lim nt o).length) k
  | 0 => ⟨zAt_0 _ _, fun a h => absurd h List.not_mem_nil, Nat.le_refl _, Nat.le_refl _⟩
  | k + 1 => by
    obtain ⟨i1, i2, i3, i4⟩ := zrn_at (lim := lim) (C := C) (mem := mem) hw hl hs h1 h4 hO k
    rw [zrn, zot]
    by_cases c : O k = true
    · rw [if_pos c, if_pos c]
      obtain ⟨-, m1, m8⟩ := zct_le (lim := lim) hw hl (hO k c)
      obtain ⟨j1, j2, j3, j4, j5⟩ := zAt_stage (mk := fun o => (zct lim nt o).length) (work := zwf (zsum lim nt C k) mem) (slow := slow) (k := k) i1 (fun a ha => (i2 a ha).1) rfl m1 m8 h1 h4 (fun p => by unfold zwf; omega) hs rfl rfl
      refine ⟨j1, fun a ha => ⟨j2 a ha, ?_⟩, Nat.le_trans (Nat.add_le_add_right i3 _) j4, Nat.le_trans j5 (by show _ ≤ 2 * (zot O (fun o => (zct lim nt o).length) k + (zct lim nt k).length); omega)⟩
      have := j2 a ha
      have := hO k c
      omega
    · rw [if_neg c, if_neg c, Nat.add_zero]
      exact ⟨i1, fun a ha => ⟨by have := (i2 a ha).1; omega, (i2 a ha).2⟩, i3, i4⟩
theorem zsp_le {rd : Nat → Nat} {mem : Nat} (h : ∀ p, rd p ≤ 4500) : ∀ m, zsp rd mem m ≤ 4500 * m
  | 0 => Nat.le_refl _
  | m + 1 => by
    have := zsp_le (mem := mem) h m
    have := h m
    rw [zsp]
    omega
theorem zrn_sp {lim : Nat} {nt : zNT} {C : Nat → Bool} {mem : Nat} {slow : Nat → Nat} {wk : Nat} {O : Nat → Bool} (hw : zWf nt) (hl : nt.length ≤ 14) (hO : ∀ k, O k = true → k < nt.length) : ∀ k, (zrn lim nt C mem slow wk O k).2.2 ≤ 36000 * k
  | 0 => Nat.le_refl _
  | k + 1 => by
    have ih := zrn_sp (lim := lim) (C := C) (mem := mem) (slow := slow) (wk := wk) hw hl hO k
    rw [zrn]
    by_cases c : O k = true
    · rw [if_pos c]
      obtain ⟨-, m1, m8⟩ := zct_le (lim := lim) hw hl (hO k c)
      have := zsp_le (rd := zsum lim nt C k) (mem := mem) (fun p => zsum_le hw hl (hO k c) p) (zct lim nt k).length
      show (zrn lim nt C mem slow wk O k).2.2 + zsp (zsum lim nt C k) mem (zct lim nt k).length ≤ _
      omega
    · rw [if_neg c]
      omega
/-! the cache behind a run -/
theorem zsm_c (q : Nat × Nat) (L : zNS) : zsm (q :: L) = q.2 + zsm L := by simp [zsm]
theorem zsm_a (K L : zNS) : zsm (K ++ L) = zsm K + zsm L := by simp [zsm]
theorem zmkr_sm (r s : Nat) : ∀ L : zNS, zmkr r s L = [] ∨ zsm (zmkr r s L) + s ≤ r
  | [] => Or.inl rfl
  | q :: L => by
    rw [zmkr]
    by_cases c : zsm (q :: L) + s > r
    · rw [if_pos c]; exact zmkr_sm r s L
    · rw [if_neg c]; exact Or.inr (by omega)
theorem zmkr_sm0 (r : Nat) (L : zNS) : zsm (zmkr r 0 L) ≤ r := by
  rcases zmkr_sm r 0 L with h | h
  · rw [h]; exact Nat.zero_le _
  · omega
theorem zent_sm {r j s : Nat} {L : zNS} (h : zsm L ≤ r) : zsm (zent r j s L) ≤ r := by
  unfold zent
  by_cases c : s ≤ r
  · rw [if_pos c, zsm_a]
    have e : zsm [(j, s)] = s := by simp [zsm]
    rw [e]
    rcases zmkr_sm r s L with h | h
    · rw [h]; show 0 + s ≤ r; omega
    · exact h
  · rw [if_neg c]; exact h
theorem zlat_sm (k : Nat) : ∀ L : zNS, zsm (zlat L k) = zsm L
  | [] => rfl
  | q :: L => by
    have ih := zlat_sm k L
    unfold zlat at ih ⊢
    rw [zsm_a] at ih
    by_cases c : q.1 = k
    · rw [List.filter_cons_of_neg (by simpa using c), List.filter_cons_of_pos (by simpa using c), zsm_a, zsm_c, zsm_c]
      omega
    · rw [List.filter_cons_of_pos (by simpa using c), List.filter_cons_of_neg (by simpa using c), List.cons_append, zsm_c, zsm_a, zsm_c]
      omega
theorem zren1_sm (U : Nat → Bool) (L : zNS) : ∀ n, zsm (zren1 U L n) = zsm L ∧ zcd (zren1 U L n) = zcd L
  | 0 => ⟨rfl, rfl⟩
  | n + 1 => by
    obtain ⟨h1, h2⟩ := zren1_sm U L n
    rw [zren1]
    by_cases c : U n = true
    · rw [if_pos c, zlat_sm, zlat_cd]; exact ⟨h1, h2⟩
    · rw [if_neg c]; exact ⟨h1, h2⟩
theorem zren2_sm {lim : Nat} {nt : zNT} {W : Nat → Bool} {r : Nat} {L : zNS} (h : zsm L ≤ r) : ∀ n, zsm (zren2 lim nt W r L n) ≤ r
  | 0 => h
  | n + 1 => by
    rw [zren2]
    split
    · exact zent_sm (zren2_sm h n)
    · exact zren2_sm h n
theorem zren2_has {lim : Nat} {nt : zNT} {W : Nat → Bool} {r i : Nat} {L : zNS} (hi : i < 14) (hW : W i = true) (htop : ∀ m, i + 1 ≤ m → W m = false) (hm : zmkd nt i = true) (hr : (zct lim nt i).flatten.length ≤ r) : zcd (zren2 lim nt W r L 14) i = true := by
  have e := zren2_skip (lim := lim) (nt := nt) (r := r) (L := L) htop (14 - (i + 1))
  rw [show i + 1 + (14 - (i + 1)) = 14 by omega] at e
  rw [e, zren2]
  by_cases c : zcd (zren2 lim nt W r L i) i = false
  · rw [if_pos ⟨hW, hm, c⟩, zent, if_pos hr]
    exact zcd_m.mpr ⟨_, List.mem_append_right _ (List.mem_singleton.mpr rfl), rfl⟩
  · rw [if_neg (fun w => c w.2.2)]
    cases q : zcd (zren2 lim nt W r L i) i with
    | true => rfl
    | false => exact absurd q c
theorem zren2_none {lim : Nat} {nt : zNT} {r : Nat} {L : zNS} : ∀ n, zren2 lim nt (fun _ => false) r L n = L
  | 0 => rfl
  | n + 1 => by rw [zren2, if_neg (fun w => nomatch w.1)]; exact zren2_none n
