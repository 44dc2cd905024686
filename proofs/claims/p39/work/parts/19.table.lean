/-! the table of nodes: what is so of every node made, and what each holds -/
def zw (e : zNX) : Nat := (e.2.2.1 4).toNatClampNeg
def zWn (nt : zNT) (i : Nat) (e : zNX) : Prop := ∃ f s p : Nat, e.2.1 < 6 ∧ (e.2.2.1 3 = nI (zb e) ∧ zb e ≤ 300 ∧ e.2.2.1 4 = nI (zw e) ∧ 1 ≤ zw e ∧ zw e ≤ 8) ∧
  (1 ≤ e.2.1 → f < i ∧ e.2.2.1 1 = nI f) ∧ (e.2.1 = 0 → e.2.2.1 1 = -1) ∧ (e.2.1 = 3 ∨ e.2.1 = 5 → s < i ∧ e.2.2.1 2 = nI s) ∧ (¬ (e.2.1 = 3 ∨ e.2.1 = 5) → e.2.2.1 2 = -1) ∧
  (e.2.1 = 0 ∨ e.2.1 = 4 ∨ e.2.1 = 5 → 1 ≤ p ∧ p ≤ 4 ∧ e.2.2.1 6 = nI p) ∧ (e.2.1 = 0 → e.2.2.2.length ≤ 12) ∧ (e.2.1 ≠ 0 → e.2.2.2 = []) ∧ (e.2.1 = 1 → e.2.2.1 7 = 3 → 0 < e.2.2.1 8) ∧
  (e.2.1 = 0 → zb e = 12 ∧ zw e = p) ∧ (e.2.1 = 1 ∨ e.2.1 = 2 → zb e = zb (nt.getD f zdf) ∧ zw e = zw (nt.getD f zdf)) ∧ (e.2.1 = 3 → zb e = zb (nt.getD f zdf) + zb (nt.getD s zdf) ∧ zw e = zw (nt.getD f zdf) + zw (nt.getD s zdf)) ∧
  (e.2.1 = 4 → zb e = zb (nt.getD f zdf) ∧ zw e = p) ∧ (e.2.1 = 5 → zb e = zb (nt.getD f zdf) * zb (nt.getD s zdf) ∧ zw e = max p (zw (nt.getD f zdf))) ∧
  ∀ j, j < 32 → bt (e.2.2.1 12) j = (decide (j = i) || (decide (1 ≤ e.2.1) && bt ((nt.getD f zdf).2.2.1 12) j) || (decide (e.2.1 = 3 ∨ e.2.1 = 5) && bt ((nt.getD s zdf).2.2.1 12) j))
def zWf (nt : zNT) : Prop := ∀ (i : Nat) (e : zNX), nt[i]? = some e → zWn nt i e
def zget (L : List (List zP2)) (x : Int32) : List zP2 := L.getD x.toNatClampNeg []
noncomputable def zall (ip : Bool) (lim : Nat) (nt : zNT) : List (List zP2) := nt.foldl (fun L e => L ++ [zcont ip lim e.2.1 e.2.2.1 e.2.2.2 (zget L (e.2.2.1 1)) (zget L (e.2.2.1 2))]) []
theorem zall_snoc (ip : Bool) (lim : Nat) (nt : zNT) (e : zNX) : zall ip lim (nt ++ [e]) = zall ip lim nt ++ [zcont ip lim e.2.1 e.2.2.1 e.2.2.2 (zget (zall ip lim nt) (e.2.2.1 1)) (zget (zall ip lim nt) (e.2.2.1 2))] := by simp only [zall, List.foldl_append, List.foldl_cons, List.foldl_nil]
theorem zall_take (ip : Bool) (lim : Nat) (nt : zNT) : ∀ m, m ≤ nt.length → (zall ip lim (nt.take m)).length = m ∧ ∀ j, j < m → (zall ip lim (nt.take m))[j]? = (zall ip lim nt)[j]? := by
  have len : ∀ m, m ≤ nt.length → (zall ip lim (nt.take m)).length = m := by
    intro m
    induction m with
    | zero => intro _; simp [zall]
    | succ m ih =>
      intro h
      have hg : nt[m]? = some (nt[m]'(by omega)) := List.getElem?_eq_getElem _
      rw [ztake hg, zall_snoc, List.length_append, ih (by omega)]
      rfl
  have step : ∀ d m, m + d = nt.length → ∀ j, j < m → (zall ip lim (nt.take m))[j]? = (zall ip lim nt)[j]? := by
    intro d
    induction d with
    | zero => intro m h j _; rw [show nt.take m = nt from List.take_of_length_le (by omega)]
    | succ d ih =>
      intro m h j hj
      have hg : nt[m]? = some (nt[m]'(by omega)) := List.getElem?_eq_getElem _
      rw [← ih (m + 1) (by omega) j (by omega), ztake hg, zall_snoc, List.getElem?_append_left (by rw [len m (by omega)]; exact hj)]
  exact fun m h => ⟨len m h, step (nt.length - m) m (by omega)⟩
noncomputable def zcon (ip : Bool) (lim : Nat) (nt : zNT) (i : Nat) : List zP2 := (zall ip lim nt).getD i []
theorem zcont_irr {ip : Bool} {lim k : Nat} {D : Nat → Int32} {R : zP2} {P P' S S' : List zP2} (h1 : 1 ≤ k → P = P') (h2 : k = 3 ∨ 5 ≤ k → S = S') : zcont ip lim k D R P S = zcont ip lim k D R P' S' := by
  unfold zcont
  by_cases a0 : k = 0
  · rw [if_pos a0, if_pos a0]
  · have := h1 (by omega)
    subst this
    rw [if_neg a0, if_neg a0]
    by_cases a1 : k = 1
    · rw [if_pos a1, if_pos a1]
    · rw [if_neg a1, if_neg a1]
      by_cases a2 : k = 2
      · rw [if_pos a2, if_pos a2]
      · rw [if_neg a2, if_neg a2]
        by_cases a3 : k = 3
        · rw [if_pos a3, if_pos a3, h2 (Or.inl a3)]
        · rw [if_neg a3, if_neg a3]
          by_cases a4 : k = 4
          · rw [if_pos a4, if_pos a4]
          · rw [h2 (Or.inr (by omega))]
theorem zcon_at {ip : Bool} {lim i f s : Nat} {nt : zNT} {e : zNX} (he : nt[i]? = some e) (hl : nt.length ≤ 14) (hk : e.2.1 < 6) (h1 : 1 ≤ e.2.1 → f < i ∧ e.2.2.1 1 = nI f) (h2 : e.2.1 = 3 ∨ e.2.1 = 5 → s < i ∧ e.2.2.1 2 = nI s) :
    zcon ip lim nt i = zcont ip lim e.2.1 e.2.2.1 e.2.2.2 (zcon ip lim nt f) (zcon ip lim nt s) := by
  have hi := zR_lt he
  obtain ⟨l1, l2⟩ := zall_take ip lim nt i (by omega)
  obtain ⟨l3, l4⟩ := zall_take ip lim nt (i + 1) (by omega)
  have e1 : zcon ip lim nt i = zcont ip lim e.2.1 e.2.2.1 e.2.2.2 (zget (zall ip lim (nt.take i)) (e.2.2.1 1)) (zget (zall ip lim (nt.take i)) (e.2.2.1 2)) := by
    rw [zcon, List.getD_eq_getElem?_getD, ← l4 i (by omega), ztake he, zall_snoc, List.getElem?_append_right (by omega), l1, Nat.sub_self]
    rfl
  rw [e1]
  refine zcont_irr (fun q => ?_) (fun q => ?_)
  · obtain ⟨a, b⟩ := h1 q
    rw [zget, b, nI_clamp (by omega), zcon, List.getD_eq_getElem?_getD, List.getD_eq_getElem?_getD, l2 f a]
  · obtain ⟨a, b⟩ := h2 (by omega)
    rw [zget, b, nI_clamp (by omega), zcon, List.getD_eq_getElem?_getD, List.getD_eq_getElem?_getD, l2 s a]
-- lengths
theorem zrng_one (p c : Nat) (f : Nat → zP2) (q : Int32 × Int32) : (zrng p (fun i => f i ++ (if c = i then [q] else []))).flatten.length = (zrng p f).flatten.length + (if c < p then 1 else 0) := by
  induction p with
  | zero => simp [zrng]
  | succ p ih =>
    rw [zrng_s, zrng_s, List.flatten_append, List.flatten_append, List.length_append, List.length_append, ih]
    simp only [List.flatten_cons, List.flatten_nil, List.append_nil, List.length_append]
    rcases Nat.lt_trichotomy c p with h | h | h
    · have a1 : c < p + 1 := by omega
      have a2 : ¬ c = p := by omega
      rw [if_pos h, if_pos a1, if_neg a2, List.length_nil]; omega
    · have a0 : ¬ c < p := by omega
      have a1 : c < p + 1 := by omega
      rw [if_neg a0, if_pos a1, if_pos h, List.length_cons, List.length_nil]; omega
    · have a0 : ¬ c < p := by omega
      have a1 : ¬ c < p + 1 := by omega
      have a2 : ¬ c = p := by omega
      rw [if_neg a0, if_neg a1, if_neg a2, List.length_nil]; omega
theorem zrng_ext {p : Nat} {f g : Nat → zP2} (h : ∀ i, i < p → f i = g i) : zrng p f = zrng p g := by
  unfold zrng
  exact List.map_congr_left fun i hi => h i (List.mem_range.mp hi)
theorem zpart_tot {p : Nat} (h0 : 0 < p) (hp : p ≤ 8) (R : zP2) : (zrng p (zpart p R)).flatten.length = R.length := by
  have key : ∀ n, n ≤ R.length → (zrng p (zpart p (R.take n))).flatten.length = n := by
    intro n
    induction n with
    | zero =>
      intro _
      rw [List.take_zero]
      have : ∀ m, (zrng m (zpart p [])).flatten.length = 0 := by
        intro m
        induction m with
        | zero => rfl
        | succ m ih => rw [zrng_s, List.flatten_append, List.length_append, ih]; rfl
      exact this p
    | succ n ih =>
      intro hn
      have hg : R[n]? = some (R[n]'(by omega)) := List.getElem?_eq_getElem _
      generalize R[n]'(by omega) = q at hg
      obtain ⟨c, hc, ec⟩ := zmd_nI (x := q.1) h0 (show p < 2 ^ 31 by omega)
      have e : zrng p (zpart p (R.take (n + 1))) = zrng p (fun i => zpart p (R.take n) i ++ (if c = i then [q] else [])) := by
        refine zrng_ext fun i hi => ?_
        rw [ztake hg, zpart_snoc, ec]
        congr 1
        by_cases h : c = i
        · rw [if_pos h, if_pos (by rw [h])]
        · rw [if_neg h, if_neg (fun z => h ((nI_eq (by omega) (by omega)).mp z))]
      rw [e, zrng_one, ih (by omega), if_pos hc]
  have := key R.length (Nat.le_refl _)
  rwa [List.take_length] at this
theorem zdeal_tot {p : Nat} (h0 : 0 < p) (R : zP2) : (zdeal R p).flatten.length = R.length := by
  have key : ∀ n, n ≤ R.length → (zdeal (R.take n) p).flatten.length = n := by
    intro n
    induction n with
    | zero =>
      intro _
      rw [List.take_zero]
      have : ∀ m, (zrng m (fun i => zpk (fun k => k % p == i) 0 [])).flatten.length = 0 := by
        intro m
        induction m with
        | zero => rfl
        | succ m ih => rw [zrng_s, List.flatten_append, List.length_append, ih]; rfl
      exact this p
    | succ n ih =>
      intro hn
      have hg : R[n]? = some (R[n]'(by omega)) := List.getElem?_eq_getElem _
      generalize R[n]'(by omega) = q at hg
      have e : zdeal (R.take (n + 1)) p = zrng p (fun i => zpk (fun k => k % p == i) 0 (R.take n) ++ (if n % p = i then [q] else [])) := by
        refine zrng_ext fun i hi => ?_
        rw [ztake hg, zpk_snoc, Nat.zero_add, List.length_take, Nat.min_eq_left (by omega)]
        congr 1
        by_cases h : n % p = i
        · rw [if_pos h, if_pos (by simpa using h)]
        · rw [if_neg h, if_neg (by simpa using h)]
      rw [e, zrng_one, if_pos (Nat.mod_lt n h0)]
      exact congrArg (· + 1) (ih (by omega))
  have := key R.length (Nat.le_refl _)
  rwa [List.take_length] at this
theorem zmat_len (q : Int32 × Int32) (S : zP2) : (zmat q S).length ≤ S.length := by rw [zmat, List.length_map]; exact List.length_filter_le _ _
theorem zfm_len (R S : zP2) : (zfm R S).length ≤ R.length * S.length := by
  induction R with
  | nil => simp [zfm]
  | cons q t ih =>
    have e : zfm (q :: t) S = zmat q S ++ zfm t S := by simp [zfm]
    rw [e, List.length_append, List.length_cons, Nat.add_mul, Nat.one_mul]
    have := zmat_len q S
    omega
theorem zjp_len (p : Nat) (B S : zP2) : ∀ m, (zrng m (zjp p B S)).flatten.length ≤ (zrng m (zpart p B)).flatten.length * S.length := by
  intro m
  induction m with
  | zero => simp [zrng]
  | succ m ih =>
    rw [zrng_s, zrng_s, List.flatten_append, List.flatten_append, List.length_append, List.length_append, Nat.add_mul]
    have := zfm_len (zpart p B m) S
    simp only [List.flatten_cons, List.flatten_nil, List.append_nil, zjp]
    omega
theorem zmapP_len (D : Nat → Int32) : ∀ T : List zP2, (T.map (zmapP D)).flatten.length = T.flatten.length := by
  intro T
  induction T with
  | nil => rfl
  | cons a t ih => rw [List.map_cons, List.flatten_cons, List.flatten_cons, List.length_append, List.length_append, ih, zmapP, List.length_map]
theorem zsifP_len (D : Nat → Int32) : ∀ T : List zP2, (T.map (zsifP D)).flatten.length ≤ T.flatten.length := by
  intro T
  induction T with
  | nil => exact Nat.le_refl _
  | cons a t ih => rw [List.map_cons, List.flatten_cons, List.flatten_cons, List.length_append, List.length_append]; have : (zsifP D a).length ≤ a.length := List.length_filter_le _ a; omega
theorem zfmP_len (S : zP2) : ∀ T : List zP2, (T.map (zfmP S)).flatten.length ≤ T.flatten.length * S.length := by
  intro T
  induction T with
  | nil => simp
  | cons a t ih => rw [List.map_cons, List.flatten_cons, List.flatten_cons, List.length_append, List.length_append, Nat.add_mul]; have := zfm_len a S; simp only [zfmP] at *; omega
/-- what a node holds keeps to its bound and width -/
theorem zcon_len {nt : zNT} (hw : zWf nt) (hl : nt.length ≤ 14) (ip : Bool) (lim : Nat) : ∀ (i : Nat) (e : zNX), nt[i]? = some e → (zcon ip lim nt i).flatten.length ≤ zb e ∧ 1 ≤ (zcon ip lim nt i).length ∧ (zcon ip lim nt i).length ≤ (if ip then 1 else zw e) := by
  intro i
  induction i using Nat.strongRecOn with
  | _ i ih =>
    intro e he
    have hi := zR_lt he
    obtain ⟨f, s, p, k6, ⟨b1, b2, w1, w2, w3⟩, hf, hf0, hs, hs0, hp, hR, hR0, hc, q0, q12, q3, q4, q5, -⟩ := hw i e he
    rw [zcon_at he hl k6 hf hs]
    have gf : 1 ≤ e.2.1 → (zcon ip lim nt f).flatten.length ≤ zb (nt.getD f zdf) ∧ 1 ≤ (zcon ip lim nt f).length ∧ (zcon ip lim nt f).length ≤ (if ip then 1 else zw (nt.getD f zdf)) := fun q => by
      have hlt := (hf q).1
      have hg : nt[f]? = some (nt[f]'(by omega)) := List.getElem?_eq_getElem _
      have := ih f hlt _ hg
      rw [List.getD_eq_getElem?_getD, hg]
      exact this
    have gs : e.2.1 = 3 ∨ e.2.1 = 5 → (zcon ip lim nt s).flatten.length ≤ zb (nt.getD s zdf) ∧ 1 ≤ (zcon ip lim nt s).length ∧ (zcon ip lim nt s).length ≤ (if ip then 1 else zw (nt.getD s zdf)) := fun q => by
      have hlt := (hs q).1
      have hg : nt[s]? = some (nt[s]'(by omega)) := List.getElem?_eq_getElem _
      have := ih s hlt _ hg
      rw [List.getD_eq_getElem?_getD, hg]
      exact this
    have tp : e.2.1 = 0 ∨ e.2.1 = 4 ∨ e.2.1 = 5 → 0 < ztp ip e.2.2.1 ∧ ztp ip e.2.2.1 ≤ 8 ∧ ztp ip e.2.2.1 ≤ (if ip then 1 else p) := fun q => by
      obtain ⟨a, b, c⟩ := hp q
      cases ip with
      | true => exact ⟨Nat.one_pos, by show 1 ≤ 8; omega, Nat.le_refl _⟩
      | false =>
        have e9 : ztp false e.2.2.1 = p := by simp only [ztp, Bool.false_eq_true, if_false, c]; exact nI_clamp (by omega)
        rw [e9]
        exact ⟨by omega, by omega, Nat.le_refl _⟩
    clear ih hw
    generalize zcon ip lim nt f = P at *
    generalize zcon ip lim nt s = S at *
    generalize nt.getD f zdf = ef at *
    generalize nt.getD s zdf = es at *
    obtain ⟨n, k, D, R⟩ := e
    simp only at *
    unfold zcont
    rcases (show k = 0 ∨ k = 1 ∨ k = 2 ∨ k = 3 ∨ k = 4 ∨ k = 5 by omega) with h | h | h | h | h | h <;> subst h
    · obtain ⟨t1, t2, t3⟩ := tp (Or.inl rfl)
      obtain ⟨c1, c2⟩ := q0 rfl
      rw [if_pos rfl, zdeal_tot t1, zdeal, zrng_len, c1, c2]
      exact ⟨hR rfl, t1, t3⟩
    · obtain ⟨g1, g2, g3⟩ := gf (by omega)
      obtain ⟨c1, c2⟩ := q12 (Or.inl rfl)
      rw [if_neg (by decide), if_pos rfl, zmapP_len, List.length_map, c1, c2]
      exact ⟨g1, g2, g3⟩
    · obtain ⟨g1, g2, g3⟩ := gf (by omega)
      obtain ⟨c1, c2⟩ := q12 (Or.inr rfl)
      rw [if_neg (by decide), if_neg (by decide), if_pos rfl, List.length_map, c1, c2]
      exact ⟨Nat.le_trans (zsifP_len D P) g1, g2, g3⟩
    · obtain ⟨g1, g2, g3⟩ := gf (by omega)
      obtain ⟨g4, g5, g6⟩ := gs (Or.inl rfl)
      obtain ⟨c1, c2⟩ := q3 rfl
      rw [if_neg (by decide), if_neg (by decide), if_neg (by decide), if_pos rfl, c1, c2]
      cases ip with
      | true => exact ⟨by simp only [zuni, if_true, List.flatten_cons, List.flatten_nil, List.append_nil, List.length_append]; omega, Nat.le_refl _, Nat.le_refl _⟩
      | false =>
        simp only [zuni, Bool.false_eq_true, if_false] at *
        rw [List.flatten_append, List.length_append, List.length_append]
        exact ⟨by omega, by omega, by omega⟩
    · obtain ⟨g1, g2, g3⟩ := gf (by omega)
      obtain ⟨t1, t2, t3⟩ := tp (Or.inr (Or.inl rfl))
      obtain ⟨c1, c2⟩ := q4 rfl
      rw [if_neg (by decide), if_neg (by decide), if_neg (by decide), if_neg (by decide), if_pos rfl, zpart_tot t1 t2, zrng_len, c1, c2]
      exact ⟨Nat.le_trans (zgrp_up D P.flatten).2 g1, t1, t3⟩
    · obtain ⟨g1, g2, g3⟩ := gf (by omega)
      obtain ⟨g4, g5, g6⟩ := gs (Or.inr rfl)
      obtain ⟨t1, t2, t3⟩ := tp (Or.inr (Or.inr rfl))
      obtain ⟨c1, c2⟩ := q5 rfl
      rw [if_neg (by decide), if_neg (by decide), if_neg (by decide), if_neg (by decide), if_neg (by decide), c1, c2]
      have mul : P.flatten.length * S.flatten.length ≤ zb ef * zb es := Nat.mul_le_mul g1 g4
      by_cases hb : ip = false ∧ S.flatten.length ≤ lim
      · rw [if_pos hb, List.length_map]
        have hip := hb.1
        subst hip
        simp only [Bool.false_eq_true, if_false] at *
        exact ⟨Nat.le_trans (zfmP_len _ _) mul, g2, by omega⟩
      · rw [if_neg hb, zrng_len]
        have h1 := zjp_len (ztp ip D) (zsrt P.flatten) S.flatten (ztp ip D)
        rw [zpart_tot t1 t2, (zsrt_up P.flatten).2] at h1
        refine ⟨Nat.le_trans h1 mul, t1, ?_⟩
        cases ip with
        | true => exact t3
        | false => simp only [Bool.false_eq_true, if_false] at *; omega
