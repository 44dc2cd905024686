/-! what a node holds in one place is what it holds spread, in another order -/
theorem zsq_eq (R : zP2) : ∀ (a : Int32), R.foldl (fun s q => s + (31 * q.1 + q.2) * (31 * q.1 + q.2)) a = a + zsq R := by
  induction R with
  | nil => intro a; show a = a + 0; rw [Int32.add_zero]
  | cons q t ih =>
    intro a
    unfold zsq
    rw [List.foldl_cons, List.foldl_cons, ih, ih, Int32.zero_add, Int32.add_assoc]
theorem zsq_app (A B : zP2) : zsq (A ++ B) = zsq A + zsq B := by
  conv => lhs; unfold zsq
  rw [List.foldl_append, zsq_eq]
  rfl
theorem zsq_perm {A B : zP2} (h : A.Perm B) : zsq A = zsq B := by
  have one : ∀ (q : Int32 × Int32) (t : zP2), zsq (q :: t) = zsq [q] + zsq t := fun q t => zsq_app [q] t
  induction h with
  | nil => rfl
  | cons x _ ih => exact (one _ _).trans ((congrArg _ ih).trans (one _ _).symm)
  | swap x y l =>
    have two : ∀ a b : Int32 × Int32, zsq (a :: b :: l) = zsq [a] + (zsq [b] + zsq l) := fun a b => (one a _).trans (congrArg _ (one b l))
    rw [two, two, ← Int32.add_assoc, ← Int32.add_assoc, Int32.add_comm (zsq [y])]
  | trans _ _ h1 h2 => exact h1.trans h2
theorem zrng_add (c : Nat) (q : Int32 × Int32) (f : Nat → zP2) : ∀ p, (zrng p (fun i => f i ++ (if c = i then [q] else []))).flatten.Perm ((zrng p f).flatten ++ (if c < p then [q] else [])) := by
  intro p
  induction p with
  | zero => simp [zrng]
  | succ p ih =>
    rw [zrng_s, zrng_s, List.flatten_append, List.flatten_append]
    simp only [List.flatten_cons, List.flatten_nil, List.append_nil]
    refine (List.Perm.append_right _ ih).trans ?_
    rcases Nat.lt_trichotomy c p with h | h | h
    · rw [if_pos h, if_neg (by omega), if_pos (by omega), List.append_nil, List.append_assoc, List.append_assoc]
      exact List.Perm.append_left _ List.perm_append_comm
    · rw [if_neg (by omega), if_pos h, if_pos (by omega), List.append_nil, List.append_assoc]
    · rw [if_neg (by omega), if_neg (by omega), if_neg (by omega), List.append_nil, List.append_nil, List.append_nil]
theorem zrng_nil {f : Nat → zP2} (h : ∀ i, f i = []) : ∀ m, (zrng m f).flatten = [] := by
  intro m
  induction m with
  | zero => rfl
  | succ m ih => rw [zrng_s, List.flatten_append, ih, h m]; rfl
theorem zpart_all {p : Nat} (h0 : 0 < p) (hp : p ≤ 8) (R : zP2) : (zrng p (zpart p R)).flatten.Perm R := by
  have key : ∀ n, n ≤ R.length → (zrng p (zpart p (R.take n))).flatten.Perm (R.take n) := by
    intro n
    induction n with
    | zero => intro _; rw [List.take_zero, show (zrng p (zpart p [])).flatten = [] from zrng_nil (fun _ => rfl) p]
    | succ n ih =>
      intro hn
      have hg : R[n]? = some (R[n]'(by omega)) := List.getElem?_eq_getElem _
      generalize R[n]'(by omega) = q at hg
      obtain ⟨c, hc, ec⟩ := zmd_nI (x := q.1) h0 (show p < 2 ^ 31 by omega)
      have e : zrng p (zpart p (R.take (n + 1))) = zrng p (fun i => zpart p (R.take n) i ++ (if c = i then [q] else [])) := by
        refine zrng_ext fun i hi => ?_
        rw [ztake hg, zpart_snoc, ec]
        congr 1
        by_cases h : c = i
        · rw [if_pos h, if_pos (by rw [h])]
        · rw [if_neg h, if_neg (fun z => h ((nI_eq (by omega) (by omega)).mp z))]
      rw [e, ztake hg]
      refine (zrng_add c q _ p).trans ?_
      rw [if_pos hc]
      exact List.Perm.append_right _ (ih (by omega))
  have := key R.length (Nat.le_refl _)
  rwa [List.take_length] at this
theorem zdeal_all {p : Nat} (h0 : 0 < p) (R : zP2) : (zdeal R p).flatten.Perm R := by
  have key : ∀ n, n ≤ R.length → (zdeal (R.take n) p).flatten.Perm (R.take n) := by
    intro n
    induction n with
    | zero => intro _; rw [List.take_zero, show (zdeal [] p).flatten = [] from zrng_nil (fun _ => rfl) p]
    | succ n ih =>
      intro hn
      have hg : R[n]? = some (R[n]'(by omega)) := List.getElem?_eq_getElem _
      generalize R[n]'(by omega) = q at hg
      have e : zdeal (R.take (n + 1)) p = zrng p (fun i => zpk (fun k => k % p == i) 0 (R.take n) ++ (if n % p = i then [q] else [])) := by
        refine zrng_ext fun i hi => ?_
        rw [ztake hg, zpk_snoc, Nat.zero_add, List.length_take, Nat.min_eq_left (by omega)]
        congr 1
        by_cases h : n % p = i
        · rw [if_pos h, if_pos (by simpa using h)]
        · rw [if_neg h, if_neg (by simpa using h)]
      rw [e, ztake hg]
      refine (zrng_add (n % p) q _ p).trans ?_
      rw [if_pos (Nat.mod_lt n h0)]
      exact List.Perm.append_right _ (ih (by omega))
  have := key R.length (Nat.le_refl _)
  rwa [List.take_length] at this
theorem zmapP_fl (D : Nat → Int32) : ∀ P : List zP2, (P.map (zmapP D)).flatten = zmapP D P.flatten
  | [] => rfl
  | a :: t => by rw [List.map_cons, List.flatten_cons, List.flatten_cons, zmapP_fl D t, zmapP, zmapP, zmapP, List.map_append]
theorem zsifP_fl (D : Nat → Int32) : ∀ P : List zP2, (P.map (zsifP D)).flatten = zsifP D P.flatten
  | [] => rfl
  | a :: t => by rw [List.map_cons, List.flatten_cons, List.flatten_cons, zsifP_fl D t, zsifP, zsifP, zsifP, List.filter_append]
theorem zfm_cons (q : Int32 × Int32) (B S : zP2) : zfm (q :: B) S = zmat q S ++ zfm B S := by simp [zfm]
theorem zfmP_fl (S : zP2) : ∀ P : List zP2, (P.map (zfmP S)).flatten = zfm P.flatten S
  | [] => rfl
  | a :: t => by rw [List.map_cons, List.flatten_cons, List.flatten_cons, zfmP_fl S t, zfm_app, zfmP]
theorem zrng_fm (f : Nat → zP2) (S : zP2) : ∀ m, (zrng m (fun i => zfm (f i) S)).flatten = zfm (zrng m f).flatten S := by
  intro m
  induction m with
  | zero => rfl
  | succ m ih => rw [zrng_s, zrng_s, List.flatten_append, List.flatten_append, ih, zfm_app]; simp
theorem zfm_perm1 {A B : zP2} (h : A.Perm B) (S : zP2) : (zfm A S).Perm (zfm B S) := by
  induction h with
  | nil => exact List.Perm.refl _
  | cons x _ ih => rw [zfm_cons, zfm_cons]; exact List.Perm.append_left _ ih
  | swap x y l =>
    rw [zfm_cons, zfm_cons, zfm_cons, zfm_cons, ← List.append_assoc, ← List.append_assoc]
    exact List.Perm.append_right _ List.perm_append_comm
  | trans _ _ h1 h2 => exact h1.trans h2
theorem zmat_perm {S T : zP2} (h : S.Perm T) (q : Int32 × Int32) : (zmat q S).Perm (zmat q T) := (h.filter _).map _
theorem zfm_perm2 {S T : zP2} (h : S.Perm T) : ∀ A : zP2, (zfm A S).Perm (zfm A T)
  | [] => List.Perm.refl _
  | q :: t => by rw [zfm_cons, zfm_cons]; exact List.Perm.append (zmat_perm h q) (zfm_perm2 h t)
theorem zfm_perm {A B S T : zP2} (h : A.Perm B) (h2 : S.Perm T) : (zfm A S).Perm (zfm B T) := (zfm_perm1 h S).trans (zfm_perm2 h2 B)
-- groups
theorem zg_min (x y : Int32) : (if y < x then y else x) = (if x < y then x else y) := by
  by_cases a : y < x
  · rw [if_pos a, if_neg (fun b => Int32.lt_irrefl (Int32.lt_trans a b))]
  · by_cases b : x < y
    · rw [if_neg a, if_pos b]
    · rw [if_neg a, if_neg b]; exact Int32.le_antisymm (Int32.not_lt.mp a) (Int32.not_lt.mp b)
theorem zg_max (x y : Int32) : (if x < y then y else x) = (if y < x then x else y) := by
  by_cases a : y < x
  · rw [if_pos a, if_neg (fun b => Int32.lt_irrefl (Int32.lt_trans a b))]
  · by_cases b : x < y
    · rw [if_neg a, if_pos b]
    · rw [if_neg a, if_neg b]; exact Int32.le_antisymm (Int32.not_lt.mp a) (Int32.not_lt.mp b)
theorem zmin3 (w x y : Int32) : (if y < (if x < w then x else w) then y else (if x < w then x else w)) = (if x < (if y < w then y else w) then x else (if y < w then y else w)) := by
  have tr : ∀ a b c : Int32, a < b → b < c → a < c := fun a b c => Int32.lt_trans
  have le : ∀ a b : Int32, ¬ a < b → b ≤ a := fun a b => Int32.not_lt.mp
  have an : ∀ a b : Int32, ¬ a < b → ¬ b < a → a = b := fun a b h1 h2 => Int32.le_antisymm (le _ _ h2) (le _ _ h1)
  simp only [Int32.lt_iff_toInt_lt] at *
  by_cases h1 : x.toInt < w.toInt <;> by_cases h2 : y.toInt < w.toInt <;> by_cases h3 : y.toInt < x.toInt <;> by_cases h4 : x.toInt < y.toInt <;>
    simp only [h1, h2, h3, h4, if_true, if_false] <;> first | rfl | omega | exact an _ _ (by omega) (by omega)
theorem zmax3 (w x y : Int32) : (if (if w < x then x else w) < y then y else (if w < x then x else w)) = (if (if w < y then y else w) < x then x else (if w < y then y else w)) := by
  have an : ∀ a b : Int32, ¬ a.toInt < b.toInt → ¬ b.toInt < a.toInt → a = b := fun a b h1 h2 => Int32.toInt_inj.mp (by omega)
  simp only [Int32.lt_iff_toInt_lt] at *
  by_cases h1 : w.toInt < x.toInt <;> by_cases h2 : w.toInt < y.toInt <;> by_cases h3 : x.toInt < y.toInt <;> by_cases h4 : y.toInt < x.toInt <;>
    simp only [h1, h2, h3, h4, if_true, if_false] <;> first | rfl | omega | exact an _ _ (by omega) (by omega)
theorem zg1_rc (D : Nat → Int32) (w x y : Int32) : zg1 D (zg1 D w x) y = zg1 D (zg1 D w y) x := by
  unfold zg1
  by_cases a : D 7 = 1
  · simp only [if_pos a]; exact zmin3 w x y
  · by_cases b : D 7 = 2
    · simp only [if_neg a, if_pos b]; exact zmax3 w x y
    · simp only [if_neg a, if_neg b]; rw [Int32.add_assoc, Int32.add_assoc, Int32.add_comm (zg0 D x)]
theorem zg1_c0 (D : Nat → Int32) (x y : Int32) : zg1 D (zg0 D x) y = zg1 D (zg0 D y) x := by
  unfold zg1
  by_cases a : D 7 = 1
  · have e : ∀ z, zg0 D z = z := fun z => if_neg (by rw [a]; decide)
    simp only [if_pos a, e]; exact zg_min x y
  · by_cases b : D 7 = 2
    · have e : ∀ z, zg0 D z = z := fun z => if_neg (by rw [b]; decide)
      simp only [if_neg a, if_pos b, e]; exact zg_max x y
    · simp only [if_neg a, if_neg b]; exact Int32.add_comm _ _
theorem zst1_rc (D : Nat → Int32) (a : Option Int32) (x y : Int32 × Int32) : zst1 D (zst1 D a x) y = zst1 D (zst1 D a y) x := by
  cases a with
  | none => exact congrArg some (zg1_c0 D x.2 y.2)
  | some w => exact congrArg some (zg1_rc D w x.2 y.2)
theorem zagg_perm (D : Nat → Int32) {A B : zP2} (h : A.Perm B) : zagg D A = zagg D B := by
  have key : ∀ a, A.foldl (zst1 D) a = B.foldl (zst1 D) a := by
    induction h with
    | nil => exact fun _ => rfl
    | cons x _ ih => exact fun a => ih _
    | swap x y l => exact fun a => congrArg (fun z => List.foldl (zst1 D) z l) (zst1_rc D a y x)
    | trans _ _ h1 h2 => exact fun a => (h1 a).trans (h2 a)
  exact key none
theorem zkf_perm {A B : zP2} (h : ∀ x, zkf x A = zkf x B) : A.Perm B := by
  rw [List.perm_iff_count]
  intro q
  have e : ∀ R : zP2, List.count q R = List.count q (zkf q.1 R) := fun R => (List.count_filter (by simp)).symm
  rw [e A, e B, h]
theorem zgrp_perm (D : Nat → Int32) {A B : zP2} (h : A.Perm B) : (zgrp D A).Perm (zgrp D B) := zkf_perm fun x => by
  rw [zgrp_kf, zgrp_kf, show zagg D (zkf x A) = zagg D (zkf x B) from zagg_perm D (h.filter _)]
theorem zone_part (X : zP2) : zrng 1 (zpart 1 X) = [zpart 1 X 0] := rfl
theorem zcont_perm {lim k : Nat} {D : Nat → Int32} {R : zP2} {P S P' S' : List zP2} (hp : k = 0 ∨ k = 4 ∨ 5 ≤ k → 0 < ztp false D ∧ ztp false D ≤ 8) (h1 : 1 ≤ k → P.flatten.Perm P'.flatten) (h2 : k = 3 ∨ 5 ≤ k → S.flatten.Perm S'.flatten) : (zcont true lim k D R P S).flatten.Perm (zcont false lim k D R P' S').flatten := by
  unfold zcont
  by_cases a0 : k = 0
  · rw [if_pos a0, if_pos a0]
    exact (zdeal_all Nat.one_pos R).trans (zdeal_all (hp (Or.inl a0)).1 R).symm
  · have h1 := h1 (by omega)
    rw [if_neg a0, if_neg a0]
    by_cases a1 : k = 1
    · rw [if_pos a1, if_pos a1, zmapP_fl, zmapP_fl]; exact h1.map _
    · rw [if_neg a1, if_neg a1]
      by_cases a2 : k = 2
      · rw [if_pos a2, if_pos a2, zsifP_fl, zsifP_fl]; exact h1.filter _
      · rw [if_neg a2, if_neg a2]
        by_cases a3 : k = 3
        · rw [if_pos a3, if_pos a3]
          simp only [zuni, if_true, Bool.false_eq_true, if_false, List.flatten_append, List.flatten_cons, List.flatten_nil, List.append_nil]
          exact h1.append (h2 (Or.inl a3))
        · rw [if_neg a3, if_neg a3]
          by_cases a4 : k = 4
          · rw [if_pos a4, if_pos a4]
            obtain ⟨p1, p2⟩ := hp (Or.inr (Or.inl a4))
            exact (zpart_all Nat.one_pos (by decide) _).trans ((zgrp_perm D h1).trans (zpart_all p1 p2 _).symm)
          · have a5 : 5 ≤ k := by omega
            have h2 := h2 (Or.inr a5)
            obtain ⟨p1, p2⟩ := hp (Or.inr (Or.inr a5))
            rw [if_neg a4, if_neg a4, if_neg (fun q => nomatch q.1)]
            have l : (zrng (ztp true D) (zjp (ztp true D) (zsrt P.flatten) S.flatten)).flatten.Perm (zfm P'.flatten S'.flatten) := by
              show (zrng 1 (fun i => zfm (zpart 1 (zsrt P.flatten) i) S.flatten)).flatten.Perm _
              rw [zrng_fm]
              exact zfm_perm ((zpart_all Nat.one_pos (by decide) _).trans ((zsrt_perm _).trans h1)) h2
            refine l.trans ?_
            by_cases c : false = false ∧ S'.flatten.length ≤ lim
            · rw [if_pos c, zfmP_fl]
            · rw [if_neg c]
              show (zfm P'.flatten S'.flatten).Perm (zrng (ztp false D) (fun i => zfm (zpart (ztp false D) (zsrt P'.flatten) i) S'.flatten)).flatten
              rw [zrng_fm]
              exact zfm_perm1 ((zpart_all p1 p2 _).trans (zsrt_perm _)).symm _
theorem zcon_perm {lim : Nat} {nt : zNT} (hw : zWf nt) (hl : nt.length ≤ 14) : ∀ i, i < nt.length → (zcon true lim nt i).flatten.Perm (zcon false lim nt i).flatten := by
  intro i
  induction i using Nat.strongRecOn with
  | _ i ih =>
    intro hi
    obtain ⟨e, he, -, -, k6, hf, hs, hp, -⟩ := zNfo (lim := lim) hw hl hi
    rw [zcon_at he hl k6 hf hs, zcon_at he hl k6 hf hs]
    refine zcont_perm (fun q => ?_) (fun q => ih _ (hf q).1 (by have := (hf q).1; omega)) (fun q => ?_)
    · obtain ⟨a, b, c⟩ := hp (by omega)
      simp only [ztp, Bool.false_eq_true, if_false, c]
      rw [nI_clamp (by omega)]
      exact ⟨by omega, by omega⟩
    · have a := (hs (by omega)).1
      exact ih _ a (by omega)
theorem zcon_sq {lim : Nat} {nt : zNT} (hw : zWf nt) (hl : nt.length ≤ 14) {i : Nat} (hi : i < nt.length) : zsq (zcon true lim nt i).flatten = zsq (zct lim nt i).flatten := zsq_perm (zcon_perm hw hl i hi)
