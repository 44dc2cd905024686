/-! groups and joins: what the law asks of them, over rows alone -/
def zcm (F T : zP2) : Nat := (T.map fun g => (zkf g.1 F).length).sum
theorem zcm_app (F A B : zP2) : zcm F (A ++ B) = zcm F A + zcm F B := by rw [zcm, List.map_append, List.sum_append_nat]; rfl
theorem zcm_s (F T : zP2) (q : Int32 × Int32) : zcm F (T ++ [q]) = zcm F T + (zkf q.1 F).length := by
  rw [zcm_app]
  show zcm F T + ((zkf q.1 F).length + 0) = _
  omega
theorem zcm_perm {F A B : zP2} (h : A.Perm B) : zcm F A = zcm F B := by
  induction h with
  | nil => rfl
  | cons a _ ih => simp only [zcm, List.map_cons, List.sum_cons] at ih ⊢; omega
  | swap a b _ => simp only [zcm, List.map_cons, List.sum_cons]; omega
  | trans _ _ h1 h2 => exact h1.trans h2
def zen (h : Nat) (s : Nat × Int32) : Int32 := if h = 3 then nI s.1 else s.2
theorem zgo_en (h : Nat) (x : Int32) (T : zP2) : zgo h x T = zen h ((zkf x T).foldl (fun s q => zgs h s q.2) (0, 0)) := rfl
theorem zen_0 {D : Nat → Int32} {h : Nat} (hD : D 7 = nI h) (hh : h ≤ 3) (y : Int32) : zg0 D y = zen h (zgs h (0, 0) y) := by
  unfold zg0
  rw [hD]
  rcases (show h = 0 ∨ h = 1 ∨ h = 2 ∨ h = 3 by omega) with g | g | g | g <;> subst g
  · rw [if_neg (by decide)]
    show y = 0 + y
    simp
  · rw [if_neg (by decide)]
    show y = if (0 : Nat) = 0 ∨ y < 0 then y else 0
    rw [if_pos (Or.inl rfl)]
  · rw [if_neg (by decide)]
    show y = if (0 : Nat) = 0 ∨ (0 : Int32) < y then y else 0
    rw [if_pos (Or.inl rfl)]
  · rw [if_pos (by decide)]
    rfl
theorem zen_1 {D : Nat → Int32} {h : Nat} {s : Nat × Int32} (hD : D 7 = nI h) (hh : h ≤ 3) (hs : 0 < s.1) (y : Int32) : zg1 D (zen h s) y = zen h (zgs h s y) := by
  have h0 : ¬ s.1 = 0 := by omega
  unfold zg1 zg0
  rw [hD]
  rcases (show h = 0 ∨ h = 1 ∨ h = 2 ∨ h = 3 by omega) with g | g | g | g <;> subst g
  · rw [if_neg (by decide), if_neg (by decide), if_neg (by decide)]
    rfl
  · rw [if_pos (by decide)]
    show (if y < s.2 then y else s.2) = if s.1 = 0 ∨ y < s.2 then y else s.2
    by_cases c : y < s.2
    · rw [if_pos c, if_pos (Or.inr c)]
    · rw [if_neg c, if_neg (fun w => w.elim h0 c)]
  · rw [if_neg (by decide), if_pos (by decide)]
    show (if s.2 < y then y else s.2) = if s.1 = 0 ∨ s.2 < y then y else s.2
    by_cases c : s.2 < y
    · rw [if_pos c, if_pos (Or.inr c)]
    · rw [if_neg c, if_neg (fun w => w.elim h0 c)]
  · rw [if_neg (by decide), if_neg (by decide), if_pos (by decide)]
    exact nI_1 s.1
theorem zagg_some {D : Nat → Int32} {h : Nat} (hD : D 7 = nI h) (hh : h ≤ 3) : ∀ (T : zP2) (s : Nat × Int32), 0 < s.1 → T.foldl (zst1 D) (some (zen h s)) = some (zen h (T.foldl (fun s q => zgs h s q.2) s))
  | [], s, _ => rfl
  | q :: T, s, hs => by
    rw [List.foldl_cons, List.foldl_cons]
    show T.foldl (zst1 D) (some (zg1 D (zen h s) q.2)) = _
    rw [zen_1 hD hh hs]
    exact zagg_some hD hh T (zgs h s q.2) (Nat.succ_pos _)
theorem zagg_f {D : Nat → Int32} {h : Nat} (hD : D 7 = nI h) (hh : h ≤ 3) {T : zP2} (hT : T ≠ []) : zagg D T = some (zen h (T.foldl (fun s q => zgs h s q.2) (0, 0))) := by
  cases T with
  | nil => exact absurd rfl hT
  | cons q T =>
    rw [zagg, List.foldl_cons, List.foldl_cons]
    show T.foldl (zst1 D) (some (zg0 D q.2)) = _
    rw [zen_0 hD hh]
    exact zagg_some hD hh T (zgs h (0, 0) q.2) (Nat.succ_pos _)
theorem zgrp_row {D : Nat → Int32} {h : Nat} {F : zP2} {g : Int32 × Int32} (hD : D 7 = nI h) (hh : h ≤ 3) (hg : g ∈ zgrp D F) : 0 < (zkf g.1 F).length ∧ g.2 = zgo h g.1 F := by
  have h1 : g ∈ zkf g.1 (zgrp D F) := List.mem_filter.mpr ⟨hg, by simp⟩
  rw [zgrp_kf] at h1
  have hne : zkf g.1 F ≠ [] := by
    intro w
    rw [w] at h1
    exact absurd h1 List.not_mem_nil
  rw [zagg_f hD hh hne] at h1
  have h2 : g = (g.1, _) := List.mem_singleton.mp h1
  refine ⟨List.length_pos_iff.mpr hne, ?_⟩
  rw [zgo_en]
  exact congrArg Prod.snd h2
theorem zgrp_one {D : Nat → Int32} {F : zP2} (x : Int32) : (zkf x (zgrp D F)).length ≤ 1 := by
  rw [zgrp_kf]
  cases zagg D (zkf x F) with
  | none => exact Nat.zero_le _
  | some w => exact Nat.le_refl _
theorem zpre_flat2 {R : zP2} {j : Nat} {q : Int32 × Int32} (h : R[j]? = some q) : R = R.take j ++ q :: R.drop (j + 1) := by
  have hl := zR_lt h
  have h2 : R[j] = q := by rw [List.getElem?_eq_getElem hl] at h; exact Option.some.inj h
  rw [← h2, List.getElem_cons_drop, List.take_append_drop]
theorem zgrp_lt (D : Nat → Int32) (F : zP2) : (zgrp D F).Pairwise fun a b => a.1 < b.1 := by
  refine zpair_iff.mp fun i j a b hij ha hb => ?_
  have hle := (zgrp_up D F).1 i j a b (by omega) ha hb
  rcases Int32.lt_or_eq_of_le hle with h | h
  · exact h
  · exfalso
    have h1 := zgrp_one (D := D) (F := F) a.1
    generalize zgrp D F = K at *
    have e := zpre_flat2 ha
    have hb2 : b ∈ K.drop (i + 1) := List.mem_of_getElem? (i := j - (i + 1)) (by rw [List.getElem?_drop, show i + 1 + (j - (i + 1)) = j by omega]; exact hb)
    rw [e, zkf_app, zkf_cons_t rfl, List.length_append, List.length_cons] at h1
    have : b ∈ zkf a.1 (K.drop (i + 1)) := List.mem_filter.mpr ⟨hb2, by simp [h]⟩
    have := List.length_pos_of_mem this
    omega
theorem zkf_cl (x : Int32) (q : Int32 × Int32) (F : zP2) : (zkf x (q :: F)).length = (if q.1 = x then 1 else 0) + (zkf x F).length := by
  by_cases c : q.1 = x
  · rw [zkf_cons_t c, if_pos c, List.length_cons]; omega
  · rw [zkf_cons_f c, if_neg c]; omega
theorem zind (x : Int32) : ∀ K : zP2, K.Pairwise (fun a b => a.1 ≠ b.1) → (∃ g ∈ K, g.1 = x) → (K.map fun g => if x = g.1 then 1 else 0).sum = 1
  | [], _, h => by obtain ⟨g, hg, -⟩ := h; exact absurd hg List.not_mem_nil
  | g :: K, hp, h => by
    obtain ⟨h1, h2⟩ := List.pairwise_cons.mp hp
    rw [List.map_cons, List.sum_cons]
    by_cases c : g.1 = x
    · rw [if_pos c.symm]
      have : (K.map fun g => if x = g.1 then 1 else 0).sum = 0 := by
        clear hp h h2
        induction K with
        | nil => rfl
        | cons a K ih =>
          rw [List.map_cons, List.sum_cons, if_neg (fun w => h1 a List.mem_cons_self (c.trans w)), ih fun b hb => h1 b (List.mem_cons_of_mem _ hb)]
      omega
    · rw [if_neg (fun w => c w.symm), zind x K h2]
      obtain ⟨b, hb, e⟩ := h
      rcases List.mem_cons.mp hb with w | w
      · rw [w] at e; exact absurd e c
      · exact ⟨b, w, e⟩
theorem zcm_nil : ∀ K : zP2, zcm [] K = 0
  | [] => rfl
  | g :: K => by
    show 0 + zcm [] K = 0
    rw [zcm_nil K]
theorem zcm_all {K : zP2} (hp : K.Pairwise fun a b => a.1 ≠ b.1) : ∀ F : zP2, (∀ q ∈ F, ∃ g ∈ K, g.1 = q.1) → zcm F K = F.length
  | [], _ => zcm_nil K
  | q :: F, h => by
    have e : ∀ K : zP2, zcm (q :: F) K = (K.map fun g => if q.1 = g.1 then 1 else 0).sum + zcm F K := by
      intro K
      induction K with
      | nil => rfl
      | cons g K ih =>
        have e1 : zcm (q :: F) (g :: K) = (zkf g.1 (q :: F)).length + zcm (q :: F) K := rfl
        have e2 : zcm F (g :: K) = (zkf g.1 F).length + zcm F K := rfl
        rw [e1, e2, ih, zkf_cl, List.map_cons, List.sum_cons]
        omega
    rw [e, zind q.1 K hp (h q List.mem_cons_self), zcm_all hp F fun a ha => h a (List.mem_cons_of_mem _ ha), List.length_cons]
    omega
theorem zcm_grp {D : Nat → Int32} {h : Nat} {F : zP2} (hD : D 7 = nI h) (hh : h ≤ 3) : zcm F (zgrp D F) = F.length := by
  refine zcm_all ((zgrp_lt D F).imp fun w e => ?_) F fun q hq => ?_
  · rw [e] at w; exact Int32.lt_irrefl w
  · have hne : zkf q.1 F ≠ [] := by
      intro w
      have : q ∈ zkf q.1 F := List.mem_filter.mpr ⟨hq, by simp⟩
      rw [w] at this
      exact absurd this List.not_mem_nil
    have e := zgrp_kf D F q.1
    rw [zagg_f hD hh hne] at e
    have : (q.1, zen h ((zkf q.1 F).foldl (fun s q => zgs h s q.2) (0, 0))) ∈ zkf q.1 (zgrp D F) := by rw [e]; exact List.mem_singleton.mpr rfl
    exact ⟨_, (List.mem_filter.mp this).1, rfl⟩
theorem zrng_at {p q : Nat} {f : Nat → zP2} (h : q < p) : (zrng p f).getD q [] = f q := by
  rw [zrng, List.getD_eq_getElem?_getD, List.getElem?_map, List.getElem?_range h]
  rfl
/-! sums of values -/
def zvs (X : zP2) : Int32 := X.foldl (fun s q => s + q.2) 0
theorem zvs_a : ∀ (X : zP2) (a : Int32), X.foldl (fun s q => s + q.2) a = a + zvs X
  | [], a => by show a = a + 0; simp
  | q :: X, a => by
    have e : zvs (q :: X) = X.foldl (fun s q => s + q.2) (0 + q.2) := rfl
    rw [List.foldl_cons, zvs_a X, e, zvs_a X, Int32.zero_add, Int32.add_assoc]
theorem zvs_c (q : Int32 × Int32) (X : zP2) : zvs (q :: X) = q.2 + zvs X := by
  have e : zvs (q :: X) = X.foldl (fun s q => s + q.2) (0 + q.2) := rfl
  rw [e, zvs_a, Int32.zero_add]
theorem zvs_app (A B : zP2) : zvs (A ++ B) = zvs A + zvs B := by
  rw [zvs, List.foldl_append, zvs_a]
  rfl
theorem zvs_s (A : zP2) (q : Int32 × Int32) : zvs (A ++ [q]) = zvs A + q.2 := by
  rw [zvs_app, zvs_c]
  have : zvs [] = 0 := rfl
  rw [this, Int32.add_zero]
theorem zvs_perm {A B : zP2} (h : A.Perm B) : zvs A = zvs B := by
  induction h with
  | nil => rfl
  | cons a _ ih => rw [zvs_c, zvs_c, ih]
  | swap a b l => rw [zvs_c, zvs_c, zvs_c, zvs_c, ← Int32.add_assoc, ← Int32.add_assoc, Int32.add_comm a.2]
  | trans _ _ h1 h2 => exact h1.trans h2
theorem zgf0 (x : Int32) (T : zP2) : zgo 0 x T = zvs (zkf x T) := by
  have key : ∀ (F : zP2) (s : Nat × Int32), (F.foldl (fun s q => zgs 0 s q.2) s).2 = s.2 + zvs F := by
    intro F
    induction F with
    | nil => intro s; show s.2 = s.2 + 0; simp
    | cons a F ih =>
      intro s
      rw [List.foldl_cons, ih, zvs_c, ← Int32.add_assoc]
      rfl
  show ((zkf x T).foldl (fun s q => zgs 0 s q.2) (0, 0)).2 = _
  rw [key]
  show 0 + _ = _
  rw [Int32.zero_add]
theorem zgo3 (x : Int32) (T : zP2) : zgo 3 x T = nI (zkf x T).length := by
  show nI (zgf 3 x T).1 = _
  rw [zgf_len]
/-- what the rows of a key's matches add up to -/
def zj1 (T : zP2) (q : Int32 × Int32) : Int32 := nI (zkf q.1 T).length * q.2 + zgo 0 q.1 T
theorem zmat_c (q z : Int32 × Int32) (T : zP2) : zmat q (z :: T) = (if z.1 = q.1 then [(q.1, q.2 + z.2)] else []) ++ zmat q T := by
  unfold zmat
  by_cases h : z.1 = q.1
  · simp [h]
  · simp [h]
theorem zmat_kf (q : Int32 × Int32) : ∀ T : zP2, (zmat q T).length = (zkf q.1 T).length
  | [] => rfl
  | z :: T => by
    rw [zmat_c, List.length_append, zmat_kf q T, zkf_cl]
    by_cases h : z.1 = q.1
    · rw [if_pos h, if_pos h]; rfl
    · rw [if_neg h, if_neg h]; rfl
theorem zmat_vs (q : Int32 × Int32) : ∀ T : zP2, zvs (zmat q T) = zj1 T q
  | [] => by
    show (0 : Int32) = 0 * q.2 + 0
    simp
  | z :: T => by
    have ih := zmat_vs q T
    rw [zj1, zgf0] at ih
    rw [zmat_c, zj1, zgf0]
    by_cases h : z.1 = q.1
    · rw [if_pos h, zkf_cons_t h, zvs_c, List.length_cons, ← nI_1, Int32.add_mul, Int32.one_mul, zvs_app, ih, zvs_c]
      have : zvs [] = 0 := rfl
      rw [this, Int32.add_zero]
      show q.2 + z.2 + (_ + _) = _
      rw [Int32.add_assoc q.2, Int32.add_comm q.2, ← Int32.add_assoc z.2, Int32.add_comm z.2, Int32.add_assoc, Int32.add_assoc, Int32.add_assoc, Int32.add_comm q.2, Int32.add_assoc]
    · rw [if_neg h, zkf_cons_f h, List.nil_append]
      exact ih
def zjs (T X : zP2) : Int32 := X.foldl (fun s q => s + zj1 T q) 0
theorem zjs_s (T X : zP2) (q : Int32 × Int32) : zjs T (X ++ [q]) = zjs T X + zj1 T q := by rw [zjs, List.foldl_append]; rfl
theorem zjs_vs (T : zP2) : ∀ (X : zP2) (a : Int32), X.foldl (fun s q => s + zj1 T q) a = a + zvs (zfm X T)
  | [], a => by show a = a + 0; simp
  | q :: X, a => by rw [List.foldl_cons, zjs_vs T X, zfm_cons, zvs_app, zmat_vs, Int32.add_assoc]
theorem zjs_eq (T X : zP2) : zjs T X = zvs (zfm X T) := by rw [zjs, zjs_vs, Int32.zero_add]
theorem zfm_cm (T : zP2) : ∀ X : zP2, (zfm X T).length = zcm T X
  | [] => rfl
  | q :: X => by
    have e : zcm T (q :: X) = (zkf q.1 T).length + zcm T X := rfl
    rw [zfm_cons, List.length_append, zmat_kf, zfm_cm T X, e]
theorem zfm_key {T X : zP2} {x : Int32 × Int32} (h : x ∈ zfm X T) : ∃ q ∈ X, x.1 = q.1 := by
  obtain ⟨q, hq, hx⟩ := List.mem_flatMap.mp h
  obtain ⟨z, -, e⟩ := List.mem_map.mp hx
  exact ⟨q, hq, by rw [← e]⟩
theorem zfm_up {T : zP2} : ∀ {X : zP2}, X.Pairwise (fun a b => a.1 ≤ b.1) → (zfm X T).Pairwise (fun a b => a.1 ≤ b.1)
  | [], _ => List.Pairwise.nil
  | q :: X, h => by
    obtain ⟨h1, h2⟩ := List.pairwise_cons.mp h
    rw [zfm_cons]
    refine List.pairwise_append.mpr ⟨?_, zfm_up h2, fun a ha b hb => ?_⟩
    · refine zpair_iff.mp fun i j a b _ ha hb => ?_
      obtain ⟨z, -, e⟩ := List.mem_map.mp (List.mem_of_getElem? ha)
      obtain ⟨y, -, e2⟩ := List.mem_map.mp (List.mem_of_getElem? hb)
      rw [← e, ← e2]
      exact Int32.le_refl _
    · obtain ⟨z, -, e⟩ := List.mem_map.mp ha
      obtain ⟨y, hy, e2⟩ := zfm_key hb
      rw [← e, e2]
      exact h1 y hy
theorem zsub_s (a x v : Int32) : a - x - v = a - (x + v) := by
  simp [Int32.sub_eq_add_neg, Int32.neg_add, Int32.add_assoc]
