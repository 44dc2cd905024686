/-! what keeps the table well formed -/
theorem zWn.mono {nt nt' : zNT} {i : Nat} {e : zNX} (h : zWn nt i e) (hs : ∀ j, j < i → zb (nt'.getD j zdf) = zb (nt.getD j zdf) ∧ zw (nt'.getD j zdf) = zw (nt.getD j zdf) ∧ (nt'.getD j zdf).2.2.1 12 = (nt.getD j zdf).2.2.1 12) : zWn nt' i e := by
  obtain ⟨f, s, p, k6, B, hf, hf0, hS, hS0, hp, hR, hR0, hc, q0, q12, q3, q4, q5, hb⟩ := h
  have gf := fun q => hs f (hf q).1
  have gs := fun q => hs s (hS q).1
  refine ⟨f, s, p, k6, B, hf, hf0, hS, hS0, hp, hR, hR0, hc, q0, fun q => ?_, fun q => ?_, fun q => ?_, fun q => ?_, fun j hj => ?_⟩
  · obtain ⟨a, b, -⟩ := gf (by omega)
    rw [a, b]; exact q12 q
  · obtain ⟨a, b, -⟩ := gf (by omega)
    obtain ⟨c, d, -⟩ := gs (Or.inl q)
    rw [a, b, c, d]; exact q3 q
  · obtain ⟨a, b, -⟩ := gf (by omega)
    rw [a]; exact q4 q
  · obtain ⟨a, b, -⟩ := gf (by omega)
    obtain ⟨c, d, -⟩ := gs (Or.inr q)
    rw [a, b, c]; exact q5 q
  · rw [hb j hj]
    by_cases a : 1 ≤ e.2.1
    · rw [(gf a).2.2]
      by_cases c : e.2.1 = 3 ∨ e.2.1 = 5
      · rw [(gs c).2.2]
      · simp only [c, decide_false, Bool.false_and]
    · have c : ¬ (e.2.1 = 3 ∨ e.2.1 = 5) := by omega
      simp only [a, c, decide_false, Bool.false_and]
theorem zgetD_app {nt : zNT} {e : zNX} {j : Nat} (h : j < nt.length) : (nt ++ [e]).getD j zdf = nt.getD j zdf := by
  rw [List.getD_eq_getElem?_getD, List.getD_eq_getElem?_getD, List.getElem?_append_left h]
theorem zgetD_at {nt : zNT} {e : zNX} {j : Nat} (h : nt[j]? = some e) : nt.getD j zdf = e := by rw [List.getD_eq_getElem?_getD, h]; rfl
theorem zWf_snoc {nt : zNT} {e : zNX} (hw : zWf nt) (he : zWn nt nt.length e) : zWf (nt ++ [e]) := by
  intro i x hx
  have hi := zR_lt hx
  rw [List.length_append, List.length_singleton] at hi
  have same : ∀ j, j < i → zb ((nt ++ [e]).getD j zdf) = zb (nt.getD j zdf) ∧ zw ((nt ++ [e]).getD j zdf) = zw (nt.getD j zdf) ∧ ((nt ++ [e]).getD j zdf).2.2.1 12 = (nt.getD j zdf).2.2.1 12 := fun j hj => by
    rw [zgetD_app (by omega)]
    exact ⟨rfl, rfl, rfl⟩
  by_cases c : i < nt.length
  · rw [List.getElem?_append_left c] at hx
    exact (hw i x hx).mono same
  · have ei : i = nt.length := by omega
    subst ei
    rw [List.getElem?_append_right (Nat.le_refl _), Nat.sub_self] at hx
    cases hx
    exact he.mono same
/-- the lineage of the next node, bit by bit -/
theorem znat_m1 (nt : zNT) (b : Nat) (j : Nat) : bt ((znat nt b (-1)).2.2.1 12) j = false := by
  rw [znat, if_pos (by decide)]
  exact b_0 j
theorem zLW_bt {nt : zNT} {b : Nat} {x y : Int32} (hl : nt.length < 14) {j : Nat} (hj : j < 32) : bt (zLW nt b x y) j = (decide (j = nt.length) || (bt ((znat nt (b + 1) x).2.2.1 12) j || bt ((znat nt (b + 1) y).2.2.1 12) j)) := by
  rw [zLW, bt_with _ hl hj, b_or, Bool.or_comm]
theorem znat_of2 {nt : zNT} {b f : Nat} (hl : nt.length ≤ 14) (h : f < nt.length) : znat nt b (nI f) = nt.getD f zdf := by
  have hg : nt[f]? = some (nt[f]'h) := List.getElem?_eq_getElem _
  rw [znat_in hg hl, zgetD_at hg]
theorem zWf_add {nt : zNT} {b f s p : Nat} {e : zNX} (hw : zWf nt) (hl : nt.length < 14) (k6 : e.2.1 < 6) (hB : e.2.2.1 3 = nI (zb e) ∧ zb e ≤ 300 ∧ e.2.2.1 4 = nI (zw e) ∧ 1 ≤ zw e ∧ zw e ≤ 8)
    (hf : 1 ≤ e.2.1 → f < nt.length ∧ e.2.2.1 1 = nI f) (hf0 : e.2.1 = 0 → e.2.2.1 1 = -1) (hs : e.2.1 = 3 ∨ e.2.1 = 5 → s < nt.length ∧ e.2.2.1 2 = nI s) (hs0 : ¬ (e.2.1 = 3 ∨ e.2.1 = 5) → e.2.2.1 2 = -1)
    (hp : e.2.1 = 0 ∨ e.2.1 = 4 ∨ e.2.1 = 5 → 1 ≤ p ∧ p ≤ 4 ∧ e.2.2.1 6 = nI p) (hR : e.2.2.2 = []) (hc : e.2.1 = 1 → e.2.2.1 7 = 3 → 0 < e.2.2.1 8)
    (q0 : e.2.1 = 0 → zb e = 12 ∧ zw e = p) (q12 : e.2.1 = 1 ∨ e.2.1 = 2 → zb e = zb (nt.getD f zdf) ∧ zw e = zw (nt.getD f zdf)) (q3 : e.2.1 = 3 → zb e = zb (nt.getD f zdf) + zb (nt.getD s zdf) ∧ zw e = zw (nt.getD f zdf) + zw (nt.getD s zdf))
    (q4 : e.2.1 = 4 → zb e = zb (nt.getD f zdf) ∧ zw e = p) (q5 : e.2.1 = 5 → zb e = zb (nt.getD f zdf) * zb (nt.getD s zdf) ∧ zw e = max p (zw (nt.getD f zdf)))
    (hW : e.2.2.1 12 = zLW nt b (e.2.2.1 1) (e.2.2.1 2)) : zWf (nt ++ [e]) := by
  refine zWf_snoc hw ⟨f, s, p, k6, hB, hf, hf0, hs, hs0, hp, fun _ => by rw [hR]; exact Nat.zero_le _, fun _ => hR, hc, q0, q12, q3, q4, q5, fun j hj => ?_⟩
  rw [hW, zLW_bt hl hj, Bool.or_assoc]
  congr 1
  congr 1
  · by_cases a : 1 ≤ e.2.1
    · rw [(hf a).2, znat_of2 (by omega) (hf a).1]
      simp only [a, decide_true, Bool.true_and]
    · rw [hf0 (by omega), znat_m1]
      simp only [a, decide_false, Bool.false_and]
  · by_cases c : e.2.1 = 3 ∨ e.2.1 = 5
    · rw [(hs c).2, znat_of2 (by omega) (hs c).1]
      simp only [c, decide_true, Bool.true_and]
    · rw [hs0 c, znat_m1]
      simp only [c, decide_false, Bool.false_and]
/-- a node is another, of the same bound, width and lineage -/
theorem zWf_set {nt : zNT} {i : Nat} {e e' : zNX} (hw : zWf nt) (he : nt[i]? = some e) (h1 : zb e' = zb e) (h2 : zw e' = zw e) (h3 : e'.2.2.1 12 = e.2.2.1 12) (hn : zWn nt i e') : zWf (nt.set i e') := by
  have hi := zR_lt he
  have same : ∀ j, zb ((nt.set i e').getD j zdf) = zb (nt.getD j zdf) ∧ zw ((nt.set i e').getD j zdf) = zw (nt.getD j zdf) ∧ ((nt.set i e').getD j zdf).2.2.1 12 = (nt.getD j zdf).2.2.1 12 := fun j => by
    by_cases c : j = i
    · subst c
      rw [zgetD_at (List.getElem?_set_self hi), zgetD_at he]
      exact ⟨h1, h2, h3⟩
    · rw [List.getD_eq_getElem?_getD, List.getD_eq_getElem?_getD, List.getElem?_set_ne (fun w => c w.symm)]
      exact ⟨rfl, rfl, rfl⟩
  intro j x hx
  by_cases c : j = i
  · subst c
    rw [List.getElem?_set_self hi] at hx
    cases hx
    exact hn.mono fun j _ => same j
  · rw [List.getElem?_set_ne (fun w => c w.symm)] at hx
    exact (hw j x hx).mono fun j _ => same j
theorem zWf_put {nt : zNT} {i : Nat} {q : Int32 × Int32} (hw : zWf nt) (hi : i < nt.length) (hk : zkd nt i = 0) (h12 : (nt.getD i zdf).2.2.2.length < 12) : zWf (zput nt i q) := by
  have hg : nt[i]? = some (nt[i]'hi) := List.getElem?_eq_getElem _
  generalize nt[i]'hi = e at hg
  have ee := zgetD_at hg
  rw [zkd, ee] at hk
  rw [ee] at h12
  unfold zput
  rw [ee]
  refine zWf_set hw hg rfl rfl rfl ?_
  obtain ⟨f, s, p, k6, B, hf, hf0, hS, hS0, hp, hR, hR0, hc, q0, q12, q3, q4, q5, hb⟩ := hw i e hg
  exact ⟨f, s, p, k6, B, hf, hf0, hS, hS0, hp, fun _ => by show (e.2.2.2 ++ [q]).length ≤ 12; rw [List.length_append, List.length_singleton]; omega, fun w => absurd hk w, hc, q0, q12, q3, q4, q5, hb⟩
theorem zWf_mark {nt : zNT} {i : Nat} {b : Int32} (hw : zWf nt) (hi : i < nt.length) : zWf (zmark nt i b) := by
  have hg : nt[i]? = some (nt[i]'hi) := List.getElem?_eq_getElem _
  generalize nt[i]'hi = e at hg
  have ee := zgetD_at hg
  unfold zmark
  rw [ee]
  exact zWf_set hw hg rfl rfl rfl (hw i e hg)
theorem zHow_snoc {nt : zNT} {e : zNX} (hh : zHow nt) (h1 : e.2.1 = 1 → ∃ h, h ≤ 4 ∧ e.2.2.1 7 = nI h) (h4 : e.2.1 = 4 → ∃ h, h ≤ 3 ∧ e.2.2.1 7 = nI h) : zHow (nt ++ [e]) := by
  intro i x hx
  have hi := zR_lt hx
  rw [List.length_append, List.length_singleton] at hi
  by_cases c : i < nt.length
  · rw [List.getElem?_append_left c] at hx
    exact hh i x hx
  · have ei : i = nt.length := by omega
    subst ei
    rw [List.getElem?_append_right (Nat.le_refl _), Nat.sub_self] at hx
    cases hx
    exact ⟨h1, h4⟩
theorem zHow_set {nt : zNT} {i : Nat} {e e' : zNX} (hh : zHow nt) (he : nt[i]? = some e) (h1 : e'.2.1 = e.2.1) (h2 : e'.2.2.1 7 = e.2.2.1 7) : zHow (nt.set i e') := by
  intro j x hx
  rcases zset_get hx (zR_lt he) with ⟨rfl, rfl⟩ | ⟨c, hx⟩
  · rw [h1, h2]; exact hh _ e he
  · exact hh j x hx
theorem zHow_put {nt : zNT} {i : Nat} {q : Int32 × Int32} (hh : zHow nt) (hi : i < nt.length) : zHow (zput nt i q) := by
  have hg : nt[i]? = some (nt[i]'hi) := List.getElem?_eq_getElem _
  unfold zput
  rw [zgetD_at hg]
  exact zHow_set hh hg rfl rfl
theorem zHow_mark {nt : zNT} {i : Nat} {b : Int32} (hh : zHow nt) (hi : i < nt.length) : zHow (zmark nt i b) := by
  have hg : nt[i]? = some (nt[i]'hi) := List.getElem?_eq_getElem _
  unfold zmark
  rw [zgetD_at hg]
  exact zHow_set hh hg rfl rfl
