/-! the law: what its arrays know of the nodes -/
def zRl (nt : zNT) (R : Nat → Nat → Int32) : Prop := ∀ (i : Nat) (e : zNX), nt[i]? = some e → R 0 i = nI e.2.1 ∧ R 4 i = e.2.2.1 3 ∧ R 5 i = e.2.2.1 4 ∧ R 6 i = e.2.2.1 11 ∧ (e.2.1 = 0 → R 1 i = e.2.2.1 6) ∧ (1 ≤ e.2.1 → R 1 i = e.2.2.1 1) ∧
  (e.2.1 = 1 → R 2 i = e.2.2.1 7 ∧ R 3 i = e.2.2.1 8) ∧ (e.2.1 = 2 → R 2 i = e.2.2.1 9 ∧ R 3 i = e.2.2.1 10) ∧ (e.2.1 = 3 → R 2 i = e.2.2.1 2) ∧ (e.2.1 = 4 → R 2 i = e.2.2.1 7 ∧ R 3 i = e.2.2.1 6) ∧ (e.2.1 = 5 → R 2 i = e.2.2.1 2 ∧ R 3 i = e.2.2.1 6) ∧ (e.2.1 = 1 → e.2.2.1 8 ≤ nI 8)
/-- all that the law knows -/
def zRe (u : zUv) (R : Nat → Nat → Int32) : Prop := match u with
  | (nt, lim, mem, wk, _, r, L, _, _, sp, _) => zRl nt R ∧ R 7 0 = nI nt.length ∧ R 7 1 = nI lim ∧ R 7 2 = nI wk ∧ R 7 3 = nI mem ∧ R 7 4 = nI r ∧ zsm L ≤ r ∧ sp < 2 ^ 31 ∧ ∀ i, nt.length ≤ i → R 6 i = 0
theorem zkd_e {nt : zNT} {i : Nat} {e : zNX} (h : nt[i]? = some e) : zkd nt i = e.2.1 := by rw [zkd, List.getD_eq_getElem?_getD, h]; rfl
theorem zlt1 {x : Int32} (h : x < 1) : x ≤ 0 := by
  rw [Int32.lt_iff_toInt_lt] at h
  rw [Int32.le_iff_toInt_le]
  have e1 : (1 : Int32).toInt = 1 := by decide
  have e0 : (0 : Int32).toInt = 0 := by decide
  omega
theorem zNi {nt : zNT} {lim i : Nat} {R : Nat → Nat → Int32} (hw : zWf nt) (h14 : nt.length ≤ 14) (hr : zRl nt R) (hi : i < nt.length) : ∃ (e : zNX) (f s p : Nat), nt[i]? = some e ∧ e.2.1 < 6 ∧ zkd nt i = e.2.1 ∧ R 0 i = nI e.2.1 ∧
    (R 4 i = nI (zb e) ∧ zb e ≤ 300 ∧ R 5 i = nI (zw e) ∧ 1 ≤ zw e ∧ zw e ≤ 8) ∧ (1 ≤ e.2.1 → f < i ∧ R 1 i = nI f) ∧ (e.2.1 = 3 ∨ e.2.1 = 5 → s < i ∧ R 2 i = nI s ∧ zf2 nt i = s) ∧ (e.2.1 = 0 ∨ e.2.1 = 4 ∨ e.2.1 = 5 → 1 ≤ p ∧ p ≤ 4 ∧ ztp false e.2.2.1 = p) ∧
    (e.2.1 = 0 → R 1 i = nI p) ∧ (e.2.1 = 4 ∨ e.2.1 = 5 → R 3 i = nI p) ∧ (e.2.1 = 1 → R 2 i = e.2.2.1 7 ∧ R 3 i = e.2.2.1 8) ∧ (e.2.1 = 1 → e.2.2.1 7 = 3 → ∃ c, 1 ≤ c ∧ c ≤ 8 ∧ e.2.2.1 8 = nI c) ∧ (e.2.1 = 2 → R 2 i = e.2.2.1 9 ∧ R 3 i = e.2.2.1 10) ∧ (e.2.1 = 4 → R 2 i = e.2.2.1 7) ∧
    zct lim nt i = zcont false lim e.2.1 e.2.2.1 e.2.2.2 (zct lim nt f) (zct lim nt s) ∧ (zct lim nt i).flatten.length ≤ zb e ∧ (zct lim nt i).length ≤ zw e ∧ 1 ≤ (zct lim nt i).length := by
  have hg := zget_of hi
  generalize nt.getD i zdf = e at hg
  obtain ⟨f, s, p, k6, ⟨b1, b2, w1, w2, w3⟩, hf, hf0, hs, hs0, hp, hR, hR0, hc, q0, q12, q3, q4, q5, -⟩ := hw i e hg
  obtain ⟨r0, r4, r5, r6, r10, r1, ra, rb, rc, rd, re, rg⟩ := hr i e hg
  have hl := zcon_len hw h14 false lim i e hg
  simp only [Bool.false_eq_true, if_false] at hl
  refine ⟨e, f, s, p, hg, k6, zkd_e hg, r0, ⟨r4.trans b1, b2, r5.trans w1, w2, w3⟩, fun k => ⟨(hf k).1, (r1 k).trans (hf k).2⟩, fun k => ⟨(hs k).1, ?_, ?_⟩, fun k => ⟨(hp k).1, (hp k).2.1, ?_⟩, fun k => (r10 k).trans (hp (Or.inl k)).2.2, fun k => ?_, ra, fun k k2 => ?_, rb, fun k => (rd k).1, zcon_at hg h14 k6 hf hs, hl.1, hl.2.2, hl.2.1⟩
  · rcases k with k | k
    · exact (rc k).trans (hs (Or.inl k)).2
    · exact (re k).1.trans (hs (Or.inr k)).2
  · have h9 := (hs k).1
    rw [zf2, List.getD_eq_getElem?_getD, hg]
    show (e.2.2.1 2).toNatClampNeg = s
    rw [(hs k).2, nI_clamp (by omega)]
  · have h3 := (hp k).2.2
    have h2 := (hp k).2.1
    show (if false = true then 1 else (e.2.2.1 6).toNatClampNeg) = p
    rw [if_neg (by decide), h3, nI_clamp (by omega)]
  · rcases k with k | k
    · exact (rd k).2.trans (hp (Or.inr (Or.inl k))).2.2
    · exact (re k).2.trans (hp (Or.inr (Or.inr k))).2.2
  · obtain ⟨c, c1, c2, c3⟩ := nI_four (n := 8) (by decide) (fun w => absurd (hc k k2) (Int32.not_lt.mpr (zlt1 w))) (rg k)
    exact ⟨c, c1, c2, c3⟩
/-- where a row that passes comes to stand -/
theorem zfilt_at {c : Int32 × Int32 → Bool} {T : zP2} {j : Nat} {q : Int32 × Int32} (h : T[j]? = some q) (hc : c q = true) : (T.filter c)[((T.take j).filter c).length]? = some q := by
  have hl := zR_lt h
  have h2 : T[j] = q := by rw [List.getElem?_eq_getElem hl] at h; exact Option.some.inj h
  have e : T = T.take j ++ q :: T.drop (j + 1) := by rw [← h2, List.getElem_cons_drop, List.take_append_drop]
  conv => lhs; rw [e]
  rw [List.filter_append, List.filter_cons_of_pos hc]
  have e2 : (T.take j ++ q :: T.drop (j + 1)).take j = T.take j := by rw [← e]
  rw [e2, List.getElem?_append_right (Nat.le_refl _), Nat.sub_self]
  rfl
theorem zfilt_s {c : Int32 × Int32 → Bool} {T : zP2} {j : Nat} {q : Int32 × Int32} (h : T[j]? = some q) : ((T.take (j + 1)).filter c).length = ((T.take j).filter c).length + (if c q = true then 1 else 0) := by
  rw [ztake h, List.filter_append, List.length_append]
  by_cases hc : c q = true
  · rw [if_pos hc, List.filter_cons_of_pos hc]; rfl
  · rw [if_neg hc, List.filter_cons_of_neg hc]; rfl
theorem zrw_at2 {P : List zP2} {p j : Nat} (h : j < zsz P p) : (P.getD p [])[j]? = some (zrw P p j) := by
  have h : j < (P.getD p []).length := h
  rw [zrw, List.getD_eq_getElem?_getD (l := P.getD p []), List.getElem?_eq_getElem h]
  rfl
theorem zrw_of {P : List zP2} {p j : Nat} {q : Int32 × Int32} (h : (P.getD p [])[j]? = some q) : zrw P p j = q ∧ j < zsz P p := by
  refine ⟨?_, zR_lt h⟩
  rw [zrw, List.getD_eq_getElem?_getD (l := P.getD p []), h]
  rfl
theorem zsum_parts (P : List zP2) : ∀ p, p ≤ P.length → zsz P p ≤ 300 ∨ 300 < P.flatten.length := fun p _ => by
  have := zsz_le (P := P) (j := p)
  omega
