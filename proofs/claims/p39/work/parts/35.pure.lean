/-! pure rows, as they stand in the proof of the whole -/
section
variable {G : zG} {m : Nat}
/-- a number of a node -/
def zis (n : Nat) (x : Int32) : Prop := ¬ x < 0 ∧ x < nI n
theorem zis_in {n i : Nat} (hn : n < 2 ^ 31) (h : i < n) : zis n (nI i) := ⟨nI_pos (by omega), nI_lt h hn⟩
theorem zis_no {n : Nat} {x : Int32} : ¬ zis n x ↔ (x < 0 ∨ nI n ≤ x) := by
  unfold zis
  constructor
  · intro h
    by_cases c : x < 0
    · exact Or.inl c
    · exact Or.inr (Int32.not_lt.mp fun q => h ⟨c, q⟩)
  · rintro (h | h) ⟨a, b⟩
    · exact a h
    · exact Int32.not_lt.mpr h b
end
def znob (n : Nat) (x : Int32) : Bool := decide (x < 0) || decide (nI n ≤ x)
theorem znob_t {n : Nat} {x : Int32} : znob n x = true ↔ ¬ zis n x := by
  rw [zis_no, znob, Bool.or_eq_true, decide_eq_true_iff, decide_eq_true_iff]
theorem znob_f {n : Nat} {x : Int32} : znob n x = false ↔ zis n x := by
  cases h : znob n x with
  | true => exact ⟨fun q => (nomatch q), fun q => absurd q (znob_t.mp h)⟩
  | false =>
    refine ⟨fun _ => ?_, fun _ => rfl⟩
    by_cases c : zis n x
    · exact c
    · rw [znob_t.mpr c] at h; exact nomatch h
def zk_source (n : Nat) (x : Int32) : Nat := if x < 1 ∨ 4 < x then 1 else if n = 14 then 2 else 0
def zk_put (nt : zNT) (x : Int32) : Nat := if znob nt.length x = true then 1 else if (nt.getD x.toNatClampNeg zdf).2.1 ≠ 0 ∨ 12 ≤ (nt.getD x.toNatClampNeg zdf).2.2.2.length then 2 else 0
def zk_map (n : Nat) (x y z : Int32) : Nat := if znob n x = true then 1 else if y < 0 ∨ 4 < y ∨ (y = 3 ∧ z < 1) then 2 else if n = 14 then 3 else 0
def zk_filter (n : Nat) (x : Int32) : Nat := if znob n x = true then 1 else if n = 14 then 2 else 0
def zk_union (nt : zNT) (x y : Int32) : Nat := if znob nt.length x = true ∨ znob nt.length y = true then 1 else if nt.length = 14 ∨ 300 < zb (nt.getD x.toNatClampNeg zdf) + zb (nt.getD y.toNatClampNeg zdf) ∨ 8 < zw (nt.getD x.toNatClampNeg zdf) + zw (nt.getD y.toNatClampNeg zdf) then 2 else 0
def zk_group (n : Nat) (x y z : Int32) : Nat := if znob n x = true then 1 else if (y < 0 ∨ 3 < y) ∨ (z < 1 ∨ 4 < z) then 2 else if n = 14 then 3 else 0
def zk_join (nt : zNT) (x y z : Int32) : Nat := if znob nt.length x = true ∨ znob nt.length y = true then 1 else if z < 1 ∨ 4 < z then 2 else if nt.length = 14 ∨ 300 < zb (nt.getD x.toNatClampNeg zdf) * zb (nt.getD y.toNatClampNeg zdf) then 3 else 0
section
variable {nt : zNT} {lim mem wk r tk sp cs un : Nat} {slow : Nat → Nat} {L : zNS} {A : List zAE}
theorem zget_at {i : Nat} {e : zNX} (h : nt[i]? = some e) : nt.getD i zdf = e := by rw [List.getD_eq_getElem?_getD, h]; rfl
end
def zk_node (n : Nat) (x : Int32) : Nat := if znob n x = true then 1 else 0
def zk_work (x : Int32) : Nat := if x < 1 ∨ 4 < x then 1 else 0
def zk_slow (x y : Int32) : Nat := if x < 0 ∨ 4 ≤ x then 1 else if y < 1 ∨ 9 < y then 2 else 0
def zk_1000 (x : Int32) : Nat := if x < 0 ∨ 1000 < x then 1 else 0
def zput (nt : zNT) (i : Nat) (q : Int32 × Int32) : zNT := nt.set i ((nt.getD i zdf).1, (nt.getD i zdf).2.1, (nt.getD i zdf).2.2.1, (nt.getD i zdf).2.2.2 ++ [q])
def zmark (nt : zNT) (i : Nat) (b : Int32) : zNT := nt.set i ((nt.getD i zdf).1, (nt.getD i zdf).2.1, upd (nt.getD i zdf).2.2.1 11 b, (nt.getD i zdf).2.2.2)
def zsame (ip : Bool) (lim : Nat) (e e' : zNX) : Prop := e.2.2.1 1 = e'.2.2.1 1 ∧ e.2.2.1 2 = e'.2.2.1 2 ∧ ∀ P T : List zP2, zcont ip lim e.2.1 e.2.2.1 e.2.2.2 P T = zcont ip lim e'.2.1 e'.2.2.1 e'.2.2.2 P T
theorem zall_cg {ip : Bool} {lim : Nat} : ∀ (nt nt' : zNT) (L : List (List zP2)), nt.length = nt'.length → (∀ (i : Nat) (e e' : zNX), nt[i]? = some e → nt'[i]? = some e' → zsame ip lim e e') →
    nt.foldl (fun L e => L ++ [zcont ip lim e.2.1 e.2.2.1 e.2.2.2 (zget L (e.2.2.1 1)) (zget L (e.2.2.1 2))]) L = nt'.foldl (fun L e => L ++ [zcont ip lim e.2.1 e.2.2.1 e.2.2.2 (zget L (e.2.2.1 1)) (zget L (e.2.2.1 2))]) L
  | [], [], L, _, _ => rfl
  | [], b :: t, L, h, _ => by simp at h
  | a :: t, [], L, h, _ => by simp at h
  | a :: t, b :: u, L, h, hs => by
    obtain ⟨h1, h2, h3⟩ := hs 0 a b rfl rfl
    rw [List.foldl_cons, List.foldl_cons, h1, h2, h3]
    exact zall_cg t u _ (by simpa using h) fun i e e' p q => hs (i + 1) e e' (by simpa using p) (by simpa using q)
theorem zcont_up {ip : Bool} {lim k : Nat} {D : Nat → Int32} {R : zP2} {P T : List zP2} {b : Int32} : zcont ip lim k (upd D 11 b) R P T = zcont ip lim k D R P T := by
  have e : ∀ j, j ≠ 11 → upd D 11 b j = D j := fun j h => pk_un h
  have m1 : zmapP (upd D 11 b) = zmapP D := by funext p; simp only [zmapP, zmk, zmv, e 7 (by decide), e 8 (by decide)]
  have m2 : zsifP (upd D 11 b) = zsifP D := by funext p; simp only [zsifP, e 9 (by decide), e 10 (by decide)]
  have m3 : zgrp (upd D 11 b) = zgrp D := by
    have g0 : ∀ y, zg0 (upd D 11 b) y = zg0 D y := fun y => by simp only [zg0, e 7 (by decide)]
    have g1 : ∀ x y, zg1 (upd D 11 b) x y = zg1 D x y := fun x y => by simp only [zg1, g0, e 7 (by decide)]
    have ga : zgad (upd D 11 b) = zgad D := by funext R q; simp only [zgad, g0, g1]
    funext R; simp only [zgrp, ga]
  have m4 : ztp ip (upd D 11 b) = ztp ip D := by simp only [ztp, e 6 (by decide)]
  simp only [zcont, m1, m2, m3, m4]
theorem zcon_mark {ip : Bool} {lim i j : Nat} {nt : zNT} {b : Int32} : zcon ip lim (zmark nt i b) j = zcon ip lim nt j := by
  unfold zcon zall
  rw [zall_cg (zmark nt i b) nt [] (by rw [zmark, List.length_set]) fun k e e' h1 h2 => ?_]
  unfold zmark at h1
  by_cases c : i = k
  · subst c
    rw [List.getElem?_set_self (zR_lt h2)] at h1
    cases h1
    rw [zget_at h2]
    exact ⟨pk_un (f := e'.2.2.1) (k := 11) (x := b) (show 1 ≠ 11 by decide), pk_un (f := e'.2.2.1) (k := 11) (x := b) (show 2 ≠ 11 by decide), fun P T => zcont_up⟩
  · rw [List.getElem?_set_ne c, h2] at h1
    cases h1
    exact ⟨rfl, rfl, fun _ _ => rfl⟩
theorem zct_mark {lim i j : Nat} {nt : zNT} {b : Int32} : zct lim (zmark nt i b) j = zct lim nt j := zcon_mark
def zkf (x : Int32) (R : zP2) : zP2 := R.filter fun q => decide (q.1 = x)
def zst1 (D : Nat → Int32) (a : Option Int32) (q : Int32 × Int32) : Option Int32 := match a with
  | none => some (zg0 D q.2)
  | some w => some (zg1 D w q.2)
def zagg (D : Nat → Int32) (R : zP2) : Option Int32 := R.foldl (zst1 D) none
def zone (x : Int32) (a : Option Int32) : zP2 := match a with
  | none => []
  | some w => [(x, w)]
theorem zkf_app (x : Int32) (R T : zP2) : zkf x (R ++ T) = zkf x R ++ zkf x T := List.filter_append _ _
theorem zkf_cons_t {x : Int32} {q : Int32 × Int32} {R : zP2} (h : q.1 = x) : zkf x (q :: R) = q :: zkf x R := by unfold zkf; rw [List.filter_cons_of_pos (by simpa using h)]
theorem zkf_cons_f {x : Int32} {q : Int32 × Int32} {R : zP2} (h : q.1 ≠ x) : zkf x (q :: R) = zkf x R := by unfold zkf; rw [List.filter_cons_of_neg (by simpa using h)]
theorem zkf_nil {x : Int32} {R : zP2} (h : ∀ q ∈ R, q.1 ≠ x) : zkf x R = [] := by
  unfold zkf
  rw [List.filter_eq_nil_iff]
  intro q hq
  simpa using h q hq
theorem zagg_snoc (D : Nat → Int32) (R : zP2) (q : Int32 × Int32) : zagg D (R ++ [q]) = zst1 D (zagg D R) q := by simp [zagg, List.foldl_append]
theorem zins_perm (R : zP2) (j : Nat) (q : Int32 × Int32) : (zins R j q).Perm (q :: R) := by
  unfold zins
  refine List.perm_middle.trans ?_
  rw [List.take_append_drop]
theorem zdrop_gt {R : zP2} {q : Int32 × Int32} (h : zUp R) : ∀ z ∈ R.drop (zcnt R q.1), z.1 ≠ q.1 := by
  intro z hz
  obtain ⟨i, hi⟩ := List.getElem?_of_mem hz
  rw [List.getElem?_drop] at hi
  have := zcnt_ge R q.1 _ z h (Nat.le_add_right _ _) hi
  exact fun e => this (by rw [e]; exact Int32.le_refl _)
theorem zins_kf {R : zP2} {q : Int32 × Int32} {x : Int32} (h : zUp R) : zkf x (zins R (zcnt R q.1) q) = zkf x R ++ (if q.1 = x then [q] else []) := by
  have e : zkf x R = zkf x (R.take (zcnt R q.1)) ++ zkf x (R.drop (zcnt R q.1)) := by rw [← zkf_app, List.take_append_drop]
  unfold zins
  rw [zkf_app, e]
  by_cases c : q.1 = x
  · rw [if_pos c, zkf_cons_t c]
    subst c
    rw [zkf_nil (zdrop_gt h), List.append_nil]
  · rw [if_neg c, zkf_cons_f c, List.append_nil]
theorem zset_kf {R : zP2} {j : Nat} {g e : Int32 × Int32} {x : Int32} (hj : R[j]? = some g) (h1 : g.1 = x) (h2 : e.1 = x) (h3 : zkf x R = [g]) : zkf x (R.set j e) = [e] := by
  have hl := zR_lt hj
  have e1 : R = R.take j ++ g :: R.drop (j + 1) := by
    have h2 : R[j] = g := by rw [List.getElem?_eq_getElem hl] at hj; exact Option.some.inj hj
    rw [← h2, List.getElem_cons_drop, List.take_append_drop]
  have e2 : R.set j e = R.take j ++ e :: R.drop (j + 1) := by
    rw [List.set_eq_take_append_cons_drop, if_pos hl]
  rw [e1, zkf_app, zkf_cons_t h1] at h3
  rw [e2, zkf_app, zkf_cons_t h2]
  have hlen := congrArg List.length h3
  rw [List.length_append, List.length_cons, List.length_singleton] at hlen
  have z1 : zkf x (R.take j) = [] := List.length_eq_zero_iff.mp (by omega)
  have z2 : zkf x (R.drop (j + 1)) = [] := List.length_eq_zero_iff.mp (by omega)
  rw [z1, z2]
  rfl
theorem zset_kf_o {R : zP2} {j : Nat} {g e : Int32 × Int32} {x : Int32} (hj : R[j]? = some g) (h1 : g.1 ≠ x) (h2 : e.1 ≠ x) : zkf x (R.set j e) = zkf x R := by
  have hl := zR_lt hj
  have e1 : R = R.take j ++ g :: R.drop (j + 1) := by
    have h2 : R[j] = g := by rw [List.getElem?_eq_getElem hl] at hj; exact Option.some.inj hj
    rw [← h2, List.getElem_cons_drop, List.take_append_drop]
  have e2 : R.set j e = R.take j ++ e :: R.drop (j + 1) := by
    rw [List.set_eq_take_append_cons_drop, if_pos hl]
  rw [e2, zkf_app, zkf_cons_f h2]
  conv => rhs; rw [e1, zkf_app, zkf_cons_f h1]
theorem zgad_kf {D : Nat → Int32} {R : zP2} {q : Int32 × Int32} (h : zUp R) (a : Int32 → Option Int32) (ha : ∀ x, zkf x R = zone x (a x)) : ∀ x, zkf x (zgad D R q) = zone x (if q.1 = x then zst1 D (a x) q else a x) := by
  intro x
  unfold zgad
  by_cases c : 0 < zcnt R q.1 ∧ ∃ z, R[zcnt R q.1 - 1]? = some z ∧ z.1 = q.1
  · rw [if_pos c]
    obtain ⟨c1, z, hz, hz1⟩ := c
    have hv : (R.getD (zcnt R q.1 - 1) (0, 0)) = z := by rw [List.getD_eq_getElem?_getD, hz]; rfl
    rw [hv]
    by_cases e : q.1 = x
    · rw [if_pos e]
      have hm : z ∈ zkf x R := List.mem_filter.mpr ⟨List.mem_of_getElem? hz, by simpa using hz1.trans e⟩
      have hax := ha x
      cases hw : a x with
      | none => rw [hax, hw] at hm; exact absurd hm (by simp [zone])
      | some w =>
        rw [hw] at hax
        rw [hax] at hm
        have ez : z = (x, w) := by simpa [zone] using hm
        rw [zset_kf (e := (q.1, zg1 D z.2 q.2)) hz (hz1.trans e) e (by rw [hax, ez]; rfl), ez, e]
        rfl
    · rw [if_neg e, zset_kf_o (e := (q.1, zg1 D z.2 q.2)) hz (by rw [hz1]; exact e) e, ha x]
  · rw [if_neg c, zins_kf (q := (q.1, zg0 D q.2)) h]
    by_cases e : q.1 = x
    · rw [if_pos e, if_pos e]
      have none : zkf x R = [] := by
        refine zkf_nil fun z hz ez => c ?_
        obtain ⟨i, hi⟩ := List.getElem?_of_mem hz
        have hlt : i < zcnt R q.1 := by
          rcases Nat.lt_or_ge i (zcnt R q.1) with w | w
          · exact w
          · exact absurd (by rw [ez, e]; exact Int32.le_refl _) (zcnt_ge R q.1 i z h w hi)
        have hle := zcnt_le R q.1
        have hg : R[zcnt R q.1 - 1]? = some (R[zcnt R q.1 - 1]'(by omega)) := List.getElem?_eq_getElem _
        refine ⟨by omega, _, hg, ?_⟩
        have h1 := zcnt_lt R q.1 _ _ (by omega) hg
        have h2 := h i (zcnt R q.1 - 1) z _ (by omega) hi hg
        rw [ez, ← e] at h2
        exact Int32.le_antisymm h1 h2
      have hax := ha x
      rw [none] at hax
      cases hw : a x with
      | none => rw [none, e]; rfl
      | some w => rw [hw] at hax; exact nomatch hax
    · rw [if_neg e, if_neg e, List.append_nil]
      exact ha x
theorem zgrp_kf (D : Nat → Int32) (R : zP2) : ∀ x, zkf x (zgrp D R) = zone x (zagg D (zkf x R)) := by
  have key : ∀ n, n ≤ R.length → ∀ x, zkf x (zgrp D (R.take n)) = zone x (zagg D (zkf x (R.take n))) := by
    intro n
    induction n with
    | zero => intro _ x; rfl
    | succ n ih =>
      intro hn x
      have hg : R[n]? = some (R[n]'(by omega)) := List.getElem?_eq_getElem _
      generalize R[n]'(by omega) = q at hg
      rw [ztake hg, zgrp_snoc, zgad_kf (zgrp_up D _).1 (fun x => zagg D (zkf x (R.take n))) (ih (by omega)), zkf_app]
      congr 1
      by_cases c : q.1 = x
      · rw [if_pos c, zkf_cons_t c]; exact (zagg_snoc D _ q).symm
      · rw [if_neg c, zkf_cons_f c]
        show _ = zagg D (_ ++ [])
        rw [List.append_nil]
  have := key R.length (Nat.le_refl _)
  rwa [List.take_length] at this
theorem zsrt_perm (R : zP2) : (zsrt R).Perm R := by
  have key : ∀ n, n ≤ R.length → (zsrt (R.take n)).Perm (R.take n) := by
    intro n
    induction n with
    | zero => intro _; exact List.Perm.refl _
    | succ n ih =>
      intro hn
      have hg : R[n]? = some (R[n]'(by omega)) := List.getElem?_eq_getElem _
      rw [ztake hg, zsrt_snoc]
      refine (zins_perm _ _ _).trans ?_
      exact (List.Perm.cons _ (ih (by omega))).trans (List.perm_append_singleton _ _).symm
  have := key R.length (Nat.le_refl _)
  rwa [List.take_length] at this
theorem zfm_app (A B S : zP2) : zfm (A ++ B) S = zfm A S ++ zfm B S := by simp [zfm]
section
variable {G : zG} {m its : Nat}
/-- a group's value so far -/
def zav (D : Nat → Int32) (R : zP2) : Int32 := (zagg D R).getD 0
end
def zHow (nt : zNT) : Prop := ∀ (i : Nat) (e : zNX), nt[i]? = some e → (e.2.1 = 1 → ∃ h, h ≤ 4 ∧ e.2.2.1 7 = nI h) ∧ (e.2.1 = 4 → ∃ h, h ≤ 3 ∧ e.2.2.1 7 = nI h)
noncomputable def zk_part (lim : Nat) (nt : zNT) (x y : Int32) : Nat := if znob nt.length x = true ∨ znob (zct lim nt x.toNatClampNeg).length y = true then 1 else 0
noncomputable def zk_place (lim : Nat) (nt : zNT) (x y z : Int32) : Nat := if (znob nt.length x = true ∨ znob (zct lim nt x.toNatClampNeg).length y = true) ∨ znob (zsz (zct lim nt x.toNatClampNeg) y.toNatClampNeg) z = true then 1 else 0
def zk_join5 (nt : zNT) (x : Int32) : Nat := if znob nt.length x = true then 1 else if zkd nt x.toNatClampNeg ≠ 5 then 2 else 0
/-- which output has so many before it -/
def znu (s : Nat → Bool) (n : Nat) : Nat := (znth s n 0 14).getD 0
theorem zcn_mono (s : Nat → Bool) : ∀ {a b : Nat}, a ≤ b → zcn s a ≤ zcn s b := by
  intro a b h
  induction b with
  | zero => rw [Nat.le_zero.mp h]; exact Nat.le_refl _
  | succ b ih =>
    rcases Nat.lt_or_ge a (b + 1) with c | c
    · have := ih (by omega)
      rw [zcn]
      omega
    · rw [show a = b + 1 by omega]; exact Nat.le_refl _
theorem znu_of {s : Nat → Bool} {n j : Nat} (h1 : j < 14) (h2 : s j = true) (h3 : zcn s j = n) : znu s n = j := by
  have hj : zcn s (j + 1) = n + 1 := by rw [zcn, h3, h2]; rfl
  have := zcn_mono s (show j + 1 ≤ 14 by omega)
  obtain ⟨k, k1, k2, k3, k4⟩ := znth_ex (s := s) (n := n) (by omega) 14 0 rfl (Nat.zero_le _)
  rw [znu, k1]
  show k = j
  have hk : zcn s (k + 1) = n + 1 := by rw [zcn, k4, k3]; rfl
  rcases Nat.lt_trichotomy k j with c | c | c
  · have := zcn_mono s (show k + 1 ≤ j by omega); omega
  · exact c
  · have := zcn_mono s (show j + 1 ≤ k by omega); omega
noncomputable def zk_out (lim : Nat) (nt : zNT) (C : Nat → Bool) (x y : Int32) : Nat := if znob nt.length x = true ∨ znob (zcn (zdraw lim nt C x.toNatClampNeg).2.1 14) y = true then 1 else 0
def zIv (o m bg sz tick : Nat) (S : zSS) : Prop := S.1 ≤ m ∧ bg + S.1 ≤ S.2.2.2.2.length ∧ (S.1 < m → S.2.2.2.2.length = bg + S.1) ∧
  (∀ (k : Nat) (a : zAE), S.2.2.2.2[k]? = some a → (k < bg → a.1 ≠ o) ∧ (bg ≤ k → a.1 = o ∧ a.2.1 < S.1 ∧ a.2.2.2.2.1 = S.2.1 a.2.1 ∧ (k < bg + S.1 → a.2.1 = k - bg) ∧ (bg + S.1 ≤ k → S.2.2.1 a.2.1 = true))) ∧
  (∀ k, k < sz → S.2.2.2.1 k ≤ tick ∨ ∃ p, p < S.1 ∧ S.2.2.2.1 k = S.2.1 p ∧ (zwk S.2.2.2.2 (bg + p) = k ∨ S.2.2.1 p = true)) ∧ ∀ p, S.2.2.1 p = true → p < S.1
theorem zIv_pt {work slow : Nat → Nat} {o m bg sz tick k : Nat} {S : zSS} (h : zIv o m bg sz tick S) (ht : S.1 < m) : zIv o m bg sz tick (zpt work slow o tick k S) := by
  obtain ⟨h1, h2, h3, h4, h5, h6⟩ := h
  obtain ⟨n, ends, cop, idle, A⟩ := S
  simp only at *
  have hA := h3 ht
  have nocop : ∀ a : zAE, ∀ j, A[j]? = some a → bg ≤ j → j < bg + n := fun a j hj _ => by have := zR_lt hj; omega
  refine ⟨ht, ?_, fun _ => ?_, fun j a hj => ?_, fun j hj => ?_, fun p hp => Nat.lt_succ_of_lt (h6 p hp)⟩
  · show bg + (n + 1) ≤ (A ++ [_]).length
    rw [List.length_append, List.length_singleton]; omega
  · show (A ++ [_]).length = bg + (n + 1)
    rw [List.length_append, List.length_singleton]; omega
  · have hj : (A ++ [(o, n, k, tick, tick + work n * slow k, false)])[j]? = some a := hj
    by_cases c : j < A.length
    · rw [List.getElem?_append_left c] at hj
      obtain ⟨g1, g2⟩ := h4 j a hj
      refine ⟨g1, fun q => ?_⟩
      obtain ⟨e1, e2, e3, e4, e5⟩ := g2 q
      refine ⟨e1, Nat.lt_succ_of_lt e2, ?_, fun _ => e4 (by omega), fun w => ?_⟩
      · show _ = zun ends n _ a.2.1
        rw [zun_n (by omega)]; exact e3
      · have w' : bg + (n + 1) ≤ j := w
        omega
    · have hl := zR_lt hj
      rw [List.length_append, List.length_singleton] at hl
      have e : j = A.length := by omega
      subst e
      rw [List.getElem?_append_right (Nat.le_refl _), Nat.sub_self] at hj
      cases hj
      refine ⟨fun q => by omega, fun _ => ⟨rfl, Nat.lt_succ_self n, ?_, fun _ => by show n = A.length - bg; omega, fun w => ?_⟩⟩
      · show _ = zun ends n _ n
        rw [zun_s]
      · have w' : bg + (n + 1) ≤ A.length := w
        omega
  · show zun idle k _ j ≤ tick ∨ ∃ p, p < n + 1 ∧ zun idle k _ j = zun ends n _ p ∧ (zwk (A ++ [_]) (bg + p) = j ∨ cop p = true)
    by_cases e : j = k
    · subst e
      refine Or.inr ⟨n, Nat.lt_succ_self n, by rw [zun_s, zun_s], Or.inl ?_⟩
      rw [zwk, List.getD_eq_getElem?_getD, List.getElem?_append_right (by omega), show bg + n - A.length = 0 by omega]
      rfl
    · rw [zun_n e]
      rcases h5 j hj with w | ⟨p, p1, p2, p3⟩
      · exact Or.inl w
      · refine Or.inr ⟨p, by omega, by rw [zun_n (by omega)]; exact p2, ?_⟩
        rw [zwk_app (by omega)]
        exact p3
theorem zIv_pc {o m bg sz tick e k p : Nat} {S : zSS} (h : zIv o m bg sz tick S) (hm : S.1 = m) (hp : p < S.1) (hc : S.2.2.1 p = false) : zIv o m bg sz tick (zpc bg o tick e k p S) := by
  obtain ⟨h1, h2, h3, h4, h5, h6⟩ := h
  obtain ⟨n, ends, cop, idle, A⟩ := S
  simp only at *
  refine ⟨h1, ?_, fun q => absurd q (by show ¬ n < m; omega), fun j a hj => ?_, fun j hj => ?_, fun q hq => ?_⟩
  · show bg + n ≤ (zse (A ++ [_]) _ _).length
    rw [zse_len, List.length_append]; omega
  · have hj : (zse (A ++ [(o, p, k, tick, e, true)]) (bg + p) e)[j]? = some a := hj
    rw [zse, List.getElem?_modify] at hj
    obtain ⟨b, hb, ea⟩ : ∃ b, (A ++ [(o, p, k, tick, e, true)])[j]? = some b ∧ a = if bg + p = j then (b.1, b.2.1, b.2.2.1, b.2.2.2.1, e, b.2.2.2.2.2) else b := by
      cases hb : (A ++ [(o, p, k, tick, e, true)])[j]? with
      | none => rw [hb] at hj; exact nomatch hj
      | some b =>
        rw [hb] at hj
        exact ⟨b, rfl, (Option.some.inj hj).symm⟩
    show (j < bg → a.1 ≠ o) ∧ (bg ≤ j → a.1 = o ∧ a.2.1 < n ∧ a.2.2.2.2.1 = zun ends p e a.2.1 ∧ (j < bg + n → a.2.1 = j - bg) ∧ (bg + n ≤ j → zor cop p a.2.1 = true))
    by_cases c : j < A.length
    · rw [List.getElem?_append_left c] at hb
      obtain ⟨g1, g2⟩ := h4 j b hb
      by_cases q : bg + p = j
      · rw [if_pos q] at ea
        subst ea
        obtain ⟨e1, e2, e3, e4, e5⟩ := g2 (by omega)
        have e6 := e4 (by omega)
        refine ⟨fun w => by omega, fun _ => ⟨e1, e2, ?_, e4, fun w => by omega⟩⟩
        show e = zun ends p e b.2.1
        rw [e6, show j - bg = p by omega, zun_s]
      · rw [if_neg q] at ea
        subst ea
        refine ⟨g1, fun w => ?_⟩
        obtain ⟨e1, e2, e3, e4, e5⟩ := g2 w
        have ne : a.2.1 ≠ p := by
          intro z
          by_cases y : j < bg + n
          · have := e4 y; omega
          · have := e5 (by omega); rw [z, hc] at this; exact nomatch this
        refine ⟨e1, e2, by rw [zun_n ne]; exact e3, e4, fun y => ?_⟩
        rw [zor, e5 y]; rfl
    · have hl := zR_lt hb
      rw [List.length_append, List.length_singleton] at hl
      have ej : j = A.length := by omega
      subst ej
      rw [List.getElem?_append_right (Nat.le_refl _), Nat.sub_self] at hb
      cases hb
      rw [if_neg (by omega)] at ea
      subst ea
      refine ⟨fun w => by omega, fun _ => ⟨rfl, hp, by rw [zun_s], fun w => by omega, fun _ => ?_⟩⟩
      simp [zor]
  · show zun (zun idle k e) _ e j ≤ tick ∨ ∃ q, q < n ∧ zun (zun idle k e) _ e j = zun ends p e q ∧ (zwk (zse (A ++ [_]) _ _) (bg + q) = j ∨ zor cop p q = true)
    have own : zun (zun idle k e) (zwk A (bg + p)) e j = e → zun (zun idle k e) (zwk A (bg + p)) e j ≤ tick ∨ ∃ q, q < n ∧ zun (zun idle k e) (zwk A (bg + p)) e j = zun ends p e q ∧ (zwk (zse (A ++ [(o, p, k, tick, e, true)]) (bg + p) e) (bg + q) = j ∨ zor cop p q = true) := fun w => Or.inr ⟨p, hp, by rw [w, zun_s], Or.inr (by simp [zor])⟩
    by_cases y : j = zwk A (bg + p)
    · exact own (by rw [y, zun_s])
    · by_cases z : j = k
      · exact own (by rw [zun_n y, z, zun_s])
      · rw [zun_n y, zun_n z]
        rcases h5 j hj with w | ⟨q, q1, q2, q3⟩
        · exact Or.inl w
        · have ne : q ≠ p := by
            intro x
            subst x
            rcases q3 with q3 | q3
            · exact y q3.symm
            · rw [hc] at q3; exact nomatch q3
          refine Or.inr ⟨q, q1, by rw [zun_n ne]; exact q2, ?_⟩
          rw [zwk_se, zwk_app (by omega)]
          exact q3.imp id fun w => by rw [zor, w]; rfl
  · have hq : zor cop p q = true := hq
    rcases zor_iff.mp hq with w | w
    · exact h6 q w
    · rw [w]; exact hp
theorem zec_ext {ends ends' : Nat → Nat} {tick : Nat} : ∀ n, (∀ p, p < n → (ends p ≤ tick ↔ ends' p ≤ tick)) → zec ends tick n = zec ends' tick n
  | 0, _ => rfl
  | n + 1, h => by
    rw [zec, zec, zec_ext n fun p hp => h p (by omega)]
    congr 1
    by_cases c : ends n ≤ tick
    · rw [if_pos c, if_pos ((h n (by omega)).mp c)]
    · rw [if_neg c, if_neg (fun w => c ((h n (by omega)).mpr w))]
theorem zec_full {ends : Nat → Nat} {tick : Nat} : ∀ n, zec ends tick n = n ↔ ∀ p, p < n → ends p ≤ tick
  | 0 => ⟨fun _ p hp => absurd hp (Nat.not_lt_zero _), fun _ => rfl⟩
  | n + 1 => by
    have ih := zec_full (ends := ends) (tick := tick) n
    have := zec_le ends tick n
    rw [zec]
    constructor
    · intro h p hp
      by_cases c : ends n ≤ tick
      · rw [if_pos c] at h
        by_cases e : p = n
        · subst e; exact c
        · exact ih.mp (by omega) p (by omega)
      · rw [if_neg c] at h; omega
    · intro h
      rw [if_pos (h n (by omega)), ih.mpr fun p hp => h p (by omega)]
theorem zec_mono {ends : Nat → Nat} {a b : Nat} (h : a ≤ b) : ∀ n, zec ends a n ≤ zec ends b n
  | 0 => Nat.le_refl _
  | n + 1 => by
    have := zec_mono (ends := ends) h n
    rw [zec, zec]
    by_cases c : ends n ≤ a
    · rw [if_pos c, if_pos (Nat.le_trans c h)]; omega
    · rw [if_neg c]; omega
theorem zec_lt {ends : Nat → Nat} {a b p : Nat} (h : a ≤ b) (h1 : a < ends p) (h2 : ends p ≤ b) : ∀ n, p < n → zec ends a n + 1 ≤ zec ends b n
  | 0, hp => absurd hp (Nat.not_lt_zero _)
  | n + 1, hp => by
    rw [zec, zec]
    by_cases e : p = n
    · subst e
      have := zec_mono (ends := ends) h p
      rw [if_neg (by omega), if_pos h2]
      omega
    · have := zec_lt h h1 h2 n (by omega)
      by_cases c : ends n ≤ a
      · rw [if_pos c, if_pos (Nat.le_trans c h)]; omega
      · rw [if_neg c]; omega
theorem zea_spec {ends : Nat → Nat} {tick : Nat} : ∀ n, (zea ends tick n = tick ∧ ∀ p, p < n → ends p ≤ tick) ∨ (tick < zea ends tick n ∧ (∃ p, p < n ∧ ends p = zea ends tick n) ∧ ∀ p, p < n → tick < ends p → zea ends tick n ≤ ends p)
  | 0 => Or.inl ⟨rfl, fun p hp => absurd hp (Nat.not_lt_zero _)⟩
  | n + 1 => by
    rw [zea]
    rcases zea_spec (ends := ends) (tick := tick) n with ⟨e, h⟩ | ⟨e1, ⟨p0, e2, e3⟩, e4⟩
    · by_cases c : tick < ends n
      · rw [if_pos ⟨c, Or.inl e⟩]
        refine Or.inr ⟨c, ⟨n, Nat.lt_succ_self n, rfl⟩, fun p hp hp2 => ?_⟩
        by_cases q : p = n
        · subst q; exact Nat.le_refl _
        · have := h p (by omega); omega
      · rw [if_neg (fun w => c w.1)]
        refine Or.inl ⟨e, fun p hp => ?_⟩
        by_cases q : p = n
        · subst q; omega
        · exact h p (by omega)
    · by_cases c : tick < ends n ∧ (zea ends tick n = tick ∨ ends n < zea ends tick n)
      · rw [if_pos c]
        refine Or.inr ⟨c.1, ⟨n, Nat.lt_succ_self n, rfl⟩, fun p hp hp2 => ?_⟩
        by_cases q : p = n
        · subst q; exact Nat.le_refl _
        · have := e4 p (by omega) hp2; omega
      · rw [if_neg c]
        refine Or.inr ⟨e1, ⟨p0, by omega, e3⟩, fun p hp hp2 => ?_⟩
        by_cases q : p = n
        · subst q
          by_cases z : zea ends tick p ≤ ends p
          · exact z
          · exact absurd ⟨hp2, Or.inr (by omega)⟩ c
        · exact e4 p (by omega) hp2
/-- some worker took something -/
def zlt (work slow : Nat → Nat) (m o bg tick : Nat) (half : Bool) : Nat → zSS → Bool
  | 0, _ => false
  | k + 1, S => zlt work slow m o bg tick half k S || (decide ((zlk work slow m o bg tick half k S).1.2.2.2.1 k ≤ tick ∧ (zlk work slow m o bg tick half k S).1.1 < m) || (zpw work slow m o bg tick half k (zlk work slow m o bg tick half k S).1).2)
/-- what a turn of a worker leaves -/
theorem zpw_keep {work slow : Nat → Nat} {m o bg tick k sz : Nat} {half : Bool} {S : zSS} (h : zIv o m bg sz tick S) (hw : ∀ p, 1 ≤ work p) (hs : 1 ≤ slow k) :
    zIv o m bg sz tick (zpw work slow m o bg tick half k S).1 ∧ zec (zpw work slow m o bg tick half k S).1.2.1 tick (zpw work slow m o bg tick half k S).1.1 = zec S.2.1 tick S.1 ∧ S.1 ≤ (zpw work slow m o bg tick half k S).1.1 ∧
    (∀ p, p < S.1 → tick < S.2.1 p → tick < (zpw work slow m o bg tick half k S).1.2.1 p) ∧ (∀ p, S.1 ≤ p → p < (zpw work slow m o bg tick half k S).1.1 → tick < (zpw work slow m o bg tick half k S).1.2.1 p) ∧
    ((zpw work slow m o bg tick half k S).1.1 < m → tick < (zpw work slow m o bg tick half k S).1.2.2.2.1 k) ∧ (∀ j, tick < S.2.2.2.1 j → tick < (zpw work slow m o bg tick half k S).1.2.2.2.1 j) ∧
    zcn S.2.2.1 8 + (zpw work slow m o bg tick half k S).2.toNat ≤ zcn (zpw work slow m o bg tick half k S).1.2.2.1 8 + (if m ≤ 8 then 0 else 1) := by
  have hwk : ∀ p, tick < tick + work p * slow k := fun p => by
    have := Nat.mul_le_mul (hw p) hs
    omega
  unfold zpw
  by_cases c1 : S.2.2.2.1 k ≤ tick
  · rw [if_pos c1]
    by_cases c2 : S.1 < m
    · rw [if_pos c2]
      have e0 : (zpt work slow o tick k S).2.1 = zun S.2.1 S.1 (tick + work S.1 * slow k) := rfl
      refine ⟨zIv_pt h c2, ?_, Nat.le_succ _, fun p hp hp2 => ?_, fun p hp hp2 => ?_, fun _ => ?_, fun j hj => ?_, by show zcn S.2.2.1 8 + 0 ≤ zcn S.2.2.1 8 + _; omega⟩
      · show zec (zun S.2.1 S.1 _) tick (S.1 + 1) = _
        rw [zec, zun_s, if_neg (by have := hwk S.1; omega), Nat.add_zero]
        exact zec_ext _ fun p hp => by rw [zun_n (by omega)]
      · rw [e0, zun_n (by omega)]; exact hp2
      · have hp2 : p < S.1 + 1 := hp2
        have e : p = S.1 := by omega
        rw [e0, e, zun_s]
        exact hwk _
      · show tick < zun S.2.2.2.1 k _ k
        rw [zun_s]; exact hwk _
      · show tick < zun S.2.2.2.1 k _ j
        by_cases e : j = k
        · subst e; rw [zun_s]; exact hwk _
        · rw [zun_n e]; exact hj
    · rw [if_neg c2]
      have em : S.1 = m := by have := h.1; omega
      by_cases c3 : half = true ∧ (zlw S.2.1 S.2.2.1 tick m S.1).1 < m ∧ tick + work (zlw S.2.1 S.2.2.1 tick m S.1).1 * slow k < S.2.1 (zlw S.2.1 S.2.2.1 tick m S.1).1
      · rw [if_pos c3]
        rcases zlw_cop (ends := S.2.1) (cop := S.2.2.1) (tick := tick) (m := m) S.1 with e | ⟨e1, e2, e3, e4⟩
        · have := c3.2.1; rw [e] at this; exact absurd this (Nat.lt_irrefl m)
        · obtain ⟨-, -, c4⟩ := c3
          generalize (zlw S.2.1 S.2.2.1 tick m S.1).1 = p at *
          have hwp := hwk p
          generalize tick + work p * slow k = e at *
          have x0 : (zpc bg o tick e k p S).2.1 = zun S.2.1 p e := rfl
          refine ⟨zIv_pc h em e2 e1, ?_, Nat.le_refl _, fun q hq hq2 => ?_, fun q hq hq2 => absurd hq2 (by show ¬ q < S.1; omega), fun w => absurd w c2, fun j hj => ?_, ?_⟩
          · show zec (zun S.2.1 p e) tick S.1 = _
            refine zec_ext _ fun q hq => ?_
            by_cases y : q = p
            · subst y; rw [zun_s]; omega
            · rw [zun_n y]
          · rw [x0]
            by_cases y : q = p
            · subst y; rw [zun_s]; exact hwp
            · rw [zun_n y]; exact hq2
          · show tick < zun (zun S.2.2.2.1 k e) _ e j
            by_cases y : j = zwk S.2.2.2.2 (bg + p)
            · rw [y, zun_s]; exact hwp
            · rw [zun_n y]
              by_cases z : j = k
              · rw [z, zun_s]; exact hwp
              · rw [zun_n z]; exact hj
          · show zcn S.2.2.1 8 + 1 ≤ zcn (zor S.2.2.1 p) 8 + _
            rw [zcn_or e1]
            by_cases y : m ≤ 8
            · rw [if_pos y, if_pos (by omega)]; omega
            · rw [if_neg y]; omega
      · rw [if_neg c3]
        exact ⟨h, rfl, Nat.le_refl _, fun _ _ w => w, fun p a b => absurd b (by show ¬ p < S.1; omega), fun w => absurd w c2, fun _ w => w, Nat.le_add_right _ _⟩
  · rw [if_neg c1]
    exact ⟨h, rfl, Nat.le_refl _, fun _ _ w => w, fun p a b => absurd b (by show ¬ p < S.1; omega), fun _ => by show tick < S.2.2.2.1 k; omega, fun _ w => w, Nat.le_add_right _ _⟩
/-- what a look leaves -/
theorem zlk_keep {work slow : Nat → Nat} {m o bg tick sz : Nat} {half : Bool} {S : zSS} (h : zIv o m bg sz tick S) (hm : m ≤ 8) (hw : ∀ p, 1 ≤ work p) (hs : ∀ k, k < 4 → 1 ≤ slow k) : ∀ k, k ≤ 4 →
    zIv o m bg sz tick (zlk work slow m o bg tick half k S).1 ∧ zec (zlk work slow m o bg tick half k S).1.2.1 tick (zlk work slow m o bg tick half k S).1.1 = zec S.2.1 tick S.1 ∧ S.1 ≤ (zlk work slow m o bg tick half k S).1.1 ∧
    (∀ p, p < S.1 → tick < S.2.1 p → tick < (zlk work slow m o bg tick half k S).1.2.1 p) ∧ (∀ p, S.1 ≤ p → p < (zlk work slow m o bg tick half k S).1.1 → tick < (zlk work slow m o bg tick half k S).1.2.1 p) ∧
    ((zlk work slow m o bg tick half k S).1.1 < m → ∀ j, j < k → tick < (zlk work slow m o bg tick half k S).1.2.2.2.1 j) ∧
    zcn S.2.2.1 8 + (zlk work slow m o bg tick half k S).2.toNat ≤ zcn (zlk work slow m o bg tick half k S).1.2.2.1 8
  | 0, _ => ⟨h, rfl, Nat.le_refl _, fun _ _ w => w, fun p a b => absurd b (by show ¬ p < S.1; omega), fun _ j hj => absurd hj (Nat.not_lt_zero _), Nat.le_refl _⟩
  | k + 1, hk => by
    obtain ⟨g1, g2, g3, g4, g5, g6, g7⟩ := zlk_keep (half := half) h hm hw hs k (by omega)
    obtain ⟨p1, p2, p3, p4, p5, p6, p7, p8⟩ := zpw_keep (half := half) (k := k) g1 hw (hs k (by omega))
    rw [if_pos hm, Nat.add_zero] at p8
    simp only [zlk]
    refine ⟨p1, p2.trans g2, Nat.le_trans g3 p3, fun p a b => p4 p (by omega) (g4 p a b), fun p a b => ?_, fun w j hj => ?_, ?_⟩
    · by_cases c : p < (zlk work slow m o bg tick half k S).1.1
      · exact p4 p c (g5 p a c)
      · exact p5 p (by omega) b
    · by_cases e : j = k
      · subst e; exact p6 w
      · exact p7 j (g6 (by omega) j (by omega))
    · have key : ∀ a b : Bool, (a || b).toNat ≤ a.toNat + b.toNat := by decide
      have := key (zlk work slow m o bg tick half k S).2 (zpw work slow m o bg tick half k (zlk work slow m o bg tick half k S).1).2
      omega
theorem zlk_non {work slow : Nat → Nat} {m o bg tick sz : Nat} {half : Bool} {S : zSS} (h : ∀ k, k < sz → S.2.2.2.1 k ≤ tick → ¬ S.1 < m ∧ ¬ (half = true ∧ (zlw S.2.1 S.2.2.1 tick m S.1).1 < m ∧ tick + work (zlw S.2.1 S.2.2.1 tick m S.1).1 * slow k < S.2.1 (zlw S.2.1 S.2.2.1 tick m S.1).1)) : ∀ k, k ≤ sz → zlk work slow m o bg tick half k S = (S, false) ∧ zlt work slow m o bg tick half k S = false
  | 0, _ => ⟨rfl, rfl⟩
  | k + 1, hk => by
    obtain ⟨e1, e2⟩ := zlk_non h k (by omega)
    have e3 : zpw work slow m o bg tick half k S = (S, false) := by
      unfold zpw
      by_cases c1 : S.2.2.2.1 k ≤ tick
      · obtain ⟨q1, q2⟩ := h k (by omega) c1
        rw [if_pos c1, if_neg q1, if_neg q2]
      · rw [if_neg c1]
    have e4 : zlk work slow m o bg tick half (k + 1) S = ((zpw work slow m o bg tick half k (zlk work slow m o bg tick half k S).1).1, (zlk work slow m o bg tick half k S).2 || (zpw work slow m o bg tick half k (zlk work slow m o bg tick half k S).1).2) := rfl
    have e5 : zlt work slow m o bg tick half (k + 1) S = (zlt work slow m o bg tick half k S || (decide ((zlk work slow m o bg tick half k S).1.2.2.2.1 k ≤ tick ∧ (zlk work slow m o bg tick half k S).1.1 < m) || (zpw work slow m o bg tick half k (zlk work slow m o bg tick half k S).1).2)) := rfl
    rw [e1] at e4 e5
    simp only at e4 e5
    rw [e3] at e4 e5
    rw [e2] at e5
    refine ⟨e4, ?_⟩
    rw [e5, Bool.false_or, Bool.or_false]
    exact decide_eq_false fun w => (h k (by omega) w.1).1 w.2
section
variable {work slow : Nat → Nat} {m o bg tick sz : Nat} {S : zSS}
/-- while a stage goes on, something ends later -/
theorem zsim_go (h : zIv o m bg sz tick S) (hm : m ≤ 8) (h1 : 1 ≤ sz) (h4 : sz ≤ 4) (hw : ∀ p, 1 ≤ work p) (hs : ∀ k, k < 4 → 1 ≤ slow k) {half : Bool} (hz : zec S.2.1 tick S.1 < m) : ∃ p, p < (zlk work slow m o bg tick half sz S).1.1 ∧ tick < (zlk work slow m o bg tick half sz S).1.2.1 p := by
  obtain ⟨g1, g2, g3, g4, g5, g6, -⟩ := zlk_keep (half := half) h hm hw hs sz h4
  by_cases c : ∃ p, p < (zlk work slow m o bg tick half sz S).1.1 ∧ tick < (zlk work slow m o bg tick half sz S).1.2.1 p
  · exact c
  · have all : ∀ p, p < (zlk work slow m o bg tick half sz S).1.1 → (zlk work slow m o bg tick half sz S).1.2.1 p ≤ tick := fun p hp => Nat.not_lt.mp fun w => c ⟨p, hp, w⟩
    have e := (zec_full _).mpr all
    have hlt : (zlk work slow m o bg tick half sz S).1.1 < m := by omega
    have hi := g6 hlt 0 (by omega)
    rcases g1.2.2.2.2.1 0 (by omega) with w | ⟨p, p1, p2, -⟩
    · omega
    · exact ⟨p, p1, by omega⟩
/-- where a stage has ended, nothing is taken -/
theorem zsim_end (h : zIv o m bg sz tick S) (h4 : sz ≤ 4) {half : Bool} (hz : zec S.2.1 tick S.1 = m) : zlk work slow m o bg tick half sz S = (S, false) ∧ zlt work slow m o bg tick half sz S = false ∧ S.1 = m ∧ ∀ p, p < m → S.2.1 p ≤ tick := by
  have hle := zec_le S.2.1 tick S.1
  have h1 := h.1
  have en : S.1 = m := by omega
  rw [en] at hz
  have all := (zec_full m).mp hz
  have no : ∀ k, ¬ (half = true ∧ (zlw S.2.1 S.2.2.1 tick m S.1).1 < m ∧ tick + work (zlw S.2.1 S.2.2.1 tick m S.1).1 * slow k < S.2.1 (zlw S.2.1 S.2.2.1 tick m S.1).1) := by
    intro k w
    rcases zlw_cop (ends := S.2.1) (cop := S.2.2.1) (tick := tick) (m := m) S.1 with e | ⟨-, e2, e3, e4⟩
    · have := w.2.1; rw [e] at this; exact absurd this (Nat.lt_irrefl m)
    · have := all _ (by rw [← en]; exact e2); omega
  obtain ⟨a, b⟩ := zlk_non (work := work) (slow := slow) (o := o) (bg := bg) (half := half) (S := S) (m := m) (tick := tick) (sz := sz) (fun k hk _ => ⟨by omega, no k⟩) sz (Nat.le_refl _)
  exact ⟨a, b, en, all⟩
end
theorem zpair_iff {α : Type} {P : α → α → Prop} {L : List α} : (∀ (i j : Nat) (a b : α), i < j → L[i]? = some a → L[j]? = some b → P a b) ↔ L.Pairwise P := by
  rw [List.pairwise_iff_getElem]
  constructor
  · intro h i j hi hj hij
    exact h i j _ _ hij (List.getElem?_eq_getElem hi) (List.getElem?_eq_getElem hj)
  · intro h i j a b hij ha hb
    obtain ⟨h1, rfl⟩ := List.getElem?_eq_some_iff.mp ha
    obtain ⟨h2, rfl⟩ := List.getElem?_eq_some_iff.mp hb
    exact h i j h1 h2 hij
theorem zall_iff {α : Type} {P : α → Prop} {L : List α} : (∀ (i : Nat) (q : α), L[i]? = some q → P q) ↔ ∀ q ∈ L, P q := by
  constructor
  · intro h q hq
    obtain ⟨i, hi⟩ := List.getElem?_of_mem hq
    exact h i q hi
  · intro h i q hq
    exact h q (List.mem_of_getElem? hq)
theorem zLok_iff {L : zNS} : zLok L ↔ (∀ q ∈ L, q.1 < 14 ∧ q.2 ≤ 300) ∧ L.Pairwise (fun a b => a.1 ≠ b.1) ∧ L.length ≤ 14 := by
  unfold zLok
  rw [zall_iff, ← zpair_iff]
  constructor
  · rintro ⟨h1, h2, h3⟩
    exact ⟨h1, fun i j a b hij ha hb e => by have := h2 i j a b ha hb e; omega, h3⟩
  · rintro ⟨h1, h2, h3⟩
    refine ⟨h1, fun i j a b ha hb e => ?_, h3⟩
    rcases Nat.lt_trichotomy i j with w | w | w
    · exact absurd e (h2 i j a b w ha hb)
    · exact w
    · exact absurd e.symm (h2 j i b a w hb ha)
theorem zlat_mem {L : zNS} {k : Nat} {q : Nat × Nat} : q ∈ zlat L k ↔ q ∈ L := by
  unfold zlat
  rw [List.mem_append, List.mem_filter, List.mem_filter]
  by_cases e : q.1 = k
  · simp [e]
  · simp [e]
theorem zcd_m {L : zNS} {j : Nat} : zcd L j = true ↔ ∃ q ∈ L, q.1 = j := by
  unfold zcd
  rw [List.any_eq_true]
  simp only [decide_eq_true_eq]
theorem zlat_cd {L : zNS} {k : Nat} : zcd (zlat L k) = zcd L := by
  funext j
  rw [Bool.eq_iff_iff, zcd_m, zcd_m]
  simp only [zlat_mem]
theorem zlat_len {L : zNS} {k : Nat} : (zlat L k).length = L.length := by
  unfold zlat
  rw [List.length_append]
  induction L with
  | nil => rfl
  | cons q t ih =>
    by_cases e : q.1 = k
    · simp [e] at ih ⊢; omega
    · simp [e] at ih ⊢; omega
theorem zlat_pw {P : Nat × Nat → Nat × Nat → Prop} {L : zNS} {k : Nat} (h : L.Pairwise P) (hn : L.Pairwise fun a b => a.1 ≠ b.1) (hk : ∀ a b, a ∈ L → b ∈ L → a.1 ≠ k → b.1 = k → P a b) : (zlat L k).Pairwise P := by
  unfold zlat
  rw [List.pairwise_append]
  refine ⟨h.filter _, ?_, fun a ha b hb => ?_⟩
  · refine List.Pairwise.imp_of_mem (fun {a b} ha hb w => ?_) (hn.filter _)
    exact absurd ((of_decide_eq_true (List.mem_filter.mp ha).2).trans (of_decide_eq_true (List.mem_filter.mp hb).2).symm) w
  · have x := List.mem_filter.mp ha
    have y := List.mem_filter.mp hb
    exact hk a b x.1 y.1 (of_decide_eq_true x.2) (of_decide_eq_true y.2)
theorem zLok_lat {L : zNS} {k : Nat} (h : zLok L) : zLok (zlat L k) := by
  rw [zLok_iff] at *
  refine ⟨fun q hq => h.1 q (zlat_mem.mp hq), zlat_pw h.2.1 h.2.1 fun a b _ _ ha hb e => ha (e.trans hb), by rw [zlat_len]; exact h.2.2⟩
theorem zmkr_mem {r s : Nat} {L : zNS} {q : Nat × Nat} (h : q ∈ zmkr r s L) : q ∈ L := by
  obtain ⟨n, -, e⟩ := zmkr_drop r s L
  rw [e] at h
  exact List.mem_of_mem_drop h
theorem zLok_mkr {r s : Nat} {L : zNS} (h : zLok L) : zLok (zmkr r s L) := by
  obtain ⟨n, hn, e⟩ := zmkr_drop r s L
  rw [zLok_iff] at *
  refine ⟨fun q hq => h.1 q (zmkr_mem hq), ?_, ?_⟩
  · rw [e]; exact h.2.1.sublist (List.drop_sublist _ _)
  · rw [e, List.length_drop]; omega
theorem zLok_ent {r k s : Nat} {L : zNS} (h : zLok L) (hk : k < 14) (hs : s ≤ 300) (hn : zcd L k = false) : zLok (zent r k s L) := by
  unfold zent
  by_cases c : s ≤ r
  · rw [if_pos c]
    have hm : ¬ zmem (zmkr r s L) k := zmkr_nmem fun w => by rw [zcd_iff.mpr w] at hn; exact nomatch hn
    exact zLok_snoc (zLok_mkr h) hk hs hm (zLok_room (zLok_mkr h) hk hm)
  · rw [if_neg c]; exact h
theorem zent_mem {r k s : Nat} {L : zNS} {q : Nat × Nat} (h : q ∈ zent r k s L) : q ∈ L ∨ q = (k, s) := by
  unfold zent at h
  by_cases c : s ≤ r
  · rw [if_pos c] at h
    rcases List.mem_append.mp h with w | w
    · exact Or.inl (zmkr_mem w)
    · exact Or.inr (List.mem_singleton.mp w)
  · rw [if_neg c] at h; exact Or.inl h
theorem zren1_skip {U : Nat → Bool} {L : zNS} {n : Nat} (h : ∀ m, n ≤ m → U m = false) : ∀ d, zren1 U L (n + d) = zren1 U L n
  | 0 => rfl
  | d + 1 => by
    rw [← Nat.add_assoc, zren1, if_neg (by rw [h (n + d) (by omega)]; decide)]
    exact zren1_skip h d
theorem zren2_skip {lim : Nat} {nt : zNT} {W : Nat → Bool} {r : Nat} {L : zNS} {n : Nat} (h : ∀ m, n ≤ m → W m = false) : ∀ d, zren2 lim nt W r L (n + d) = zren2 lim nt W r L n
  | 0 => rfl
  | d + 1 => by
    rw [← Nat.add_assoc, zren2, if_neg (by rw [h (n + d) (by omega)]; exact fun w => nomatch w.1)]
    exact zren2_skip h d
def zAll (B : Nat) (A : List zAE) : Prop := ∀ a ∈ A, a.1 < B
theorem zAll_app {B : Nat} {A : List zAE} {x : zAE} (h : zAll B A) (hx : x.1 < B) : zAll B (A ++ [x]) := fun a ha => by
  rcases List.mem_append.mp ha with w | w
  · exact h a w
  · rw [List.mem_singleton.mp w]; exact hx
theorem zAll_se {B : Nat} {A : List zAE} {j e : Nat} (h : zAll B A) : zAll B (zse A j e) := fun a ha => by
  obtain ⟨i, hi⟩ := List.getElem?_of_mem ha
  rw [zse, List.getElem?_modify] at hi
  cases hb : A[i]? with
  | none => rw [hb] at hi; exact nomatch hi
  | some b =>
    rw [hb] at hi
    have ea : (if j = i then (b.1, b.2.1, b.2.2.1, b.2.2.2.1, e, b.2.2.2.2.2) else b) = a := Option.some.inj hi
    have := h b (List.mem_of_getElem? hb)
    by_cases q : j = i
    · rw [if_pos q] at ea; subst ea; exact this
    · rw [if_neg q] at ea; subst ea; exact this
section
variable {work slow : Nat → Nat} {m o bg tick sz B : Nat} {half : Bool}
theorem zpw_all {k : Nat} {S : zSS} (h : zAll B S.2.2.2.2) (ho : o < B) : zAll B (zpw work slow m o bg tick half k S).1.2.2.2.2 := by
  unfold zpw
  split
  · split
    · exact zAll_app h ho
    · split
      · exact zAll_se (zAll_app h ho)
      · exact h
  · exact h
theorem zlk_all {S : zSS} (h : zAll B S.2.2.2.2) (ho : o < B) : ∀ k, zAll B (zlk work slow m o bg tick half k S).1.2.2.2.2
  | 0 => h
  | k + 1 => zpw_all (zlk_all h ho k) ho
theorem zwo_all (ho : o < B) : ∀ (d tick : Nat) (S : zSS), zAll B S.2.2.2.2 → zAll B (zwo work slow m o bg sz d tick S).2.2.2.2.2
  | 0, _, _, h => h
  | d + 1, tick, S, h => by
    rw [zwo]
    split
    · exact zwo_all ho d _ _ (zlk_all h ho sz)
    · exact h
end
theorem zrs_all {lim : Nat} {nt : zNT} {C : Nat → Bool} {mem : Nat} {slow : Nat → Nat} {wk k : Nat} {p : Nat × List zAE × Nat} (h : zAll k p.2.1) : zAll (k + 1) (zrs lim nt C mem slow wk k p).2.1 := zwo_all (Nat.lt_succ_self k) _ _ _ fun a ha => Nat.lt_succ_of_lt (h a ha)
theorem zrn_all {lim : Nat} {nt : zNT} {C : Nat → Bool} {mem : Nat} {slow : Nat → Nat} {wk : Nat} {O : Nat → Bool} : ∀ k, zAll k (zrn lim nt C mem slow wk O k).2.1
  | 0 => fun a ha => nomatch ha
  | k + 1 => by
    rw [zrn]
    split
    · exact zrs_all (zrn_all k)
    · exact fun a ha => Nat.lt_succ_of_lt (zrn_all k a ha)
theorem zrn_skip {lim : Nat} {nt : zNT} {C : Nat → Bool} {mem : Nat} {slow : Nat → Nat} {wk : Nat} {O : Nat → Bool} {n : Nat} (h : ∀ m, n ≤ m → O m = false) : ∀ d, zrn lim nt C mem slow wk O (n + d) = zrn lim nt C mem slow wk O n
  | 0 => rfl
  | d + 1 => by
    rw [← Nat.add_assoc, zrn, if_neg (by rw [h (n + d) (by omega)]; decide)]
    exact zrn_skip h d
set_option maxRecDepth 100000 in
theorem zrn_le {lim : Nat} {nt : zNT} {C : Nat → Bool} {mem : Nat} {slow : Nat → Nat} {wk : Nat} {O : Nat → Bool} (hw : zWf nt) (hl : nt.length ≤ 14) (hs : ∀ k, k < 4 → slow k ≤ 9) (hwk : wk ≤ 4) (hO : ∀ k, O k = true → k < nt.length) : ∀ k, (zrn lim nt C mem slow wk O k).1 ≤ k * 2000000 ∧ (zrn lim nt C mem slow wk O k).2.1.length ≤ 16 * k
  | 0 => ⟨Nat.le_refl _, Nat.le_refl _⟩
  | k + 1 => by
    obtain ⟨a, b⟩ := zrn_le (lim := lim) (C := C) (mem := mem) hw hl hs hwk hO k
    rw [zrn]
    by_cases c : O k = true
    · rw [if_pos c]
      obtain ⟨x, y⟩ := zrs_ok (lim := lim) (C := C) (mem := mem) (p := zrn lim nt C mem slow wk O k) hw hl (hO k c) hs hwk
      exact ⟨by omega, by omega⟩
    · rw [if_neg c]
      exact ⟨Nat.le_trans a (Nat.mul_le_mul_right _ (Nat.le_succ k)), Nat.le_trans b (Nat.mul_le_mul_left _ (Nat.le_succ k))⟩
noncomputable def zshF (A : List zAE) (tk cs : Nat) : UInt32 := if tk = 0 then FP.fconst0 else FP.fdiv (FP.i2f (zts A)) (FP.i2f (nI (tk * cs)))
