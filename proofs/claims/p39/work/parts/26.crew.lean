/-! Crew -/
def zCC2 (w l n : Nat) : va_E := .inr (2, [.ref l, .ref (w + 1), .ref (w + 3), .int (nI n)])
def zCr (G : zG) (σ : zH) (w l : Nat) (slow idle : Nat → Nat) (n : Nat) : Prop := ∃ sf jf : Nat → Int32, σ w = some (zCC2 w l n) ∧ zInts G σ (w + 1) 4 sf ∧ zInts G σ (w + 3) 4 jf ∧ ∀ k, k < 4 → sf k = nI (slow k) ∧ jf k = nI (idle k)
theorem zCr.fr {G : zG} {σ σ' : zH} {w l n : Nat} {slow idle : Nat → Nat} (h : zCr G σ w l slow idle n) (hf : ∀ b, w ≤ b → b < w + 5 → σ' b = σ b) : zCr G σ' w l slow idle n := by
  obtain ⟨sf, jf, h1, h2, h3, h4⟩ := h
  exact ⟨sf, jf, (hf w (by omega) (by omega)).trans h1, h2.fr fun b a d => hf b (by omega) (by omega), h3.fr fun b a d => hf b (by omega) (by omega), h4⟩
theorem zCr.c {G : zG} {σ : zH} {w l n : Nat} {slow idle : Nat → Nat} (h : zCr G σ w l slow idle n) : σ w = some (zCC2 w l n) := by obtain ⟨sf, jf, h1, _⟩ := h; exact h1
abbrev zSS : Type := Nat × (Nat → Nat) × (Nat → Bool) × (Nat → Nat) × List zAE
def zSch (G : zG) (σ : zH) (s o m bg : Nat) (work slow : Nat → Nat) (sz tt sp cs : Nat) (S : zSS) : Prop := zSt G σ s o m S.1 bg work S.2.1 S.2.2.1 ∧ zLg G σ (s + 7) S.2.2.2.2 tt sp cs ∧ zCr G σ (s + 20) (s + 7) slow S.2.2.2.1 sz
def zpt (work slow : Nat → Nat) (o tick k : Nat) (S : zSS) : zSS := (S.1 + 1, zun S.2.1 S.1 (tick + work S.1 * slow k), S.2.2.1, zun S.2.2.2.1 k (tick + work S.1 * slow k), S.2.2.2.2 ++ [(o, S.1, k, tick, tick + work S.1 * slow k, false)])
theorem zCr.set {G : zG} {σ' : zH} {w l n k x : Nat} {slow idle : Nat → Nat} {sf jf : Nat → Int32} (h1 : σ' w = some (zCC2 w l n)) (h2 : zInts G σ' (w + 1) 4 sf) (h3 : zInts G σ' (w + 3) 4 (upd jf k (nI x))) (h4 : ∀ k, k < 4 → sf k = nI (slow k) ∧ jf k = nI (idle k)) : zCr G σ' w l slow (zun idle k x) n :=
  ⟨sf, _, h1, h2, h3, fun i hi => ⟨(h4 i hi).1, by by_cases e : i = k; · { subst e; rw [pk_us, zun_s] }; · { rw [pk_un e, zun_n e]; exact (h4 i hi).2 }⟩⟩
set_option maxRecDepth 100000 in
theorem c_X1_takeNext {G : zG} {σ : zH} {nx s o m bg k tick sz tt sp cs : Nat} {work slow : Nat → Nat} {S : zSS} (h : zSch G σ s o m bg work slow sz tt sp cs S) (hk : k < 4) (ht : S.1 < m) (hA : S.2.2.2.2.length = bg + S.1) (hl : S.2.2.2.2.length < 224) :
    zM G yX1_takeNext kX1_takeNext [.ref (s + 20), .ref s, .int (nI k), .int (nI tick)] σ nx (fun v σ' nx' => v = none ∧ zSch G σ' s o m bg work slow sz tt sp cs (zpt work slow o tick k S) ∧ zFr σ σ' s 25 ∧ nx' = nx) := by
  refine zM.of (ls := [some (.ref (s + 20)), some (.ref s), some (.int (nI k)), some (.int (nI tick)), none, none]) (by decide +kernel) ⟨rfl, rfl, rfl⟩ (Nat.le_of_ble_eq_true rfl) (fun _ h => h) ?_
  obtain ⟨hs, hg, hc⟩ := h
  obtain ⟨wf, ef, af, cw, s1, s2, s3, s4, s5, s6, s7, s8, s9, s10⟩ := id hs
  obtain ⟨sf, jf, c1, c2, c3, c4⟩ := id hc
  obtain ⟨n, ends, cop, idle, A⟩ := S
  simp only at *
  refine z_aload_n dX1_takeNext_0 rfl ?_
  refine z_getf dX1_takeNext_1 fl_X1_54 s1 rfl ?_
  refine z_istore dX1_takeNext_4 (by decide) ?_
  refine z_iload_n dX1_takeNext_6 rfl ?_
  refine z_aload_n dX1_takeNext_7 rfl ?_
  refine z_getf dX1_takeNext_8 fl_X1_65 s1 rfl ?_
  refine z_iload dX1_takeNext_11 rfl ?_
  refine z_callV dX1_takeNext_13 cv_X1_51 (c_X4_at s2 (by omega)) rfl s2.1 rfl rfl ⟨(Nat.le_of_ble_eq_true rfl), (Nat.le_of_ble_eq_true rfl)⟩ (Nat.le_of_ble_eq_true rfl) (Nat.le_of_ble_eq_true rfl) (Nat.le_of_ble_eq_true rfl) (fun v σ1 nx1 hx1 hq1 => ?_)
  obtain ⟨rfl, rfl, rfl⟩ := hq1
  refine z_aload_n dX1_takeNext_16 rfl ?_
  refine z_getf dX1_takeNext_17 fl_X1_14 c1 rfl ?_
  refine z_iload_n dX1_takeNext_20 rfl ?_
  refine z_callV dX1_takeNext_21 cv_X1_51 (c_X4_at c2 (by omega)) rfl c2.1 rfl rfl ⟨(Nat.le_of_ble_eq_true rfl), (Nat.le_of_ble_eq_true rfl)⟩ (Nat.le_of_ble_eq_true rfl) (Nat.le_of_ble_eq_true rfl) (Nat.le_of_ble_eq_true rfl) (fun v σ1 nx1 hx1 hq1 => ?_)
  obtain ⟨rfl, rfl, rfl⟩ := hq1
  rw [zrd_nI (by omega) (by omega), zrd_nI (by omega) (by omega), s5 n ht, (c4 k hk).1]
  refine z_imul dX1_takeNext_24 ?_
  rw [pk_mul]
  refine z_iadd dX1_takeNext_25 ?_
  rw [nI_add]
  obtain ⟨e, he⟩ : ∃ z, z = tick + work n * slow k := ⟨_, rfl⟩
  have ez : zpt work slow o tick k (n, ends, cop, idle, A) = (n + 1, zun ends n e, cop, zun idle k e, A ++ [(o, n, k, tick, e, false)]) := by rw [he]; rfl
  rw [← he, ez]
  refine z_istore dX1_takeNext_26 (by decide) ?_
  refine z_aload_n dX1_takeNext_28 rfl ?_
  refine z_aload_n dX1_takeNext_29 rfl ?_
  refine z_getf dX1_takeNext_30 fl_X1_27 c1 rfl ?_
  refine z_aload_n dX1_takeNext_33 rfl ?_
  refine z_getf dX1_takeNext_34 fl_X1_68 s1 rfl ?_
  refine z_iload dX1_takeNext_37 rfl ?_
  refine z_iload_n dX1_takeNext_39 rfl ?_
  refine z_iload_n dX1_takeNext_40 rfl ?_
  refine z_iload dX1_takeNext_41 rfl ?_
  refine z_iconst (v := 0) dX1_takeNext_43 (by decide) ?_
  refine z_callV dX1_takeNext_44 cv_X1_71 (c_X6_add (cp := false) hg hl) rfl hg.c rfl rfl ⟨(Nat.le_of_ble_eq_true rfl), (Nat.le_of_ble_eq_true rfl)⟩ (Nat.le_of_ble_eq_true rfl) (Nat.le_of_ble_eq_true rfl) (Nat.le_of_ble_eq_true rfl) (fun v σ2 nx2 hx2 hq2 => ?_)
  obtain ⟨rfl, g1, k1, rfl⟩ := hq2
  rw [hA]
  have t1 := hs.fr (σ' := σ2) fun b a d => k1 b (by omega)
  obtain ⟨cw2, t2, -⟩ := t1.c
  refine z_iload dX1_takeNext_47 rfl ?_
  refine z_callV dX1_takeNext_49 cv_X1_77 (c_X10_take t1 ht) rfl t2 rfl rfl ⟨(Nat.le_of_ble_eq_true rfl), (Nat.le_of_ble_eq_true rfl)⟩ (Nat.le_of_ble_eq_true rfl) (Nat.le_of_ble_eq_true rfl) (Nat.le_of_ble_eq_true rfl) (fun v σ3 nx3 hx3 hq3 => ?_)
  obtain ⟨rfl, g2, k2, rfl⟩ := hq3
  have d1 : σ3 (s + 20) = some (zCC2 (s + 20) (s + 7) sz) := ((k2 _ (by omega)).trans (k1 _ (by omega))).trans c1
  have d2 := c2.fr (σ' := σ3) fun b a d => (k2 b (by omega)).trans (k1 b (by omega))
  have d3 := c3.fr (σ' := σ3) fun b a d => (k2 b (by omega)).trans (k1 b (by omega))
  refine z_aload_n dX1_takeNext_52 rfl ?_
  refine z_getf dX1_takeNext_53 fl_X1_20 d1 rfl ?_
  refine z_iload_n dX1_takeNext_56 rfl ?_
  refine z_iload dX1_takeNext_57 rfl ?_
  refine z_callV dX1_takeNext_59 cv_X1_31 (c_X4_set d3 (by omega)) rfl d3.1 rfl rfl ⟨(Nat.le_of_ble_eq_true rfl), (Nat.le_of_ble_eq_true rfl)⟩ (Nat.le_of_ble_eq_true rfl) (Nat.le_of_ble_eq_true rfl) (Nat.le_of_ble_eq_true rfl) (fun v σ4 nx4 hx4 hq4 => ?_)
  obtain ⟨rfl, g3, k3, rfl⟩ := hq4
  rw [zwr_nI (by omega) (by omega)] at g3
  exact z_vret dX1_takeNext_62 rfl (Nat.le_of_ble_eq_true rfl) (Nat.le_of_ble_eq_true rfl) ⟨rfl, ⟨g2.fr fun b a d => k3 b (by omega), g1.fr fun b a d => (k3 b (by omega)).trans (k2 b (by omega)), zCr.set ((k3 _ (by omega)).trans d1) (d2.fr fun b a d => k3 b (by omega)) g3 c4⟩, fun b hb => (k3 b (by omega)).trans ((k2 b (by omega)).trans (k1 b (by omega))), rfl⟩
theorem zlw_cop {ends : Nat → Nat} {cop : Nat → Bool} {tick m : Nat} : ∀ n, zlw ends cop tick m n = (m, tick) ∨ (cop (zlw ends cop tick m n).1 = false ∧ (zlw ends cop tick m n).1 < n ∧ (zlw ends cop tick m n).2 = ends (zlw ends cop tick m n).1 ∧ tick < (zlw ends cop tick m n).2)
  | 0 => Or.inl rfl
  | n + 1 => by
    have ih := zlw_cop (ends := ends) (cop := cop) (tick := tick) (m := m) n
    rw [zlw]
    by_cases c : cop n = false ∧ (zlw ends cop tick m n).2 < ends n
    · rw [if_pos c]
      refine Or.inr ⟨c.1, Nat.lt_succ_self n, rfl, ?_⟩
      show tick < ends n
      rcases ih with e | ⟨-, -, -, e⟩
      · rw [e] at c; exact c.2
      · omega
    · rw [if_neg c]
      exact ih.imp id fun ⟨a, b, d, e⟩ => ⟨a, by omega, d, e⟩
def zse (A : List zAE) (j e : Nat) : List zAE := A.modify j fun a => (a.1, a.2.1, a.2.2.1, a.2.2.2.1, e, a.2.2.2.2.2)
def zwk (A : List zAE) (j : Nat) : Nat := (A.getD j (0, 0, 0, 0, 0, false)).2.2.1
def zpc (bg o tick e k p : Nat) (S : zSS) : zSS := (S.1, zun S.2.1 p e, zor S.2.2.1 p, zun (zun S.2.2.2.1 k e) (zwk S.2.2.2.2 (bg + p)) e, zse (S.2.2.2.2 ++ [(o, p, k, tick, e, true)]) (bg + p) e)
theorem zse_len (A : List zAE) (j e : Nat) : (zse A j e).length = A.length := by rw [zse, List.length_modify]
theorem zLg.ends {G : zG} {σ σ' : zH} {l t s c j e : Nat} {A : List zAE} {f : Nat → Nat → Int32} (h1 : σ' l = some (zLC l A.length t s c)) (h2 : zLa G σ l f) (h3 : ∀ (k : Nat) (a : zAE), A[k]? = some a → ∀ i, i < 6 → f i k = zAc a i) (h4 : A.length ≤ 224) (h5 : zInts G σ' (l + 9) 224 (upd (f 4) j (nI e))) (h6 : ∀ b, b ≠ l + 9 + 1 → σ' b = σ b) : zLg G σ' l (zse A j e) t s c := by
  refine ⟨_, by rw [zse_len]; exact h1, h2.set (i := 4) (by decide) h5 h6, fun k a q i hi => ?_, by rw [zse_len]; exact h4⟩
  rw [zse, List.getElem?_modify] at q
  have key : ∃ b, A[k]? = some b ∧ a = if j = k then (b.1, b.2.1, b.2.2.1, b.2.2.2.1, e, b.2.2.2.2.2) else b := by
    cases hb : A[k]? with
    | none => rw [hb] at q; exact nomatch q
    | some b => rw [hb] at q; exact ⟨b, rfl, (Option.some.inj q).symm⟩
  obtain ⟨b, hb, ea⟩ := key
  have := h3 k b hb i hi
  by_cases hjk : j = k
  · subst hjk
    rw [if_pos rfl] at ea
    subst ea
    by_cases i4 : i = 4
    · subst i4; simp only [if_true]; exact pk_us
    · simp only [if_neg i4]
      rw [this]
      rcases (show i = 0 ∨ i = 1 ∨ i = 2 ∨ i = 3 ∨ i = 5 by omega) with e | e | e | e | e <;> subst e <;> rfl
  · rw [if_neg hjk] at ea
    subst ea
    by_cases i4 : i = 4
    · subst i4; simp only [if_true]; rw [pk_un (Ne.symm hjk)]; exact this
    · simp only [if_neg i4]; exact this
theorem zse_wk {A : List zAE} {x : zAE} {j e : Nat} (h : j < A.length) : ∃ a, (zse (A ++ [x]) j e)[j]? = some a ∧ a.2.2.1 = zwk A j := by
  have hg : A[j]? = some (A[j]'h) := List.getElem?_eq_getElem _
  refine ⟨((A[j]'h).1, (A[j]'h).2.1, (A[j]'h).2.2.1, (A[j]'h).2.2.2.1, e, (A[j]'h).2.2.2.2.2), ?_, ?_⟩
  · rw [zse, List.getElem?_modify, List.getElem?_append_left h, hg]
    simp
  · rw [zwk, List.getD_eq_getElem?_getD, hg]
    rfl
set_option maxRecDepth 100000 in
set_option maxHeartbeats 1000000 in
theorem c_X1_takesCopy {G : zG} {σ : zH} {nx s o m bg k tick sz tt sp cs : Nat} {work slow : Nat → Nat} {S : zSS} (h : zSch G σ s o m bg work slow sz tt sp cs S) (hk : k < 4) (he : ∀ p, p < S.1 → S.2.1 p < 2 ^ 31) (ht : tick < 2 ^ 31) (hW : ∀ p k, p < m → k < 4 → tick + work p * slow k < 2 ^ 31)
    (hA : ∀ p, p < S.1 → bg + p < S.2.2.2.2.length ∧ zwk S.2.2.2.2 (bg + p) < 4) (hl : ∀ p, p < S.1 → S.2.2.1 p = false → S.2.2.2.2.length < 224) (hm : S.1 = m) :
    zM G yX1_takesCopy kX1_takesCopy [.ref (s + 20), .ref s, .int (nI k), .int (nI tick)] σ nx (fun v σ' nx' => (∃ b : Bool, v = some (.int (if b then 1 else 0)) ∧ (b = true ↔ (zlw S.2.1 S.2.2.1 tick m S.1).1 < m ∧ tick + work (zlw S.2.1 S.2.2.1 tick m S.1).1 * slow k < S.2.1 (zlw S.2.1 S.2.2.1 tick m S.1).1) ∧
      zSch G σ' s o m bg work slow sz tt sp cs (if b then zpc bg o tick (tick + work (zlw S.2.1 S.2.2.1 tick m S.1).1 * slow k) k (zlw S.2.1 S.2.2.1 tick m S.1).1 S else S)) ∧ zFr σ σ' s 25 ∧ nx' = nx) := by
  refine zM.of (ls := [some (.ref (s + 20)), some (.ref s), some (.int (nI k)), some (.int (nI tick)), none, none, none]) (by decide +kernel) ⟨rfl, rfl, rfl⟩ (Nat.le_of_ble_eq_true rfl) (fun _ h => h) ?_
  have h0 := h
  obtain ⟨hs, hg, hc⟩ := h
  obtain ⟨wf, ef, af, cw, s1, s2, s3, s4, s5, s6, s7, s8, s9, s10⟩ := id hs
  obtain ⟨sf, jf, c1, c2, c3, c4⟩ := id hc
  obtain ⟨n, ends, cop, idle, A⟩ := S
  simp only at *
  have hz := (zlw_lt (ends := ends) (cop := cop) (tick := tick) (m := m) ht n he).2
  obtain ⟨p, hp⟩ : ∃ z, z = (zlw ends cop tick m n).1 := ⟨_, rfl⟩
  have hz2 : p = m ∨ p < n := by rw [hp]; exact hz.imp (fun q => by rw [q]) id
  rw [← hp]
  refine z_aload_n dX1_takesCopy_0 rfl ?_
  refine z_iload_n dX1_takesCopy_1 rfl ?_
  refine z_callV dX1_takesCopy_2 cv_X1_80 (c_X10_latest hs he ht) rfl s1 rfl rfl ⟨(Nat.le_of_ble_eq_true rfl), (Nat.le_of_ble_eq_true rfl)⟩ (Nat.le_of_ble_eq_true rfl) (Nat.le_of_ble_eq_true rfl) (Nat.le_of_ble_eq_true rfl) (fun v σ1 nx1 hx1 hq1 => ?_)
  obtain ⟨rfl, rfl, rfl⟩ := hq1
  rw [← hp]
  refine z_istore dX1_takesCopy_5 (by decide) ?_
  refine z_iload dX1_takesCopy_7 rfl ?_
  refine z_aload_n dX1_takesCopy_9 rfl ?_
  refine z_getf dX1_takesCopy_10 fl_X1_41 s1 rfl ?_
  by_cases hpm : p < m
  · have hpn : p < n := by omega
    have hcp : cop p = false := by
      rcases zlw_cop (ends := ends) (cop := cop) (tick := tick) (m := m) n with q | ⟨q, -⟩
      · rw [hp, q] at hpm; exact absurd hpm (Nat.lt_irrefl m)
      · rw [hp]; exact q
    have hl2 := hl p hpn hcp
    refine z_icmp_lt (tgt := 18) dX1_takesCopy_13 (by decide) (fun _ => ?_) (fun q => absurd ((nI_lt hpm (by omega))) q)
    refine z_iload_n dX1_takesCopy_18 rfl ?_
    refine z_aload_n dX1_takesCopy_19 rfl ?_
    refine z_getf dX1_takesCopy_20 fl_X1_65 s1 rfl ?_
    refine z_iload dX1_takesCopy_23 rfl ?_
    refine z_callV dX1_takesCopy_25 cv_X1_51 (c_X4_at s2 (by omega)) rfl s2.1 rfl rfl ⟨(Nat.le_of_ble_eq_true rfl), (Nat.le_of_ble_eq_true rfl)⟩ (Nat.le_of_ble_eq_true rfl) (Nat.le_of_ble_eq_true rfl) (Nat.le_of_ble_eq_true rfl) (fun v σ2 nx2 hx2 hq2 => ?_)
    obtain ⟨rfl, rfl, rfl⟩ := hq2
    refine z_aload_n dX1_takesCopy_28 rfl ?_
    refine z_getf dX1_takesCopy_29 fl_X1_14 c1 rfl ?_
    refine z_iload_n dX1_takesCopy_32 rfl ?_
    refine z_callV dX1_takesCopy_33 cv_X1_51 (c_X4_at c2 (by omega)) rfl c2.1 rfl rfl ⟨(Nat.le_of_ble_eq_true rfl), (Nat.le_of_ble_eq_true rfl)⟩ (Nat.le_of_ble_eq_true rfl) (Nat.le_of_ble_eq_true rfl) (Nat.le_of_ble_eq_true rfl) (fun v σ2 nx2 hx2 hq2 => ?_)
    obtain ⟨rfl, rfl, rfl⟩ := hq2
    rw [zrd_nI (by omega) (by omega), zrd_nI (by omega) (by omega), s5 p hpm, (c4 k hk).1]
    refine z_imul dX1_takesCopy_36 ?_
    rw [pk_mul]
    refine z_iadd dX1_takesCopy_37 ?_
    have hw := hW p k hpm hk
    rw [nI_add]
    obtain ⟨e, hee⟩ : ∃ z, z = tick + work p * slow k := ⟨_, rfl⟩
    rw [← hee] at hw
    rw [← hee]
    refine z_istore dX1_takesCopy_38 (by decide) ?_
    refine z_iload dX1_takesCopy_40 rfl ?_
    refine z_aload_n dX1_takesCopy_42 rfl ?_
    refine z_getf dX1_takesCopy_43 fl_X1_83 s1 rfl ?_
    refine z_iload dX1_takesCopy_46 rfl ?_
    refine z_callV dX1_takesCopy_48 cv_X1_51 (c_X4_at s3 (by omega)) rfl s3.1 rfl rfl ⟨(Nat.le_of_ble_eq_true rfl), (Nat.le_of_ble_eq_true rfl)⟩ (Nat.le_of_ble_eq_true rfl) (Nat.le_of_ble_eq_true rfl) (Nat.le_of_ble_eq_true rfl) (fun v σ2 nx2 hx2 hq2 => ?_)
    obtain ⟨rfl, rfl, rfl⟩ := hq2
    rw [zrd_nI (by omega) (by omega), s6 p hpn]
    by_cases hlt : e < ends p
    · refine z_icmp_lt (tgt := 56) dX1_takesCopy_51 (by decide) (fun _ => ?_) (fun q => absurd ((nI_lt hlt (he p hpn))) q)
      refine z_aload_n dX1_takesCopy_56 rfl ?_
      refine z_getf dX1_takesCopy_57 fl_X1_86 s1 rfl ?_
      refine z_iload dX1_takesCopy_60 rfl ?_
      refine z_callV dX1_takesCopy_62 cv_X1_51 (c_X4_at s4 (by omega)) rfl s4.1 rfl rfl ⟨(Nat.le_of_ble_eq_true rfl), (Nat.le_of_ble_eq_true rfl)⟩ (Nat.le_of_ble_eq_true rfl) (Nat.le_of_ble_eq_true rfl) (Nat.le_of_ble_eq_true rfl) (fun v σ2 nx2 hx2 hq2 => ?_)
      obtain ⟨rfl, rfl, rfl⟩ := hq2
      rw [zrd_nI (by omega) (by omega), s7 p hpn]
      refine z_istore dX1_takesCopy_65 (by decide) ?_
      refine z_aload_n dX1_takesCopy_67 rfl ?_
      refine z_getf dX1_takesCopy_68 fl_X1_27 c1 rfl ?_
      refine z_aload_n dX1_takesCopy_71 rfl ?_
      refine z_getf dX1_takesCopy_72 fl_X1_68 s1 rfl ?_
      refine z_iload dX1_takesCopy_75 rfl ?_
      refine z_iload_n dX1_takesCopy_77 rfl ?_
      refine z_iload_n dX1_takesCopy_78 rfl ?_
      refine z_iload dX1_takesCopy_79 rfl ?_
      refine z_iconst (v := 1) dX1_takesCopy_81 (by decide) ?_
      refine z_callV dX1_takesCopy_82 cv_X1_71 (c_X6_add (cp := true) hg hl2) rfl hg.c rfl rfl ⟨(Nat.le_of_ble_eq_true rfl), (Nat.le_of_ble_eq_true rfl)⟩ (Nat.le_of_ble_eq_true rfl) (Nat.le_of_ble_eq_true rfl) (Nat.le_of_ble_eq_true rfl) (fun v σ3 nx3 hx3 hq3 => ?_)
      obtain ⟨rfl, g1, k1, rfl⟩ := hq3
      obtain ⟨ap1, ap2⟩ := hA p hpn
      obtain ⟨f, f1, f2, f3, f4⟩ := id g1
      have c1' := (k1 (s + 20) (by omega)).trans c1
      have f9 : zInts G σ3 (s + 7 + 9) 224 (f 4) := f2 4 (by decide)
      refine z_pop dX1_takesCopy_85 rfl ?_
      refine z_aload_n dX1_takesCopy_86 rfl ?_
      refine z_getf dX1_takesCopy_87 fl_X1_27 c1' rfl ?_
      refine z_getf dX1_takesCopy_90 fl_X1_89 f1 rfl ?_
      refine z_iload dX1_takesCopy_93 rfl ?_
      refine z_iload dX1_takesCopy_95 rfl ?_
      refine z_callV dX1_takesCopy_97 cv_X1_31 (c_X4_set f9 (by omega)) rfl f9.1 rfl rfl ⟨(Nat.le_of_ble_eq_true rfl), (Nat.le_of_ble_eq_true rfl)⟩ (Nat.le_of_ble_eq_true rfl) (Nat.le_of_ble_eq_true rfl) (Nat.le_of_ble_eq_true rfl) (fun v σ4 nx4 hx4 hq4 => ?_)
      obtain ⟨rfl, g2, k2, rfl⟩ := hq4
      rw [zwr_nI (by omega) (by omega)] at g2
      have lg4 := zLg.ends ((k2 (s + 7) (by omega)).trans f1) f2 f3 f4 g2 k2
      have st4 := hs.fr (σ' := σ4) fun b a d => (k2 b (by omega)).trans (k1 b (by omega))
      obtain ⟨cw4, t4, -⟩ := st4.c
      refine z_aload_n dX1_takesCopy_100 rfl ?_
      refine z_iload dX1_takesCopy_101 rfl ?_
      refine z_iload dX1_takesCopy_103 rfl ?_
      refine z_callV dX1_takesCopy_105 cv_X1_90 (c_X10_copy st4 hpn) rfl t4 rfl rfl ⟨(Nat.le_of_ble_eq_true rfl), (Nat.le_of_ble_eq_true rfl)⟩ (Nat.le_of_ble_eq_true rfl) (Nat.le_of_ble_eq_true rfl) (Nat.le_of_ble_eq_true rfl) (fun v σ5 nx5 hx5 hq5 => ?_)
      obtain ⟨rfl, st5, k3, rfl⟩ := hq5
      have lg5 := lg4.fr (σ' := σ5) fun b a d => k3 b (by omega)
      have hk35 : ∀ b, s + 20 ≤ b → σ5 b = σ2 b := fun b hb => (k3 b (by omega)).trans ((k2 b (by omega)).trans (k1 b (by omega)))
      have d1 := (hk35 (s + 20) (by omega)).trans c1
      have d2 := c2.fr (σ' := σ5) fun b a d => hk35 b (by omega)
      have d3 := c3.fr (σ' := σ5) fun b a d => hk35 b (by omega)
      refine z_aload_n dX1_takesCopy_108 rfl ?_
      refine z_getf dX1_takesCopy_109 fl_X1_20 d1 rfl ?_
      refine z_iload_n dX1_takesCopy_112 rfl ?_
      refine z_iload dX1_takesCopy_113 rfl ?_
      refine z_callV dX1_takesCopy_115 cv_X1_31 (c_X4_set d3 (by omega)) rfl d3.1 rfl rfl ⟨(Nat.le_of_ble_eq_true rfl), (Nat.le_of_ble_eq_true rfl)⟩ (Nat.le_of_ble_eq_true rfl) (Nat.le_of_ble_eq_true rfl) (Nat.le_of_ble_eq_true rfl) (fun v σ6 nx6 hx6 hq6 => ?_)
      obtain ⟨rfl, g3, k4, rfl⟩ := hq6
      rw [zwr_nI (by omega) (by omega)] at g3
      have cr6 : zCr G σ6 (s + 20) (s + 7) slow (zun idle k e) sz := zCr.set ((k4 _ (by omega)).trans d1) (d2.fr fun b a d => k4 b (by omega)) g3 c4
      have lg6 := lg5.fr (σ' := σ6) fun b a d => k4 b (by omega)
      obtain ⟨sf2, jf2, r1, r2, r3, r4⟩ := cr6
      obtain ⟨f', m1, m2, m3, m4⟩ := id lg6
      obtain ⟨a, ha, hwk⟩ := zse_wk (x := (o, p, k, tick, e, true)) (e := e) ap1
      have m5 : zInts G σ6 (s + 7 + 5) 224 (f' 2) := m2 2 (by decide)
      have m6 : f' 2 (bg + p) = nI (zwk A (bg + p)) := by rw [m3 _ a ha 2 (by decide), ← hwk]; rfl
      refine z_aload_n dX1_takesCopy_118 rfl ?_
      refine z_getf dX1_takesCopy_119 fl_X1_20 r1 rfl ?_
      refine z_aload_n dX1_takesCopy_122 rfl ?_
      refine z_getf dX1_takesCopy_123 fl_X1_27 r1 rfl ?_
      refine z_getf dX1_takesCopy_126 fl_X1_93 m1 rfl ?_
      refine z_iload dX1_takesCopy_129 rfl ?_
      refine z_callV dX1_takesCopy_131 cv_X1_51 (c_X4_at m5 (by omega)) rfl m5.1 rfl rfl ⟨(Nat.le_of_ble_eq_true rfl), (Nat.le_of_ble_eq_true rfl)⟩ (Nat.le_of_ble_eq_true rfl) (Nat.le_of_ble_eq_true rfl) (Nat.le_of_ble_eq_true rfl) (fun v σ7 nx7 hx7 hq7 => ?_)
      obtain ⟨rfl, rfl, rfl⟩ := hq7
      rw [zrd_nI (by omega) (by omega), m6]
      refine z_iload dX1_takesCopy_134 rfl ?_
      refine z_callV dX1_takesCopy_136 cv_X1_31 (c_X4_set r3 (by omega)) rfl r3.1 rfl rfl ⟨(Nat.le_of_ble_eq_true rfl), (Nat.le_of_ble_eq_true rfl)⟩ (Nat.le_of_ble_eq_true rfl) (Nat.le_of_ble_eq_true rfl) (Nat.le_of_ble_eq_true rfl) (fun v σ8 nx8 hx8 hq8 => ?_)
      obtain ⟨rfl, g4, k5, rfl⟩ := hq8
      rw [zwr_nI (by omega) (by omega)] at g4
      refine z_iconst (v := 1) dX1_takesCopy_139 (by decide) ?_
      exact z_zret dX1_takesCopy_140 rfl rfl (Nat.le_of_ble_eq_true rfl) (Nat.le_of_ble_eq_true rfl) ⟨⟨true, rfl, ⟨fun _ => ⟨hpm, hlt⟩, fun _ => rfl⟩, ⟨st5.fr fun b a d => (k5 b (by omega)).trans (k4 b (by omega)), lg6.fr fun b a d => k5 b (by omega), zCr.set ((k5 _ (by omega)).trans r1) (r2.fr fun b a d => k5 b (by omega)) g4 r4⟩⟩, fun b hb => (k5 b (by omega)).trans ((k4 b (by omega)).trans ((k3 b (by omega)).trans ((k2 b (by omega)).trans (k1 b (by omega))))), rfl⟩
    · refine z_icmp_lt (tgt := 56) dX1_takesCopy_51 (by decide) (fun q => absurd q ((nI_nlt (by omega) hw))) (fun _ => ?_)
      refine z_iconst (v := 0) dX1_takesCopy_54 (by decide) ?_
      exact z_zret dX1_takesCopy_55 rfl rfl (Nat.le_of_ble_eq_true rfl) (Nat.le_of_ble_eq_true rfl) ⟨⟨false, rfl, ⟨fun q => (nomatch q), fun q => absurd q.2 hlt⟩, h0⟩, fun _ _ => rfl, rfl⟩
  · refine z_icmp_lt (tgt := 18) dX1_takesCopy_13 (by decide) (fun q => absurd q ((nI_nlt (by omega) (by omega)))) (fun _ => ?_)
    refine z_iconst (v := 0) dX1_takesCopy_16 (by decide) ?_
    exact z_zret dX1_takesCopy_17 rfl rfl (Nat.le_of_ble_eq_true rfl) (Nat.le_of_ble_eq_true rfl) ⟨⟨false, rfl, ⟨fun q => (nomatch q), fun q => absurd q.1 hpm⟩, h0⟩, fun _ _ => rfl, rfl⟩
theorem zcn_le (s : Nat → Bool) : ∀ n, zcn s n ≤ n
  | 0 => Nat.le_refl _
  | n + 1 => by have := zcn_le s n; rw [zcn]; split <;> omega
theorem zcn_or {s : Nat → Bool} {p : Nat} (h : s p = false) : ∀ n, zcn (zor s p) n = zcn s n + (if p < n then 1 else 0)
  | 0 => by simp [zcn]
  | n + 1 => by
    rw [zcn, zcn, zcn_or h n, zor]
    by_cases e : n = p
    · subst e
      rw [h, if_neg (Nat.lt_irrefl n), if_pos (Nat.lt_succ_self n), if_pos (by simp), if_neg (by decide)]
    · rw [decide_eq_false e, Bool.or_false]
      by_cases q : p < n
      · rw [if_pos q, if_pos (show p < n + 1 by omega)]; omega
      · rw [if_neg q, if_neg (show ¬ p < n + 1 by omega)]; omega
def zpw (work slow : Nat → Nat) (m o bg tick : Nat) (half : Bool) (k : Nat) (S : zSS) : zSS × Bool :=
  if S.2.2.2.1 k ≤ tick then
    if S.1 < m then (zpt work slow o tick k S, false)
    else if half = true ∧ (zlw S.2.1 S.2.2.1 tick m S.1).1 < m ∧ tick + work (zlw S.2.1 S.2.2.1 tick m S.1).1 * slow k < S.2.1 (zlw S.2.1 S.2.2.1 tick m S.1).1 then (zpc bg o tick (tick + work (zlw S.2.1 S.2.2.1 tick m S.1).1 * slow k) k (zlw S.2.1 S.2.2.1 tick m S.1).1 S, true)
    else (S, false)
  else (S, false)
def zlk (work slow : Nat → Nat) (m o bg tick : Nat) (half : Bool) : Nat → zSS → zSS × Bool
  | 0, S => (S, false)
  | k + 1, S => ((zpw work slow m o bg tick half k (zlk work slow m o bg tick half k S).1).1, (zlk work slow m o bg tick half k S).2 || (zpw work slow m o bg tick half k (zlk work slow m o bg tick half k S).1).2)
def zhf (m tick : Nat) (S : zSS) : Bool := decide (m ≤ 2 * zec S.2.1 tick S.1)
def zwo (work slow : Nat → Nat) (m o bg sz : Nat) : Nat → Nat → zSS → Nat × zSS
  | 0, tick, S => (tick, S)
  | d + 1, tick, S => if zec S.2.1 tick S.1 < m then
      zwo work slow m o bg sz d (if (zlk work slow m o bg tick (zhf m tick S) sz S).2 then tick + 1 else zea (zlk work slow m o bg tick (zhf m tick S) sz S).1.2.1 tick (zlk work slow m o bg tick (zhf m tick S) sz S).1.1) (zlk work slow m o bg tick (zhf m tick S) sz S).1
    else (tick, S)
def zOK (m bg B : Nat) (S : zSS) : Prop := S.1 ≤ m ∧ (∀ p, p < S.1 → S.2.1 p < B) ∧ (∀ k, k < 4 → S.2.2.2.1 k < B) ∧ S.2.2.2.2.length = bg + S.1 + zcn S.2.2.1 8 ∧ (S.1 < m → zcn S.2.2.1 8 = 0) ∧ ∀ p, p < S.1 → zwk S.2.2.2.2 (bg + p) < 4
theorem zOK.up {m bg B B' : Nat} {S : zSS} (h : zOK m bg B S) (hb : B ≤ B') : zOK m bg B' S := ⟨h.1, fun p q => Nat.lt_of_lt_of_le (h.2.1 p q) hb, fun p q => Nat.lt_of_lt_of_le (h.2.2.1 p q) hb, h.2.2.2⟩
theorem zwk_app {A : List zAE} {x : zAE} {j : Nat} (h : j < A.length) : zwk (A ++ [x]) j = zwk A j := by rw [zwk, zwk, List.getD_eq_getElem?_getD, List.getD_eq_getElem?_getD, List.getElem?_append_left h]
theorem zwk_se {A : List zAE} {i j e : Nat} : zwk (zse A j e) i = zwk A i := by
  rw [zwk, zwk, zse, List.getD_eq_getElem?_getD, List.getD_eq_getElem?_getD, List.getElem?_modify]
  cases A[i]? with
  | none => rfl
  | some b => by_cases q : j = i; · { subst q; simp }; · { simp [q] }
theorem zpt_ok {work slow : Nat → Nat} {m o bg tick B k : Nat} {S : zSS} (h : zOK m bg B S) (hk : k < 4) (ht : S.1 < m) (hW : ∀ p k, p < m → k < 4 → tick + work p * slow k < B) : zOK m bg B (zpt work slow o tick k S) := by
  obtain ⟨h1, h2, h3, h4, h5, h6⟩ := h
  obtain ⟨n, ends, cop, idle, A⟩ := S
  simp only at *
  have hw := hW n k ht hk
  refine ⟨ht, fun p hp => ?_, fun i hi => ?_, ?_, fun q => h5 ht, fun p hp => ?_⟩
  · show zun ends n _ p < B
    by_cases e : p = n
    · subst e; rw [zun_s]; exact hw
    · rw [zun_n e]; exact h2 p (by simp only [zpt] at hp; omega)
  · show zun idle k _ i < B
    by_cases e : i = k
    · subst e; rw [zun_s]; exact hw
    · rw [zun_n e]; exact h3 i hi
  · show (A ++ [_]).length = _
    rw [List.length_append, h4]
    simp only [zpt, List.length_singleton]
    omega
  · show zwk (A ++ [_]) _ < 4
    have hA : A.length = bg + n := by rw [h4, h5 ht]; omega
    by_cases e : p = n
    · subst e
      rw [zwk, List.getD_eq_getElem?_getD, List.getElem?_append_right (by omega), show bg + p - A.length = 0 by omega]
      exact hk
    · have : p < n := by simp only [zpt] at hp; omega
      rw [zwk_app (by omega)]; exact h6 p this
theorem zpc_ok {work slow : Nat → Nat} {m o bg tick B k e p : Nat} {S : zSS} (h : zOK m bg B S) (hm : m ≤ 8) (hk : k < 4) (ht : ¬ S.1 < m) (he : e < B) (hp : p < S.1) (hc : S.2.2.1 p = false) : zOK m bg B (zpc bg o tick e k p S) := by
  obtain ⟨h1, h2, h3, h4, h5, h6⟩ := h
  obtain ⟨n, ends, cop, idle, A⟩ := S
  simp only at *
  refine ⟨h1, fun q hq => ?_, fun i hi => ?_, ?_, fun q => absurd q ht, fun q hq => ?_⟩
  · show zun ends p e q < B
    by_cases x : q = p
    · subst x; rw [zun_s]; exact he
    · rw [zun_n x]; exact h2 q hq
  · show zun (zun idle k e) _ e i < B
    by_cases x : i = zwk A (bg + p)
    · rw [x, zun_s]; exact he
    · rw [zun_n x]
      by_cases y : i = k
      · rw [y, zun_s]; exact he
      · rw [zun_n y]; exact h3 i hi
  · show (zse (A ++ [_]) _ _).length = bg + n + zcn (zor cop p) 8
    rw [zse_len, List.length_append, List.length_singleton, h4, zcn_or hc, if_pos (by omega)]
    omega
  · show zwk (zse (A ++ [_]) _ _) _ < 4
    rw [zwk_se, zwk_app (by have : q < n := hq; omega)]
    exact h6 q hq
theorem zpw_ok {work slow : Nat → Nat} {m o bg tick B k : Nat} {half : Bool} {S : zSS} (h : zOK m bg B S) (hm : m ≤ 8) (hk : k < 4) (hW : ∀ p k, p < m → k < 4 → tick + work p * slow k < B) : zOK m bg B (zpw work slow m o bg tick half k S).1 := by
  unfold zpw
  by_cases c1 : S.2.2.2.1 k ≤ tick
  · rw [if_pos c1]
    by_cases c2 : S.1 < m
    · rw [if_pos c2]; exact zpt_ok h hk c2 hW
    · rw [if_neg c2]
      by_cases c3 : half = true ∧ (zlw S.2.1 S.2.2.1 tick m S.1).1 < m ∧ tick + work (zlw S.2.1 S.2.2.1 tick m S.1).1 * slow k < S.2.1 (zlw S.2.1 S.2.2.1 tick m S.1).1
      · rw [if_pos c3]
        rcases zlw_cop (ends := S.2.1) (cop := S.2.2.1) (tick := tick) (m := m) S.1 with e | ⟨e1, e2, -, -⟩
        · have := c3.2.1; rw [e] at this; exact absurd this (Nat.lt_irrefl m)
        · exact zpc_ok (work := work) (slow := slow) h hm hk c2 (hW _ k c3.2.1 hk) e2 e1
      · rw [if_neg c3]; exact h
  · rw [if_neg c1]; exact h
theorem zlk_ok {work slow : Nat → Nat} {m o bg tick B : Nat} {half : Bool} {S : zSS} (h : zOK m bg B S) (hm : m ≤ 8) (hW : ∀ p k, p < m → k < 4 → tick + work p * slow k < B) : ∀ k, k ≤ 4 → zOK m bg B (zlk work slow m o bg tick half k S).1
  | 0, _ => h
  | k + 1, hk => zpw_ok (zlk_ok h hm hW k (by omega)) hm (by omega) hW
set_option maxRecDepth 100000 in
set_option maxHeartbeats 1000000 in
theorem c_X1_look {G : zG} {σ : zH} {nx s o m bg tick sz tt sp cs B : Nat} {work slow : Nat → Nat} {S : zSS} (h : zSch G σ s o m bg work slow sz tt sp cs S) (ok : zOK m bg B S) (hB : B ≤ 2 ^ 31) (ht : tick < B) (hW : ∀ p k, p < m → k < 4 → tick + work p * slow k < B) (hb : bg ≤ 208) (hsz : sz ≤ 4) :
    zM G yX1_look kX1_look [.ref (s + 20), .ref s, .int (nI tick)] σ nx (fun v σ' nx' => v = some (.int (if (zlk work slow m o bg tick (zhf m tick S) sz S).2 then 1 else 0)) ∧ zSch G σ' s o m bg work slow sz tt sp cs (zlk work slow m o bg tick (zhf m tick S) sz S).1 ∧ zFr σ σ' s 25 ∧ nx' = nx) := by
  refine zM.of2 (ls := [some (.ref (s + 20)), some (.ref s), some (.int (nI tick)), none, none, none]) (by decide +kernel) ⟨rfl, rfl, rfl⟩ (Nat.le_of_ble_eq_true rfl) (fun _ h => h) (fun Q hQ => ?_)
  obtain ⟨cw, s1, sm, m8⟩ := h.1.c
  obtain ⟨half, hh⟩ : ∃ z, z = zhf m tick S := ⟨_, rfl⟩
  rw [← hh] at hQ
  have loop : ∀ (d k : Nat) (σ1 : zH), k + d = sz → zFr σ σ1 s 25 → zSch G σ1 s o m bg work slow sz tt sp cs (zlk work slow m o bg tick half k S).1 →
      zWP G kX1_look (zFM G kX1_look.2.2.2.1 Q) 26 [some (.ref (s + 20)), some (.ref s), some (.int (nI tick)), some (.int (if (zlk work slow m o bg tick half k S).2 then 1 else 0)), some (.int (if half then 1 else 0)), some (.int (nI k))] [] σ1 nx 0 0 := by
    intro d
    induction d with
    | zero =>
      intro k σ1 hk f1 h1
      have ek : k = sz := by omega
      subst ek
      refine z_iload dX1_look_26 rfl ?_
      refine z_aload_n dX1_look_28 rfl ?_
      refine z_getf dX1_look_29 fl_X1_23 h1.2.2.c rfl ?_
      refine z_icmp_ge (tgt := 94) dX1_look_32 (by decide) (fun _ => ?_) (fun q => absurd (nI_le (Nat.le_refl _) (by omega)) q)
      refine z_iload_n dX1_look_94 rfl ?_
      have hbb : ((if (zlk work slow m o bg tick half k S).2 then 1 else 0 : Int32) = 0) ∨ ((if (zlk work slow m o bg tick half k S).2 then 1 else 0 : Int32) = 1) := by cases (zlk work slow m o bg tick half k S).2 <;> simp
      refine z_zret dX1_look_95 rfl ?_ (Nat.le_of_ble_eq_true rfl) (Nat.le_of_ble_eq_true rfl) (hQ _ _ _ ⟨rfl, h1, f1, rfl⟩)
      rcases hbb with q | q <;> rw [q] <;> rfl
    | succ d ih =>
      intro k σ1 hk f1 h1
      have ok1 := zlk_ok (half := half) (o := o) ok m8 hW k (by omega)
      have ok2 := zpw_ok (half := half) (o := o) (k := k) ok1 m8 (by omega) hW
      have nxt := ih (k + 1)
      rw [zlk] at nxt
      generalize zlk work slow m o bg tick half k S = r at h1 ok1 ok2 nxt ⊢
      obtain ⟨⟨n, ends, cop, idle, A⟩, cb⟩ := r
      obtain ⟨sf, jf, c1, c2, c3, c4⟩ := id h1.2.2
      obtain ⟨cw1, s2, -, -⟩ := h1.1.c
      obtain ⟨o1, o2, o3, o4, o5, o6⟩ := id ok1
      have hcn := zcn_le cop 8
      simp only at h1 ok1 ok2 nxt c4 s2 o1 o2 o3 o4 o5 o6 c1 ⊢
      have hid := o3 k (by omega)
      refine z_iload dX1_look_26 rfl ?_
      refine z_aload_n dX1_look_28 rfl ?_
      refine z_getf dX1_look_29 fl_X1_23 h1.2.2.c rfl ?_
      refine z_icmp_ge (tgt := 94) dX1_look_32 (by decide) (fun q => absurd q (nI_ge (show k < sz by omega) (by omega))) (fun _ => ?_)
      refine z_aload_n dX1_look_35 rfl ?_
      refine z_getf dX1_look_36 fl_X1_20 c1 rfl ?_
      refine z_iload dX1_look_39 rfl ?_
      refine z_callV dX1_look_41 cv_X1_51 (c_X4_at c3 (by omega)) rfl c3.1 rfl rfl ⟨(Nat.le_of_ble_eq_true rfl), (Nat.le_of_ble_eq_true rfl)⟩ (Nat.le_of_ble_eq_true rfl) (Nat.le_of_ble_eq_true rfl) (Nat.le_of_ble_eq_true rfl) (fun v σ2 nx2 hx2 hq2 => ?_)
      obtain ⟨rfl, rfl, rfl⟩ := hq2
      rw [zrd_nI (by omega) (by omega), (c4 k (by omega)).2]
      refine z_iload_n dX1_look_44 rfl ?_
      by_cases q1 : idle k ≤ tick
      · refine z_icmp_gt (tgt := 88) dX1_look_45 (by decide) (fun q => absurd q ((nI_nlt q1 (by omega)))) (fun _ => ?_)
        refine z_aload_n dX1_look_48 rfl ?_
        refine z_getf dX1_look_49 fl_X1_54 s2 rfl ?_
        refine z_aload_n dX1_look_52 rfl ?_
        refine z_getf dX1_look_53 fl_X1_41 s2 rfl ?_
        by_cases q2 : n < m
        · have e : zpw work slow m o bg tick half k (n, ends, cop, idle, A) = (zpt work slow o tick k (n, ends, cop, idle, A), false) := by rw [zpw, if_pos q1, if_pos q2]
          rw [e, Bool.or_false] at nxt
          have hA : A.length = bg + n := by have := o5 q2; omega
          refine z_icmp_ge (tgt := 70) dX1_look_56 (by decide) (fun q => absurd q (nI_ge q2 (by omega))) (fun _ => ?_)
          refine z_aload_n dX1_look_59 rfl ?_
          refine z_aload_n dX1_look_60 rfl ?_
          refine z_iload dX1_look_61 rfl ?_
          refine z_iload_n dX1_look_63 rfl ?_
          refine z_callV dX1_look_64 cv_X1_57 (c_X1_takeNext h1 (by omega) q2 hA (show A.length < 224 by omega)) rfl c1 rfl rfl ⟨(Nat.le_of_ble_eq_true rfl), (Nat.le_of_ble_eq_true rfl)⟩ (Nat.le_of_ble_eq_true rfl) (Nat.le_of_ble_eq_true rfl) (Nat.le_of_ble_eq_true rfl) (fun v σ3 nx3 hx3 hq3 => ?_)
          obtain ⟨rfl, g1, k1, rfl⟩ := hq3
          refine z_goto (tgt := 88) dX1_look_67 (by decide) ?_
          refine z_inc1 dX1_look_88 rfl (by decide) ?_
          refine z_goto (tgt := 26) dX1_look_91 (by decide) ?_
          rw [nI_1]
          exact nxt σ3 (by omega) (fun b hb => (k1 b hb).trans (f1 b hb)) g1
        · refine z_icmp_ge (tgt := 70) dX1_look_56 (by decide) (fun _ => ?_) (fun q => absurd (nI_le (by omega) (by omega)) q)
          refine z_iload dX1_look_70 rfl ?_
          cases half with
          | false =>
            have e : zpw work slow m o bg tick false k (n, ends, cop, idle, A) = ((n, ends, cop, idle, A), false) := by rw [zpw, if_pos q1, if_neg q2, if_neg (fun z => nomatch z.1)]
            rw [e, Bool.or_false] at nxt
            refine z_if_eq (tgt := 88) dX1_look_72 (by decide) (fun _ => ?_) (fun q => absurd (rfl) q)
            refine z_inc1 dX1_look_88 rfl (by decide) ?_
            refine z_goto (tgt := 26) dX1_look_91 (by decide) ?_
            rw [nI_1]
            exact nxt σ2 (by omega) f1 h1
          | true =>
            refine z_if_eq (tgt := 88) dX1_look_72 (by decide) (fun q => absurd q ((by decide))) (fun _ => ?_)
            refine z_aload_n dX1_look_75 rfl ?_
            refine z_aload_n dX1_look_76 rfl ?_
            refine z_iload dX1_look_77 rfl ?_
            refine z_iload_n dX1_look_79 rfl ?_
            refine z_callV dX1_look_80 cv_X1_61 (c_X1_takesCopy h1 (show k < 4 by omega) (fun p hp => Nat.lt_of_lt_of_le (o2 p hp) hB) (by omega) (fun p k hp hk => Nat.lt_of_lt_of_le (hW p k hp hk) hB) (fun p hp => ⟨show bg + p < A.length by have : p < n := hp; omega, o6 p hp⟩) (fun p hp hc => show A.length < 224 by have hc' : cop p = false := hc; have a1 := zcn_or hc' 8; have a2 := zcn_le (zor cop p) 8; have hp' : p < n := hp; rw [if_pos (show p < 8 by omega)] at a1; omega) (show n = m by omega)) rfl c1 rfl rfl ⟨(Nat.le_of_ble_eq_true rfl), (Nat.le_of_ble_eq_true rfl)⟩ (Nat.le_of_ble_eq_true rfl) (Nat.le_of_ble_eq_true rfl) (Nat.le_of_ble_eq_true rfl) (fun v σ3 nx3 hx3 hq3 => ?_)
            obtain ⟨⟨b, rfl, hb1, g1⟩, k1, rfl⟩ := hq3
            simp only at hb1 g1
            cases b with
            | true =>
              have e : zpw work slow m o bg tick true k (n, ends, cop, idle, A) = (zpc bg o tick (tick + work (zlw ends cop tick m n).1 * slow k) k (zlw ends cop tick m n).1 (n, ends, cop, idle, A), true) := by rw [zpw, if_pos q1, if_neg q2, if_pos ⟨rfl, hb1.mp rfl⟩]
              rw [e, Bool.or_true] at nxt
              refine z_if_eq (tgt := 88) dX1_look_83 (by decide) (fun q => absurd q ((by decide))) (fun _ => ?_)
              refine z_iconst (v := 1) dX1_look_86 (by decide) ?_
              refine z_istore_n dX1_look_87 (by decide) ?_
              refine z_inc1 dX1_look_88 rfl (by decide) ?_
              refine z_goto (tgt := 26) dX1_look_91 (by decide) ?_
              rw [nI_1]
              exact nxt σ3 (by omega) (fun b hb => (k1 b hb).trans (f1 b hb)) g1
            | false =>
              have e : zpw work slow m o bg tick true k (n, ends, cop, idle, A) = ((n, ends, cop, idle, A), false) := by rw [zpw, if_pos q1, if_neg q2, if_neg (fun z => nomatch hb1.mpr z.2)]
              rw [e, Bool.or_false] at nxt
              refine z_if_eq (tgt := 88) dX1_look_83 (by decide) (fun _ => ?_) (fun q => absurd (rfl) q)
              refine z_inc1 dX1_look_88 rfl (by decide) ?_
              refine z_goto (tgt := 26) dX1_look_91 (by decide) ?_
              rw [nI_1]
              exact nxt σ3 (by omega) (fun b hb => (k1 b hb).trans (f1 b hb)) g1
      · have e : zpw work slow m o bg tick half k (n, ends, cop, idle, A) = ((n, ends, cop, idle, A), false) := by rw [zpw, if_neg q1]
        rw [e, Bool.or_false] at nxt
        refine z_icmp_gt (tgt := 88) dX1_look_45 (by decide) (fun _ => ?_) (fun q => absurd ((nI_lt (by omega) (by omega))) q)
        refine z_inc1 dX1_look_88 rfl (by decide) ?_
        refine z_goto (tgt := 26) dX1_look_91 (by decide) ?_
        rw [nI_1]
        exact nxt σ2 (by omega) f1 h1
  have hec := zec_le S.2.1 tick S.1
  refine z_iconst (v := 0) dX1_look_0 (by decide) ?_
  refine z_istore_n dX1_look_1 (by decide) ?_
  refine z_iconst (v := 2) dX1_look_2 (by decide) ?_
  refine z_aload_n dX1_look_3 rfl ?_
  refine z_iload_n dX1_look_4 rfl ?_
  refine z_callV dX1_look_5 cv_X1_35 (c_X10_ended h.1 (fun p hp => Nat.lt_of_lt_of_le (ok.2.1 p hp) hB) (by omega)) rfl s1 rfl rfl ⟨(Nat.le_of_ble_eq_true rfl), (Nat.le_of_ble_eq_true rfl)⟩ (Nat.le_of_ble_eq_true rfl) (Nat.le_of_ble_eq_true rfl) (Nat.le_of_ble_eq_true rfl) (fun v σ1 nx1 hx1 hq1 => ?_)
  obtain ⟨rfl, rfl, rfl⟩ := hq1
  refine z_imul dX1_look_8 ?_
  rw [show (2 : Int32) = nI 2 from rfl, pk_mul]
  refine z_aload_n dX1_look_9 rfl ?_
  refine z_getf dX1_look_10 fl_X1_41 s1 rfl ?_
  by_cases c : m ≤ 2 * zec S.2.1 tick S.1
  · have e : half = true := by rw [hh]; exact decide_eq_true c
    subst e
    refine z_icmp_lt (tgt := 20) dX1_look_13 (by decide) (fun q => absurd q ((nI_nlt c (by omega)))) (fun _ => ?_)
    refine z_iconst (v := 1) dX1_look_16 (by decide) ?_
    refine z_goto (tgt := 21) dX1_look_17 (by decide) ?_
    refine z_istore dX1_look_21 (by decide) ?_
    refine z_iconst (v := 0) dX1_look_23 (by decide) ?_
    refine z_istore dX1_look_24 (by decide) ?_
    exact loop sz 0 σ1 (by omega) (fun _ _ => rfl) h
  · have e : half = false := by rw [hh]; exact decide_eq_false c
    subst e
    refine z_icmp_lt (tgt := 20) dX1_look_13 (by decide) (fun _ => ?_) (fun q => absurd ((nI_lt (by omega) (by omega))) q)
    refine z_iconst (v := 0) dX1_look_20 (by decide) ?_
    refine z_istore dX1_look_21 (by decide) ?_
    refine z_iconst (v := 0) dX1_look_23 (by decide) ?_
    refine z_istore dX1_look_24 (by decide) ?_
    exact loop sz 0 σ1 (by omega) (fun _ _ => rfl) h
theorem zwo_ok {work slow : Nat → Nat} {m o bg sz W : Nat} (hm : m ≤ 8) (hsz : sz ≤ 4) (hW : ∀ p k, p < m → k < 4 → work p * slow k ≤ W) : ∀ (d tick B : Nat) (S : zSS), zOK m bg B S → tick < B → zOK m bg (B + d * (W + 2)) (zwo work slow m o bg sz d tick S).2 ∧ (zwo work slow m o bg sz d tick S).1 < B + d * (W + 2)
  | 0, tick, B, S, h, ht => ⟨by simpa [zwo] using h, by simpa [zwo] using ht⟩
  | d + 1, tick, B, S, h, ht => by
    rw [zwo]
    have e : B + (d + 1) * (W + 2) = (B + (W + 2)) + d * (W + 2) := by rw [Nat.add_mul]; omega
    have hs := zlk_ok (half := zhf m tick S) (o := o) (tick := tick) (work := work) (slow := slow) (h.up (show B ≤ B + (W + 1) by omega)) hm (fun p k hp hk => by have := hW p k hp hk; omega) sz hsz
    by_cases c : zec S.2.1 tick S.1 < m
    · rw [if_pos c, e]
      refine zwo_ok hm hsz hW d _ (B + (W + 2)) _ (hs.up (by omega)) ?_
      by_cases c2 : (zlk work slow m o bg tick (zhf m tick S) sz S).2 = true
      · rw [if_pos c2]; omega
      · rw [if_neg c2]
        have := zea_lt (ends := (zlk work slow m o bg tick (zhf m tick S) sz S).1.2.1) (tick := tick) (B := B + (W + 1)) (by omega) (zlk work slow m o bg tick (zhf m tick S) sz S).1.1 hs.2.1
        omega
    · rw [if_neg c]
      refine ⟨h.up (by omega), ?_⟩
      show tick < _
      omega
set_option maxRecDepth 100000 in
set_option maxHeartbeats 1000000 in
theorem c_X1_workOff {G : zG} {σ : zH} {nx s o m bg b0 sz tt sp cs W : Nat} {work slow ends idle : Nat → Nat} {A : List zAE} (h : zSch G σ s o m bg work slow sz tt sp cs (0, ends, fun _ => false, idle, A)) (hA : A.length = bg) (hW : ∀ p k, p < m → k < 4 → work p * slow k ≤ W) (hB : b0 + 1 + 18 * (W + 2) ≤ 2 ^ 31) (hb : bg ≤ 208) (hsz : sz ≤ 4) :
    zM G yX1_workOff kX1_workOff [.ref (s + 20), .ref s, .int (nI b0)] σ nx (fun v σ' nx' => v = some (.int (nI (zwo work slow m o bg sz 17 b0 (0, ends, fun _ => false, fun _ => b0, A)).1)) ∧ zSch G σ' s o m bg work slow sz tt sp cs (zwo work slow m o bg sz 17 b0 (0, ends, fun _ => false, fun _ => b0, A)).2 ∧ zFr σ σ' s 25 ∧ nx' = nx) := by
  refine zM.of2 (ls := [some (.ref (s + 20)), some (.ref s), some (.int (nI b0)), none, none]) (by decide +kernel) ⟨rfl, rfl, rfl⟩ (Nat.le_of_ble_eq_true rfl) (fun _ h => h) (fun Q hQ => ?_)
  obtain ⟨S0, hS0⟩ : ∃ z : zSS, z = (0, ends, fun _ => false, fun _ => b0, A) := ⟨_, rfl⟩
  rw [← hS0] at hQ
  obtain ⟨res, hres⟩ : ∃ z, z = zwo work slow m o bg sz 17 b0 S0 := ⟨_, rfl⟩
  rw [← hres] at hQ
  have main : ∀ (d t tick B : Nat) (σ1 : zH) (S : zSS), t + d = 17 → zFr σ σ1 s 25 → zSch G σ1 s o m bg work slow sz tt sp cs S → zOK m bg B S → tick < B → B + (d + 1) * (W + 2) ≤ 2 ^ 31 → res = zwo work slow m o bg sz d tick S →
      zWP G kX1_workOff (zFM G kX1_workOff.2.2.2.1 Q) 27 [some (.ref (s + 20)), some (.ref s), some (.int (nI b0)), some (.int (nI tick)), some (.int (nI t))] [] σ1 nx 0 0 := by
    intro d
    induction d with
    | zero =>
      intro t tick B σ1 S ht f1 h1 ok1 htk hB1 e
      have : t = 17 := by omega
      subst this
      refine z_iload dX1_workOff_27 rfl ?_
      refine z_bipush (v := 17) dX1_workOff_29 (by decide) ?_
      refine z_icmp_ge (tgt := 73) dX1_workOff_31 (by decide) (fun _ => ?_) (fun q => absurd ((show nI 17 ≤ nI 17 from nI_le (by omega) (by omega))) q)
      refine z_iload_n dX1_workOff_73 rfl ?_
      exact z_iret dX1_workOff_74 rfl (Nat.le_of_ble_eq_true rfl) (Nat.le_of_ble_eq_true rfl) (hQ _ _ _ ⟨by rw [e]; rfl, by rw [e]; exact h1, f1, rfl⟩)
    | succ d ih =>
      intro t tick B σ1 S ht f1 h1 ok1 htk hB1 e
      obtain ⟨cw1, s2, sm, m8⟩ := h1.1.c
      have hec := zec_le S.2.1 tick S.1
      have hm := ok1.1
      rw [show (d + 1 + 1) * (W + 2) = (d + 1) * (W + 2) + (W + 2) by rw [Nat.add_mul (d + 1)]; omega] at hB1
      generalize hDW : (d + 1) * (W + 2) = DW at hB1
      refine z_iload dX1_workOff_27 rfl ?_
      refine z_bipush (v := 17) dX1_workOff_29 (by decide) ?_
      refine z_icmp_ge (tgt := 73) dX1_workOff_31 (by decide) (fun q => absurd q ((show ¬ nI 17 ≤ nI t from nI_ge (by omega) (by omega)))) (fun _ => ?_)
      refine z_aload_n dX1_workOff_34 rfl ?_
      refine z_iload_n dX1_workOff_35 rfl ?_
      refine z_callV dX1_workOff_36 cv_X1_35 (c_X10_ended h1.1 (fun p hp => by have := ok1.2.1 p hp; omega) (by omega)) rfl s2 rfl rfl ⟨(Nat.le_of_ble_eq_true rfl), (Nat.le_of_ble_eq_true rfl)⟩ (Nat.le_of_ble_eq_true rfl) (Nat.le_of_ble_eq_true rfl) (Nat.le_of_ble_eq_true rfl) (fun v σ2 nx2 hx2 hq2 => ?_)
      obtain ⟨rfl, rfl, rfl⟩ := hq2
      refine z_aload_n dX1_workOff_39 rfl ?_
      refine z_getf dX1_workOff_40 fl_X1_41 s2 rfl ?_
      rw [zwo] at e
      by_cases c : zec S.2.1 tick S.1 < m
      · rw [if_pos c] at e
        have ok2 := ok1.up (show B ≤ B + (W + 1) by omega)
        have hw2 : ∀ p k, p < m → k < 4 → tick + work p * slow k < B + (W + 1) := fun p k hp hk => by have := hW p k hp hk; omega
        have ok3 := zlk_ok (half := zhf m tick S) (o := o) ok2 m8 hw2 sz hsz
        refine z_icmp_ge (tgt := 73) dX1_workOff_43 (by decide) (fun q => absurd q (nI_ge c (by omega))) (fun _ => ?_)
        refine z_aload_n dX1_workOff_46 rfl ?_
        refine z_aload_n dX1_workOff_47 rfl ?_
        refine z_iload_n dX1_workOff_48 rfl ?_
        refine z_callV dX1_workOff_49 cv_X1_44 (c_X1_look h1 ok2 (by omega) (by omega) hw2 hb hsz) rfl h1.2.2.c rfl rfl ⟨(Nat.le_of_ble_eq_true rfl), (Nat.le_of_ble_eq_true rfl)⟩ (Nat.le_of_ble_eq_true rfl) (Nat.le_of_ble_eq_true rfl) (Nat.le_of_ble_eq_true rfl) (fun v σ3 nx3 hx3 hq3 => ?_)
        obtain ⟨rfl, g1, k1, rfl⟩ := hq3
        by_cases c2 : (zlk work slow m o bg tick (zhf m tick S) sz S).2 = true
        · rw [if_pos c2] at e
          rw [if_pos c2]
          refine z_if_eq (tgt := 61) dX1_workOff_52 (by decide) (fun q => absurd q ((by decide))) (fun _ => ?_)
          refine z_iload_n dX1_workOff_55 rfl ?_
          refine z_iconst (v := 1) dX1_workOff_56 (by decide) ?_
          refine z_iadd dX1_workOff_57 ?_
          rw [nI_1]
          refine z_goto (tgt := 66) dX1_workOff_58 (by decide) ?_
          refine z_istore_n dX1_workOff_66 (by decide) ?_
          refine z_inc1 dX1_workOff_67 rfl (by decide) ?_
          refine z_goto (tgt := 27) dX1_workOff_70 (by decide) ?_
          rw [nI_1]
          refine ih (t + 1) (tick + 1) (B + (W + 2)) σ3 _ (by omega) (fun b hb => (k1 b hb).trans (f1 b hb)) g1 (ok3.up (by omega)) (by omega) ?_ e
          rw [hDW]; omega
        · rw [if_neg c2] at e
          rw [if_neg c2]
          obtain ⟨cw3, s3, -⟩ := g1.1.c
          have hz := zea_lt (ends := (zlk work slow m o bg tick (zhf m tick S) sz S).1.2.1) (tick := tick) (B := B + (W + 1)) (by omega) (zlk work slow m o bg tick (zhf m tick S) sz S).1.1 ok3.2.1
          refine z_if_eq (tgt := 61) dX1_workOff_52 (by decide) (fun _ => ?_) (fun q => absurd (rfl) q)
          refine z_aload_n dX1_workOff_61 rfl ?_
          refine z_iload_n dX1_workOff_62 rfl ?_
          refine z_callV dX1_workOff_63 cv_X1_48 (c_X10_earliestEnd g1.1 (fun p hp => by have := ok3.2.1 p hp; omega) (by omega)) rfl s3 rfl rfl ⟨(Nat.le_of_ble_eq_true rfl), (Nat.le_of_ble_eq_true rfl)⟩ (Nat.le_of_ble_eq_true rfl) (Nat.le_of_ble_eq_true rfl) (Nat.le_of_ble_eq_true rfl) (fun v σ4 nx4 hx4 hq4 => ?_)
          obtain ⟨rfl, rfl, rfl⟩ := hq4
          refine z_istore_n dX1_workOff_66 (by decide) ?_
          refine z_inc1 dX1_workOff_67 rfl (by decide) ?_
          refine z_goto (tgt := 27) dX1_workOff_70 (by decide) ?_
          rw [nI_1]
          refine ih (t + 1) _ (B + (W + 2)) σ4 _ (by omega) (fun b hb => (k1 b hb).trans (f1 b hb)) g1 (ok3.up (by omega)) (by omega) ?_ e
          rw [hDW]; omega
      · rw [if_neg c] at e
        refine z_icmp_ge (tgt := 73) dX1_workOff_43 (by decide) (fun _ => ?_) (fun q => absurd (nI_le (by omega) (by omega)) q)
        refine z_iload_n dX1_workOff_73 rfl ?_
        exact z_iret dX1_workOff_74 rfl (Nat.le_of_ble_eq_true rfl) (Nat.le_of_ble_eq_true rfl) (hQ _ _ _ ⟨by rw [e], by rw [e]; exact h1, f1, rfl⟩)
  have first : ∀ (d k : Nat) (σ1 : zH) (id1 : Nat → Nat), k + d = 4 → zFr σ σ1 s 25 → zSch G σ1 s o m bg work slow sz tt sp cs (0, ends, fun _ => false, id1, A) → (∀ i, i < k → id1 i = b0) →
      zWP G kX1_workOff (zFM G kX1_workOff.2.2.2.1 Q) 2 [some (.ref (s + 20)), some (.ref s), some (.int (nI b0)), some (.int (nI k)), none] [] σ1 nx 0 0 := by
    intro d
    induction d with
    | zero =>
      intro k σ1 id1 hk f1 h1 hi
      have : k = 4 := by omega
      subst this
      obtain ⟨q1, q2, sf, jf, q3, q4, q5, q6⟩ := h1
      have h2 : zSch G σ1 s o m bg work slow sz tt sp cs S0 := by
        rw [hS0]
        exact ⟨q1, q2, sf, jf, q3, q4, q5, fun i hi4 => ⟨(q6 i hi4).1, by rw [(q6 i hi4).2]; show nI (id1 i) = nI b0; rw [hi i hi4]⟩⟩
      refine z_iload_n dX1_workOff_2 rfl ?_
      refine z_iconst (v := 4) dX1_workOff_3 (by decide) ?_
      refine z_icmp_ge (tgt := 22) dX1_workOff_4 (by decide) (fun _ => ?_) (fun q => absurd ((show nI 4 ≤ nI 4 from nI_le (by omega) (by omega))) q)
      refine z_iload_n dX1_workOff_22 rfl ?_
      refine z_istore_n dX1_workOff_23 (by decide) ?_
      refine z_iconst (v := 0) dX1_workOff_24 (by decide) ?_
      refine z_istore dX1_workOff_25 (by decide) ?_
      refine main 17 0 b0 (b0 + 1) σ1 S0 rfl f1 h2 ?_ (by omega) hB hres
      rw [hS0]
      exact ⟨Nat.zero_le _, fun p hp => absurd hp (Nat.not_lt_zero _), fun _ _ => Nat.lt_succ_self _, by show A.length = bg + 0 + 0; omega, fun _ => rfl, fun p hp => absurd hp (Nat.not_lt_zero _)⟩
    | succ d ih =>
      intro k σ1 id1 hk f1 h1 hi
      obtain ⟨q1, q2, sf, jf, q3, q4, q5, q6⟩ := h1
      refine z_iload_n dX1_workOff_2 rfl ?_
      refine z_iconst (v := 4) dX1_workOff_3 (by decide) ?_
      refine z_icmp_ge (tgt := 22) dX1_workOff_4 (by decide) (fun q => absurd q ((show ¬ nI 4 ≤ nI k from nI_ge (by omega) (by omega)))) (fun _ => ?_)
      refine z_aload_n dX1_workOff_7 rfl ?_
      refine z_getf dX1_workOff_8 fl_X1_20 q3 rfl ?_
      refine z_iload_n dX1_workOff_11 rfl ?_
      refine z_iload_n dX1_workOff_12 rfl ?_
      refine z_callV dX1_workOff_13 cv_X1_31 (c_X4_set q5 (by omega)) rfl q5.1 rfl rfl ⟨(Nat.le_of_ble_eq_true rfl), (Nat.le_of_ble_eq_true rfl)⟩ (Nat.le_of_ble_eq_true rfl) (Nat.le_of_ble_eq_true rfl) (Nat.le_of_ble_eq_true rfl) (fun v σ2 nx2 hx2 hq2 => ?_)
      obtain ⟨rfl, g1, k1, rfl⟩ := hq2
      rw [zwr_nI (by omega) (by omega)] at g1
      refine z_inc1 dX1_workOff_16 rfl (by decide) ?_
      refine z_goto (tgt := 2) dX1_workOff_19 (by decide) ?_
      rw [nI_1]
      refine ih (k + 1) σ2 (zun id1 k b0) (by omega) (fun b hb => (k1 b (by omega)).trans (f1 b hb)) ⟨q1.fr fun b a d => k1 b (by omega), q2.fr fun b a d => k1 b (by omega), zCr.set ((k1 _ (by omega)).trans q3) (q4.fr fun b a d => k1 b (by omega)) g1 q6⟩ (fun i hi2 => ?_)
      by_cases e : i = k
      · subst e; exact zun_s
      · rw [zun_n e]; exact hi i (by omega)
  refine z_iconst (v := 0) dX1_workOff_0 (by decide) ?_
  refine z_istore_n dX1_workOff_1 (by decide) ?_
  exact first 4 0 σ idle (by omega) (fun _ _ => rfl) h (fun i hi => absurd hi (Nat.not_lt_zero _))
