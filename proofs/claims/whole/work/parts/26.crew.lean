/-! Crew -/
def zCC2 (w l n : Nat) : va_E := .inr (2, [.ref l, .ref (w + 1), .ref (w + 3), .int (nI n)])
def zCr (G : zG) (σ : zH) (w l : Nat) (slow idle : Nat → Nat) (n : Nat) : Prop := ∃ sf jf : Nat → Int32, σ w = some (zCC2 w l n) ∧ zInts G σ (w + 1) 4 sf ∧ zInts G σ (w + 3) 4 jf ∧ ∀ k, k < 4 → sf k = nI (slow k) ∧ jf k = nI (idle k)
theorem zCr.fr {G : zG} {σ σ' : zH} {w l n : Nat} {slow idle : Nat → Nat} (h : zCr G σ w l slow idle n) (hf : ∀ b, w ≤ b → b < w + 5 → σ' b = σ b) : zCr G σ' w l slow idle n := by
  obtain ⟨sf, jf, h1, h2, h3, h4⟩ := h
  exact ⟨sf, jf, (hf w (by omega) (by omega)).trans h1, h2.fr fun b a d => hf b (by omega) (by omega), h3.fr fun b a d => hf b (by omega) (by omega), h4⟩
theorem zCr.c {G : zG} {σ : zH} {w l n : Nat} {slow idle : Nat → Nat} (h : zCr G σ w l slow idle n) : σ w = some (zCC2 w l n) := by obtain ⟨sf, jf, h1, _⟩ := h; exact h1
abbrev zSS : Type := Nat × (Nat → Nat) × (Nat → Bool) × (Nat → Nat) × List zAE
def zSch (G : zG) (σ : zH) (s o m bg : Nat) (work slow : Nat → Nat) (sz tt sp cs : Nat) (S : zSS) : Prop := zSt G σ s o m S.1 bg work S.2.1 S.2.2.1 ∧ zLg G σ (s + 7) S.2.2.2.2 tt sp cs ∧ zCr G σ (s + 20) (s + 7) slow S.2.2.2.1 sz
def zpt (work slow : Nat → Nat) (o tick k : Nat) (S : zSS) : zSS := (S.1 + 1, zun S.2.1 S.1 (tick + work S.1 * slow k), S.2.2.1, zun S.2.2.2.1 k (tick + work S.1 * slow k), S.2.2.2.2 ++ [(o, S.1, k, tick, tick + work S.1 * slow k, false)])
theorem zCr.set {G : zG} {σ' : zH} {w l n k x : Nat} {slow idle : Nat → Nat} {sf jf : Nat → Int32} (h1 : σ' w = some (zCC2 w l n)) (h2 : zInts G σ' (w + 1) 4 sf) (h3 : zInts G σ' (w + 3) 4 (upd jf k (nI x))) (h4 : ∀ k, k < 4 → sf k = nI (slow k) ∧ jf k = nI (idle k)) : zCr G σ' w l slow (zun idle k x) n :=
  ⟨sf, _, h1, h2, h3, fun i hi => ⟨(h4 i hi).1, by by_cases e : i = k; · { subst e; rw [pk_us, zun_s] }; · { rw [pk_un e, zun_n e]; exact (h4 i hi).2 }⟩⟩
set_option maxRecDepth 100000 in
theorem c_X1_takeNext {G : zG} {σ : zH} {nx s o m bg k tick sz tt sp cs : Nat} {work slow : Nat → Nat} {S : zSS} (h : zSch G σ s o m bg work slow sz tt sp cs S) (hk : k < 4) (ht : S.1 < m) (hA : S.2.2.2.2.length = bg + S.1) (hl : S.2.2.2.2.length < 224) :
    zM G yX1_takeNext kX1_takeNext [.ref (s + 20), .ref s, .int (nI k), .int (nI tick)] σ nx (fun v σ' nx' => v = none ∧ zSch G σ' s o m bg work slow sz tt sp cs (zpt work slow o tick k S) ∧ zFr σ σ' s 25 ∧ nx' = nx) := by
  refine zM.of (ls := [some (.ref (s + 20)), some (.ref s), some (.int (nI k)), some (.int (nI tick)), none, none]) (by decide +kernel) ⟨rfl, rfl, rfl⟩ (Nat.le_of_ble_eq_true rfl) (fun _ h => h) ?_
  obtain ⟨hs, hg, hc⟩ := h
  obtain ⟨wf, ef, af, cw, s1, s2, s3, s4, s5, s6, s7, s8, s9, s10⟩ := id hs
  obtain ⟨sf, jf, c1, c2, c3, c4⟩ := id hc
  obtain ⟨n, ends, cop, idle, A⟩ := S
  simp only at *
  refine z_aload_n dX1_takeNext_0 rfl ?_
  refine z_getf dX1_takeNext_1 fl_X1_54 s1 rfl ?_
  refine z_istore dX1_takeNext_4 (by decide) ?_
  refine z_iload_n dX1_takeNext_6 rfl ?_
  refine z_aload_n dX1_takeNext_7 rfl ?_
  refine z_getf dX1_takeNext_8 fl_X1_65 s1 rfl ?_
  refine z_iload dX1_takeNext_11 rfl ?_
  refine z_callV dX1_takeNext_13 cv_X1_51 (c_X4_at s2 (by omega)) rfl s2.1 rfl rfl ⟨(Nat.le_of_ble_eq_true rfl), (Nat.le_of_ble_eq_true rfl)⟩ (Nat.le_of_ble_eq_true rfl) (Nat.le_of_ble_eq_true rfl) (Nat.le_of_ble_eq_true rfl) (fun v σ1 nx1 hx1 hq1 => ?_)
  obtain ⟨rfl, rfl, rfl⟩ := hq1
  refine z_aload_n dX1_takeNext_16 rfl ?_
  refine z_getf dX1_takeNext_17 fl_X1_14 c1 rfl ?_
  refine z_iload_n dX1_takeNext_20 rfl ?_
  refine z_callV dX1_takeNext_21 cv_X1_51 (c_X4_at c2 (by omega)) rfl c2.1 rfl rfl ⟨(Nat.le_of_ble_eq_true rfl), (Nat.le_of_ble_eq_true rfl)⟩ (Nat.le_of_ble_eq_true rfl) (Nat.le_of_ble_eq_true rfl) (Nat.le_of_ble_eq_true rfl) (fun v σ1 nx1 hx1 hq1 => ?_)
  obtain ⟨rfl, rfl, rfl⟩ := hq1
  rw [zrd_nI (by omega) (by omega), zrd_nI (by omega) (by omega), s5 n ht, (c4 k hk).1]
  refine z_imul dX1_takeNext_24 ?_
  rw [pk_mul]
  refine z_iadd dX1_takeNext_25 ?_
  rw [nI_add]
  obtain ⟨e, he⟩ : ∃ z, z = tick + work n * slow k := ⟨_, rfl⟩
  have ez : zpt work slow o tick k (n, ends, cop, idle, A) = (n + 1, zun ends n e, cop, zun idle k e, A ++ [(o, n, k, tick, e, false)]) := by rw [he]; rfl
  rw [← he, ez]
  refine z_istore dX1_takeNext_26 (by decide) ?_
  refine z_aload_n dX1_takeNext_28 rfl ?_
  refine z_aload_n dX1_takeNext_29 rfl ?_
  refine z_getf dX1_takeNext_30 fl_X1_27 c1 rfl ?_
  refine z_aload_n dX1_takeNext_33 rfl ?_
  refine z_getf dX1_takeNext_34 fl_X1_68 s1 rfl ?_
  refine z_iload dX1_takeNext_37 rfl ?_
  refine z_iload_n dX1_takeNext_39 rfl ?_
  refine z_iload_n dX1_takeNext_40 rfl ?_
  refine z_iload dX1_takeNext_41 rfl ?_
  refine z_iconst (v := 0) dX1_takeNext_43 (by decide) ?_
  refine z_callV dX1_takeNext_44 cv_X1_71 (c_X6_add (cp := false) hg hl) rfl hg.c rfl rfl ⟨(Nat.le_of_ble_eq_true rfl), (Nat.le_of_ble_eq_true rfl)⟩ (Nat.le_of_ble_eq_true rfl) (Nat.le_of_ble_eq_true rfl) (Nat.le_of_ble_eq_true rfl) (fun v σ2 nx2 hx2 hq2 => ?_)
  obtain ⟨rfl, g1, k1, rfl⟩ := hq2
  rw [hA]
  have t1 := hs.fr (σ' := σ2) fun b a d => k1 b (by omega)
  obtain ⟨cw2, t2, -⟩ := t1.c
  refine z_iload dX1_takeNext_47 rfl ?_
  refine z_callV dX1_takeNext_49 cv_X1_77 (c_X10_take t1 ht) rfl t2 rfl rfl ⟨(Nat.le_of_ble_eq_true rfl), (Nat.le_of_ble_eq_true rfl)⟩ (Nat.le_of_ble_eq_true rfl) (Nat.le_of_ble_eq_true rfl) (Nat.le_of_ble_eq_true rfl) (fun v σ3 nx3 hx3 hq3 => ?_)
  obtain ⟨rfl, g2, k2, rfl⟩ := hq3
  have d1 : σ3 (s + 20) = some (zCC2 (s + 20) (s + 7) sz) := ((k2 _ (by omega)).trans (k1 _ (by omega))).trans c1
  have d2 := c2.fr (σ' := σ3) fun b a d => (k2 b (by omega)).trans (k1 b (by omega))
  have d3 := c3.fr (σ' := σ3) fun b a d => (k2 b (by omega)).trans (k1 b (by omega))
  refine z_aload_n dX1_takeNext_52 rfl ?_
  refine z_getf dX1_takeNext_53 fl_X1_20 d1 rfl ?_
  refine z_iload_n dX1_takeNext_56 rfl ?_
  refine z_iload dX1_takeNext_57 rfl ?_
  refine z_callV dX1_takeNext_59 cv_X1_31 (c_X4_set d3 (by omega)) rfl d3.1 rfl rfl ⟨(Nat.le_of_ble_eq_true rfl), (Nat.le_of_ble_eq_true rfl)⟩ (Nat.le_of_ble_eq_true rfl) (Nat.le_of_ble_eq_true rfl) (Nat.le_of_ble_eq_true rfl) (fun v σ4 nx4 hx4 hq4 => ?_)
  obtain ⟨rfl, g3, k3, rfl⟩ := hq4
  rw [zwr_nI (by omega) (by omega)] at g3
  exact z_vret dX1_takeNext_62 rfl (Nat.le_of_ble_eq_true rfl) (Nat.le_of_ble_eq_true rfl) ⟨rfl, ⟨g2.fr fun b a d => k3 b (by omega), g1.fr fun b a d => (k3 b (by omega)).trans (k2 b (by omega)), zCr.set ((k3 _ (by omega)).trans d1) (d2.fr fun b a d => k3 b (by omega)) g3 c4⟩, fun b hb => (k3 b (by omega)).trans ((k2 b (by omega)).trans (k1 b (by omega))), rfl⟩
def zse (A : List zAE) (j e : Nat) : List zAE := A.modify j fun a => (a.1, a.2.1, a.2.2.1, a.2.2.2.1, e, a.2.2.2.2.2)
def zwk (A : List zAE) (j : Nat) : Nat := (A.getD j (0, 0, 0, 0, 0, false)).2.2.1
def zpc (bg o tick e k p : Nat) (S : zSS) : zSS := (S.1, zun S.2.1 p e, zor S.2.2.1 p, zun (zun S.2.2.2.1 k e) (zwk S.2.2.2.2 (bg + p)) e, zse (S.2.2.2.2 ++ [(o, p, k, tick, e, true)]) (bg + p) e)
theorem zse_len (A : List zAE) (j e : Nat) : (zse A j e).length = A.length := by rw [zse, List.length_modify]
theorem zLg.ends {G : zG} {σ σ' : zH} {l t s c j e : Nat} {A : List zAE} {f : Nat → Nat → Int32} (h1 : σ' l = some (zLC l A.length t s c)) (h2 : zLa G σ l f) (h3 : ∀ (k : Nat) (a : zAE), A[k]? = some a → ∀ i, i < 6 → f i k = zAc a i) (h4 : A.length ≤ 224) (h5 : zInts G σ' (l + 9) 224 (upd (f 4) j (nI e))) (h6 : ∀ b, b ≠ l + 9 + 1 → σ' b = σ b) : zLg G σ' l (zse A j e) t s c := by
  refine ⟨_, by rw [zse_len]; exact h1, h2.set (i := 4) (by decide) h5 h6, fun k a q i hi => ?_, by rw [zse_len]; exact h4⟩
  rw [zse, List.getElem?_modify] at q
  have key : ∃ b, A[k]? = some b ∧ a = if j = k then (b.1, b.2.1, b.2.2.1, b.2.2.2.1, e, b.2.2.2.2.2) else b := by
    cases hb : A[k]? with
    | none => rw [hb] at q; exact nomatch q
    | some b => rw [hb] at q; exact ⟨b, rfl, (Option.some.inj q).symm⟩
  obtain ⟨b, hb, ea⟩ := key
  have := h3 k b hb i hi
  by_cases hjk : j = k
  · subst hjk
    rw [if_pos rfl] at ea
    subst ea
    by_cases i4 : i = 4
    · subst i4; simp only [if_true]; exact pk_us
    · simp only [if_neg i4]
      rw [this]
      rcases (show i = 0 ∨ i = 1 ∨ i = 2 ∨ i = 3 ∨ i = 5 by omega) with e | e | e | e | e <;> subst e <;> rfl
  · rw [if_neg hjk] at ea
    subst ea
    by_cases i4 : i = 4
    · subst i4; simp only [if_true]; rw [pk_un (Ne.symm hjk)]; exact this
    · simp only [if_neg i4]; exact this
theorem zse_wk {A : List zAE} {x : zAE} {j e : Nat} (h : j < A.length) : ∃ a, (zse (A ++ [x]) j e)[j]? = some a ∧ a.2.2.1 = zwk A j := by
  have hg : A[j]? = some (A[j]'h) := List.getElem?_eq_getElem _
  refine ⟨((A[j]'h).1, (A[j]'h).2.1, (A[j]'h).2.2.1, (A[j]'h).2.2.2.1, e, (A[j]'h).2.2.2.2.2), ?_, ?_⟩
  · rw [zse, List.getElem?_modify, List.getElem?_append_left h, hg]
    simp
  · rw [zwk, List.getD_eq_getElem?_getD, hg]
    rfl
set_option maxRecDepth 100000 in
set_option maxHeartbeats 1000000 in
theorem c_X1_takesCopy {G : zG} {σ : zH} {nx s o m bg k tick sz tt sp cs : Nat} {work slow : Nat → Nat} {S : zSS} (h : zSch G σ s o m bg work slow sz tt sp cs S) (hk : k < 4) (he : ∀ p, p < S.1 → S.2.1 p < 2 ^ 31) (ht : tick < 2 ^ 31) (hW : ∀ p k, p < m → k < 4 → tick + work p * slow k < 2 ^ 31)
    (hA : ∀ p, p < S.1 → bg + p < S.2.2.2.2.length ∧ zwk S.2.2.2.2 (bg + p) < 4) (hl : S.2.2.2.2.length < 224) (hm : S.1 = m) :
    zM G yX1_takesCopy kX1_takesCopy [.ref (s + 20), .ref s, .int (nI k), .int (nI tick)] σ nx (fun v σ' nx' => (∃ b : Bool, v = some (.int (if b then 1 else 0)) ∧ (b = true ↔ (zlw S.2.1 S.2.2.1 tick m S.1).1 < m ∧ tick + work (zlw S.2.1 S.2.2.1 tick m S.1).1 * slow k < S.2.1 (zlw S.2.1 S.2.2.1 tick m S.1).1) ∧
      zSch G σ' s o m bg work slow sz tt sp cs (if b then zpc bg o tick (tick + work (zlw S.2.1 S.2.2.1 tick m S.1).1 * slow k) k (zlw S.2.1 S.2.2.1 tick m S.1).1 S else S)) ∧ zFr σ σ' s 25 ∧ nx' = nx) := by
  refine zM.of (ls := [some (.ref (s + 20)), some (.ref s), some (.int (nI k)), some (.int (nI tick)), none, none, none]) (by decide +kernel) ⟨rfl, rfl, rfl⟩ (Nat.le_of_ble_eq_true rfl) (fun _ h => h) ?_
  have h0 := h
  obtain ⟨hs, hg, hc⟩ := h
  obtain ⟨wf, ef, af, cw, s1, s2, s3, s4, s5, s6, s7, s8, s9, s10⟩ := id hs
  obtain ⟨sf, jf, c1, c2, c3, c4⟩ := id hc
  obtain ⟨n, ends, cop, idle, A⟩ := S
  simp only at *
  have hz := (zlw_lt (ends := ends) (cop := cop) (tick := tick) (m := m) ht n he).2
  obtain ⟨p, hp⟩ : ∃ z, z = (zlw ends cop tick m n).1 := ⟨_, rfl⟩
  have hz2 : p = m ∨ p < n := by rw [hp]; exact hz.imp (fun q => by rw [q]) id
  rw [← hp]
  refine z_aload_n dX1_takesCopy_0 rfl ?_
  refine z_iload_n dX1_takesCopy_1 rfl ?_
  refine z_callV dX1_takesCopy_2 cv_X1_80 (c_X10_latest hs he ht) rfl s1 rfl rfl ⟨(Nat.le_of_ble_eq_true rfl), (Nat.le_of_ble_eq_true rfl)⟩ (Nat.le_of_ble_eq_true rfl) (Nat.le_of_ble_eq_true rfl) (Nat.le_of_ble_eq_true rfl) (fun v σ1 nx1 hx1 hq1 => ?_)
  obtain ⟨rfl, rfl, rfl⟩ := hq1
  rw [← hp]
  refine z_istore dX1_takesCopy_5 (by decide) ?_
  refine z_iload dX1_takesCopy_7 rfl ?_
  refine z_aload_n dX1_takesCopy_9 rfl ?_
  refine z_getf dX1_takesCopy_10 fl_X1_41 s1 rfl ?_
  by_cases hpm : p < m
  · have hpn : p < n := by omega
    refine z_icmp_lt (tgt := 18) dX1_takesCopy_13 (by decide) (fun _ => ?_) (fun q => absurd ((nI_lt hpm (by omega))) q)
    refine z_iload_n dX1_takesCopy_18 rfl ?_
    refine z_aload_n dX1_takesCopy_19 rfl ?_
    refine z_getf dX1_takesCopy_20 fl_X1_65 s1 rfl ?_
    refine z_iload dX1_takesCopy_23 rfl ?_
    refine z_callV dX1_takesCopy_25 cv_X1_51 (c_X4_at s2 (by omega)) rfl s2.1 rfl rfl ⟨(Nat.le_of_ble_eq_true rfl), (Nat.le_of_ble_eq_true rfl)⟩ (Nat.le_of_ble_eq_true rfl) (Nat.le_of_ble_eq_true rfl) (Nat.le_of_ble_eq_true rfl) (fun v σ2 nx2 hx2 hq2 => ?_)
    obtain ⟨rfl, rfl, rfl⟩ := hq2
    refine z_aload_n dX1_takesCopy_28 rfl ?_
    refine z_getf dX1_takesCopy_29 fl_X1_14 c1 rfl ?_
    refine z_iload_n dX1_takesCopy_32 rfl ?_
    refine z_callV dX1_takesCopy_33 cv_X1_51 (c_X4_at c2 (by omega)) rfl c2.1 rfl rfl ⟨(Nat.le_of_ble_eq_true rfl), (Nat.le_of_ble_eq_true rfl)⟩ (Nat.le_of_ble_eq_true rfl) (Nat.le_of_ble_eq_true rfl) (Nat.le_of_ble_eq_true rfl) (fun v σ2 nx2 hx2 hq2 => ?_)
    obtain ⟨rfl, rfl, rfl⟩ := hq2
    rw [zrd_nI (by omega) (by omega), zrd_nI (by omega) (by omega), s5 p hpm, (c4 k hk).1]
    refine z_imul dX1_takesCopy_36 ?_
    rw [pk_mul]
    refine z_iadd dX1_takesCopy_37 ?_
    have hw := hW p k hpm hk
    rw [nI_add]
    obtain ⟨e, hee⟩ : ∃ z, z = tick + work p * slow k := ⟨_, rfl⟩
    rw [← hee] at hw
    rw [← hee]
    refine z_istore dX1_takesCopy_38 (by decide) ?_
    refine z_iload dX1_takesCopy_40 rfl ?_
    refine z_aload_n dX1_takesCopy_42 rfl ?_
    refine z_getf dX1_takesCopy_43 fl_X1_83 s1 rfl ?_
    refine z_iload dX1_takesCopy_46 rfl ?_
    refine z_callV dX1_takesCopy_48 cv_X1_51 (c_X4_at s3 (by omega)) rfl s3.1 rfl rfl ⟨(Nat.le_of_ble_eq_true rfl), (Nat.le_of_ble_eq_true rfl)⟩ (Nat.le_of_ble_eq_true rfl) (Nat.le_of_ble_eq_true rfl) (Nat.le_of_ble_eq_true rfl) (fun v σ2 nx2 hx2 hq2 => ?_)
    obtain ⟨rfl, rfl, rfl⟩ := hq2
    rw [zrd_nI (by omega) (by omega), s6 p hpn]
    by_cases hlt : e < ends p
    · refine z_icmp_lt (tgt := 56) dX1_takesCopy_51 (by decide) (fun _ => ?_) (fun q => absurd ((nI_lt hlt (he p hpn))) q)
      refine z_aload_n dX1_takesCopy_56 rfl ?_
      refine z_getf dX1_takesCopy_57 fl_X1_86 s1 rfl ?_
      refine z_iload dX1_takesCopy_60 rfl ?_
      refine z_callV dX1_takesCopy_62 cv_X1_51 (c_X4_at s4 (by omega)) rfl s4.1 rfl rfl ⟨(Nat.le_of_ble_eq_true rfl), (Nat.le_of_ble_eq_true rfl)⟩ (Nat.le_of_ble_eq_true rfl) (Nat.le_of_ble_eq_true rfl) (Nat.le_of_ble_eq_true rfl) (fun v σ2 nx2 hx2 hq2 => ?_)
      obtain ⟨rfl, rfl, rfl⟩ := hq2
      rw [zrd_nI (by omega) (by omega), s7 p hpn]
      refine z_istore dX1_takesCopy_65 (by decide) ?_
      refine z_aload_n dX1_takesCopy_67 rfl ?_
      refine z_getf dX1_takesCopy_68 fl_X1_27 c1 rfl ?_
      refine z_aload_n dX1_takesCopy_71 rfl ?_
      refine z_getf dX1_takesCopy_72 fl_X1_68 s1 rfl ?_
      refine z_iload dX1_takesCopy_75 rfl ?_
      refine z_iload_n dX1_takesCopy_77 rfl ?_
      refine z_iload_n dX1_takesCopy_78 rfl ?_
      refine z_iload dX1_takesCopy_79 rfl ?_
      refine z_iconst (v := 1) dX1_takesCopy_81 (by decide) ?_
      refine z_callV dX1_takesCopy_82 cv_X1_71 (c_X6_add (cp := true) hg hl) rfl hg.c rfl rfl ⟨(Nat.le_of_ble_eq_true rfl), (Nat.le_of_ble_eq_true rfl)⟩ (Nat.le_of_ble_eq_true rfl) (Nat.le_of_ble_eq_true rfl) (Nat.le_of_ble_eq_true rfl) (fun v σ3 nx3 hx3 hq3 => ?_)
      obtain ⟨rfl, g1, k1, rfl⟩ := hq3
      obtain ⟨ap1, ap2⟩ := hA p hpn
      obtain ⟨f, f1, f2, f3, f4⟩ := id g1
      have c1' := (k1 (s + 20) (by omega)).trans c1
      have f9 : zInts G σ3 (s + 7 + 9) 224 (f 4) := f2 4 (by decide)
      refine z_pop dX1_takesCopy_85 rfl ?_
      refine z_aload_n dX1_takesCopy_86 rfl ?_
      refine z_getf dX1_takesCopy_87 fl_X1_27 c1' rfl ?_
      refine z_getf dX1_takesCopy_90 fl_X1_89 f1 rfl ?_
      refine z_iload dX1_takesCopy_93 rfl ?_
      refine z_iload dX1_takesCopy_95 rfl ?_
      refine z_callV dX1_takesCopy_97 cv_X1_31 (c_X4_set f9 (by omega)) rfl f9.1 rfl rfl ⟨(Nat.le_of_ble_eq_true rfl), (Nat.le_of_ble_eq_true rfl)⟩ (Nat.le_of_ble_eq_true rfl) (Nat.le_of_ble_eq_true rfl) (Nat.le_of_ble_eq_true rfl) (fun v σ4 nx4 hx4 hq4 => ?_)
      obtain ⟨rfl, g2, k2, rfl⟩ := hq4
      rw [zwr_nI (by omega) (by omega)] at g2
      have lg4 := zLg.ends ((k2 (s + 7) (by omega)).trans f1) f2 f3 f4 g2 k2
      have st4 := hs.fr (σ' := σ4) fun b a d => (k2 b (by omega)).trans (k1 b (by omega))
      obtain ⟨cw4, t4, -⟩ := st4.c
      refine z_aload_n dX1_takesCopy_100 rfl ?_
      refine z_iload dX1_takesCopy_101 rfl ?_
      refine z_iload dX1_takesCopy_103 rfl ?_
      refine z_callV dX1_takesCopy_105 cv_X1_90 (c_X10_copy st4 hpn) rfl t4 rfl rfl ⟨(Nat.le_of_ble_eq_true rfl), (Nat.le_of_ble_eq_true rfl)⟩ (Nat.le_of_ble_eq_true rfl) (Nat.le_of_ble_eq_true rfl) (Nat.le_of_ble_eq_true rfl) (fun v σ5 nx5 hx5 hq5 => ?_)
      obtain ⟨rfl, st5, k3, rfl⟩ := hq5
      have lg5 := lg4.fr (σ' := σ5) fun b a d => k3 b (by omega)
      have hk35 : ∀ b, s + 20 ≤ b → σ5 b = σ2 b := fun b hb => (k3 b (by omega)).trans ((k2 b (by omega)).trans (k1 b (by omega)))
      have d1 := (hk35 (s + 20) (by omega)).trans c1
      have d2 := c2.fr (σ' := σ5) fun b a d => hk35 b (by omega)
      have d3 := c3.fr (σ' := σ5) fun b a d => hk35 b (by omega)
      refine z_aload_n dX1_takesCopy_108 rfl ?_
      refine z_getf dX1_takesCopy_109 fl_X1_20 d1 rfl ?_
      refine z_iload_n dX1_takesCopy_112 rfl ?_
      refine z_iload dX1_takesCopy_113 rfl ?_
      refine z_callV dX1_takesCopy_115 cv_X1_31 (c_X4_set d3 (by omega)) rfl d3.1 rfl rfl ⟨(Nat.le_of_ble_eq_true rfl), (Nat.le_of_ble_eq_true rfl)⟩ (Nat.le_of_ble_eq_true rfl) (Nat.le_of_ble_eq_true rfl) (Nat.le_of_ble_eq_true rfl) (fun v σ6 nx6 hx6 hq6 => ?_)
      obtain ⟨rfl, g3, k4, rfl⟩ := hq6
      rw [zwr_nI (by omega) (by omega)] at g3
      have cr6 : zCr G σ6 (s + 20) (s + 7) slow (zun idle k e) sz := zCr.set ((k4 _ (by omega)).trans d1) (d2.fr fun b a d => k4 b (by omega)) g3 c4
      have lg6 := lg5.fr (σ' := σ6) fun b a d => k4 b (by omega)
      obtain ⟨sf2, jf2, r1, r2, r3, r4⟩ := cr6
      obtain ⟨f', m1, m2, m3, m4⟩ := id lg6
      obtain ⟨a, ha, hwk⟩ := zse_wk (x := (o, p, k, tick, e, true)) (e := e) ap1
      have m5 : zInts G σ6 (s + 7 + 5) 224 (f' 2) := m2 2 (by decide)
      have m6 : f' 2 (bg + p) = nI (zwk A (bg + p)) := by rw [m3 _ a ha 2 (by decide), ← hwk]; rfl
      refine z_aload_n dX1_takesCopy_118 rfl ?_
      refine z_getf dX1_takesCopy_119 fl_X1_20 r1 rfl ?_
      refine z_aload_n dX1_takesCopy_122 rfl ?_
      refine z_getf dX1_takesCopy_123 fl_X1_27 r1 rfl ?_
      refine z_getf dX1_takesCopy_126 fl_X1_93 m1 rfl ?_
      refine z_iload dX1_takesCopy_129 rfl ?_
      refine z_callV dX1_takesCopy_131 cv_X1_51 (c_X4_at m5 (by omega)) rfl m5.1 rfl rfl ⟨(Nat.le_of_ble_eq_true rfl), (Nat.le_of_ble_eq_true rfl)⟩ (Nat.le_of_ble_eq_true rfl) (Nat.le_of_ble_eq_true rfl) (Nat.le_of_ble_eq_true rfl) (fun v σ7 nx7 hx7 hq7 => ?_)
      obtain ⟨rfl, rfl, rfl⟩ := hq7
      rw [zrd_nI (by omega) (by omega), m6]
      refine z_iload dX1_takesCopy_134 rfl ?_
      refine z_callV dX1_takesCopy_136 cv_X1_31 (c_X4_set r3 (by omega)) rfl r3.1 rfl rfl ⟨(Nat.le_of_ble_eq_true rfl), (Nat.le_of_ble_eq_true rfl)⟩ (Nat.le_of_ble_eq_true rfl) (Nat.le_of_ble_eq_true rfl) (Nat.le_of_ble_eq_true rfl) (fun v σ8 nx8 hx8 hq8 => ?_)
      obtain ⟨rfl, g4, k5, rfl⟩ := hq8
      rw [zwr_nI (by omega) (by omega)] at g4
      refine z_iconst (v := 1) dX1_takesCopy_139 (by decide) ?_
      exact z_zret dX1_takesCopy_140 rfl rfl (Nat.le_of_ble_eq_true rfl) (Nat.le_of_ble_eq_true rfl) ⟨⟨true, rfl, ⟨fun _ => ⟨hpm, hlt⟩, fun _ => rfl⟩, ⟨st5.fr fun b a d => (k5 b (by omega)).trans (k4 b (by omega)), lg6.fr fun b a d => k5 b (by omega), zCr.set ((k5 _ (by omega)).trans r1) (r2.fr fun b a d => k5 b (by omega)) g4 r4⟩⟩, fun b hb => (k5 b (by omega)).trans ((k4 b (by omega)).trans ((k3 b (by omega)).trans ((k2 b (by omega)).trans (k1 b (by omega))))), rfl⟩
    · refine z_icmp_lt (tgt := 56) dX1_takesCopy_51 (by decide) (fun q => absurd q ((nI_nlt (by omega) hw))) (fun _ => ?_)
      refine z_iconst (v := 0) dX1_takesCopy_54 (by decide) ?_
      exact z_zret dX1_takesCopy_55 rfl rfl (Nat.le_of_ble_eq_true rfl) (Nat.le_of_ble_eq_true rfl) ⟨⟨false, rfl, ⟨fun q => (nomatch q), fun q => absurd q.2 hlt⟩, h0⟩, fun _ _ => rfl, rfl⟩
  · refine z_icmp_lt (tgt := 18) dX1_takesCopy_13 (by decide) (fun q => absurd q ((nI_nlt (by omega) (by omega)))) (fun _ => ?_)
    refine z_iconst (v := 0) dX1_takesCopy_16 (by decide) ?_
    exact z_zret dX1_takesCopy_17 rfl rfl (Nat.le_of_ble_eq_true rfl) (Nat.le_of_ble_eq_true rfl) ⟨⟨false, rfl, ⟨fun q => (nomatch q), fun q => absurd q.1 hpm⟩, h0⟩, fun _ _ => rfl, rfl⟩
