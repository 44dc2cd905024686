/-! Cache: its nodes, the one used the longest time ago first, each with its rows -/
abbrev zNS : Type := List (Nat × Nat)
def zsm (L : zNS) : Nat := (L.map fun q => q.2).sum
theorem zsm_app (A B : zNS) : zsm (A ++ B) = zsm A + zsm B := by simp [zsm]
theorem zsm_cons (q : Nat × Nat) (B : zNS) : zsm (q :: B) = q.2 + zsm B := by simp [zsm]
theorem zsm_le {L : zNS} (h : ∀ (i : Nat) (q : Nat × Nat), L[i]? = some q → q.2 ≤ 300) : zsm L ≤ 300 * L.length := by
  induction L with
  | nil => simp [zsm]
  | cons q t ih =>
    rw [zsm_cons, List.length_cons]
    have a := h 0 q rfl
    have b := ih fun i z hz => h (i + 1) z (by simpa using hz)
    omega
theorem zsm_erase : ∀ (L : zNS) (p : Nat) (q : Nat × Nat), L[p]? = some q → zsm L = zsm (L.eraseIdx p) + q.2
  | [], p, q, h => by simp at h
  | a :: t, 0, q, h => by cases h; rw [zsm_cons, List.eraseIdx_cons_zero]; omega
  | a :: t, p + 1, q, h => by rw [zsm_cons, List.eraseIdx_cons_succ, zsm_cons, zsm_erase t p q (by simpa using h)]; omega
def zCC (c n s r : Nat) (mem : Int32) : va_E := .inr (1, [.ref (c + 1), .ref (c + 3), .int (nI n), .int mem, .int (nI s), .int (nI r)])
def zLok (L : zNS) : Prop := (∀ (i : Nat) (q : Nat × Nat), L[i]? = some q → q.1 < 14 ∧ q.2 ≤ 300) ∧ (∀ (i j : Nat) (a b : Nat × Nat), L[i]? = some a → L[j]? = some b → a.1 = b.1 → i = j) ∧ L.length ≤ 14
def zCa (G : zG) (σ : zH) (c : Nat) (L : zNS) (r : Nat) : Prop := ∃ (uf sf : Nat → Int32) (mem : Int32), σ c = some (zCC c L.length (zsm L) r mem) ∧ zInts G σ (c + 1) 14 uf ∧ zInts G σ (c + 3) 14 sf ∧ (∀ (i : Nat) (q : Nat × Nat), L[i]? = some q → uf i = nI q.1 ∧ sf i = nI q.2) ∧ (∀ j, j < 14 → (bt mem j = true ↔ ∃ (i : Nat) (q : Nat × Nat), L[i]? = some q ∧ q.1 = j)) ∧ zLok L ∧ r ≤ 1000
theorem zCa.fr {G : zG} {σ σ' : zH} {c r : Nat} {L : zNS} (h : zCa G σ c L r) (hf : ∀ b, c ≤ b → b < c + 5 → σ' b = σ b) : zCa G σ' c L r := by
  obtain ⟨uf, sf, mem, h1, h2, h3, h4⟩ := h
  exact ⟨uf, sf, mem, (hf c (by omega) (by omega)).trans h1, h2.fr fun b a d => hf b (by omega) (by omega), h3.fr fun b a d => hf b (by omega) (by omega), h4⟩
theorem zCa.c {G : zG} {σ : zH} {c r : Nat} {L : zNS} (h : zCa G σ c L r) : ∃ mem, σ c = some (zCC c L.length (zsm L) r mem) := by
  obtain ⟨uf, sf, mem, h1, _⟩ := h
  exact ⟨mem, h1⟩
theorem zLok.sm {L : zNS} (h : zLok L) : zsm L ≤ 4200 := by
  have := zsm_le fun i q a => (h.1 i q a).2
  have := h.2.2
  omega
def zmem (L : zNS) (j : Nat) : Prop := ∃ (i : Nat) (q : Nat × Nat), L[i]? = some q ∧ q.1 = j
set_option maxRecDepth 100000 in
theorem c_X0_holds {G : zG} {σ : zH} {nx c r j : Nat} {L : zNS} (h : zCa G σ c L r) (hj : j < 14) : zM G yX0_holds kX0_holds [.ref c, .int (nI j)] σ nx (fun v σ' nx' => (∃ b : Bool, v = some (.int (if b then 1 else 0)) ∧ (b = true ↔ zmem L j)) ∧ σ' = σ ∧ nx' = nx) := by
  refine zM.of (ls := [some (.ref c), some (.int (nI j))]) (by decide +kernel) ⟨rfl, rfl, rfl⟩ (Nat.le_of_ble_eq_true rfl) (fun _ h => h) ?_
  obtain ⟨uf, sf, mem, h1, h2, h3, h4, h5, h6, h7⟩ := h
  refine z_aload_n dX0_holds_0 rfl ?_
  refine z_getf dX0_holds_1 fl_X0_23 h1 rfl ?_
  refine z_iload_n dX0_holds_4 rfl ?_
  refine z_callS dX0_holds_5 cv_X0_27 (c_X11_has hj) rfl rfl ⟨(Nat.le_of_ble_eq_true rfl), (Nat.le_of_ble_eq_true rfl)⟩ (Nat.le_of_ble_eq_true rfl) (Nat.le_of_ble_eq_true rfl) (Nat.le_of_ble_eq_true rfl) (fun v σ1 nx1 hx1 hq1 => ?_)
  obtain ⟨rfl, rfl, rfl⟩ := hq1
  have e := h5 j hj
  cases hb : bt mem j with
  | true =>
    rw [if_pos rfl]
    exact z_zret dX0_holds_8 rfl rfl (Nat.le_of_ble_eq_true rfl) (Nat.le_of_ble_eq_true rfl) ⟨⟨true, rfl, ⟨fun _ => e.mp hb, fun _ => rfl⟩⟩, rfl, rfl⟩
  | false =>
    rw [if_neg (by decide)]
    exact z_zret dX0_holds_8 rfl rfl (Nat.le_of_ble_eq_true rfl) (Nat.le_of_ble_eq_true rfl) ⟨⟨false, rfl, ⟨fun q => (nomatch q), fun q => absurd (e.mpr q) (by rw [hb]; decide)⟩⟩, rfl, rfl⟩
set_option maxRecDepth 100000 in
theorem c_X0_empty {G : zG} {σ : zH} {nx c r : Nat} {L : zNS} (h : zCa G σ c L r) : zM G yX0_empty kX0_empty [.ref c] σ nx (fun v σ' nx' => v = none ∧ zCa G σ' c [] r ∧ (∀ x, x ≠ c → σ' x = σ x) ∧ nx' = nx) := by
  refine zM.of (ls := [some (.ref c)]) (by decide +kernel) ⟨rfl, rfl, rfl⟩ (Nat.le_of_ble_eq_true rfl) (fun _ h => h) ?_
  obtain ⟨uf, sf, mem, h1, h2, h3, h4, h5, h6, h7⟩ := h
  refine z_aload_n dX0_empty_0 rfl ?_
  refine z_iconst (v := 0) dX0_empty_1 (by decide) ?_
  refine z_putf dX0_empty_2 fp_X0_31 h1 rfl rfl (Nat.le_of_ble_eq_true rfl) ?_
  refine z_aload_n dX0_empty_5 rfl ?_
  refine z_iconst (v := 0) dX0_empty_6 (by decide) ?_
  refine z_putf dX0_empty_7 fp_X0_23 (zu_eq _ _ _) rfl rfl (Nat.le_of_ble_eq_true rfl) ?_
  refine z_aload_n dX0_empty_10 rfl ?_
  refine z_iconst (v := 0) dX0_empty_11 (by decide) ?_
  refine z_putf dX0_empty_12 fp_X0_34 (zu_eq _ _ _) rfl rfl (Nat.le_of_ble_eq_true rfl) ?_
  exact z_vret dX0_empty_15 rfl (Nat.le_of_ble_eq_true rfl) (Nat.le_of_ble_eq_true rfl) ⟨rfl, ⟨uf, sf, 0, zu_eq _ _ _, h2.fr fun b a d => by rw [zu_ne (by omega), zu_ne (by omega), zu_ne (by omega)], h3.fr fun b a d => by rw [zu_ne (by omega), zu_ne (by omega), zu_ne (by omega)], fun i q z => by simp at z, fun j hj => by rw [b_0]; exact ⟨fun z => (nomatch z), fun ⟨i, q, z, _⟩ => by simp at z⟩, ⟨fun i q z => by simp at z, fun i j a b z => by simp at z, by decide⟩, h7⟩, fun x hx => by rw [zu_ne hx, zu_ne hx, zu_ne hx], rfl⟩
theorem zLok_snoc {L : zNS} {j s : Nat} (h : zLok L) (hj : j < 14) (hs : s ≤ 300) (hn : ¬ zmem L j) (hl : L.length < 14) : zLok (L ++ [(j, s)]) := by
  obtain ⟨h1, h2, h3⟩ := h
  have key : ∀ (i : Nat) (q : Nat × Nat), (L ++ [(j, s)])[i]? = some q → (i < L.length ∧ L[i]? = some q) ∨ (i = L.length ∧ q = (j, s)) := by
    intro i q z
    by_cases hi : i < L.length
    · rw [List.getElem?_append_left hi] at z; exact Or.inl ⟨hi, z⟩
    · have := zR_lt z
      rw [List.length_append] at this
      have e : i = L.length := by simp at this; omega
      subst e
      rw [List.getElem?_append_right (Nat.le_refl _), Nat.sub_self] at z
      cases z
      exact Or.inr ⟨rfl, rfl⟩
  refine ⟨fun i q z => ?_, fun i k a b za zb e => ?_, by rw [List.length_append]; exact hl⟩
  · rcases key i q z with ⟨-, z⟩ | ⟨-, rfl⟩
    · exact h1 i q z
    · exact ⟨hj, hs⟩
  · rcases key i a za with ⟨-, y⟩ | ⟨y, rfl⟩ <;> rcases key k b zb with ⟨-, w⟩ | ⟨w, rfl⟩
    · exact h2 i k a b y w e
    · exact absurd ⟨i, a, y, e⟩ hn
    · exact absurd ⟨k, b, w, e.symm⟩ hn
    · omega
set_option maxRecDepth 100000 in
theorem c_X0_append {G : zG} {σ : zH} {nx c r j s : Nat} {L : zNS} (h : zCa G σ c L r) (hj : j < 14) (hs : s ≤ 300) (hn : ¬ zmem L j) (hl : L.length < 14) : zM G yX0_append kX0_append [.ref c, .int (nI j), .int (nI s)] σ nx (fun v σ' nx' => v = none ∧ zCa G σ' c (L ++ [(j, s)]) r ∧ zFr σ σ' c 5 ∧ nx' = nx) := by
  refine zM.of (ls := [some (.ref c), some (.int (nI j)), some (.int (nI s))]) (by decide +kernel) ⟨rfl, rfl, rfl⟩ (Nat.le_of_ble_eq_true rfl) (fun _ h => h) ?_
  obtain ⟨uf, sf, mem, h1, h2, h3, h4, h5, h6, h7⟩ := h
  have h8 := h6.sm
  refine z_aload_n dX0_append_0 rfl ?_
  refine z_getf dX0_append_1 fl_X0_14 h1 rfl ?_
  refine z_aload_n dX0_append_4 rfl ?_
  refine z_getf dX0_append_5 fl_X0_31 h1 rfl ?_
  refine z_iload_n dX0_append_8 rfl ?_
  refine z_callV dX0_append_9 cv_X0_54 (c_X4_set h2 (by omega)) rfl h2.1 rfl rfl ⟨(Nat.le_of_ble_eq_true rfl), (Nat.le_of_ble_eq_true rfl)⟩ (Nat.le_of_ble_eq_true rfl) (Nat.le_of_ble_eq_true rfl) (Nat.le_of_ble_eq_true rfl) (fun v σ1 nx1 hx1 hq1 => ?_)
  obtain ⟨rfl, g1, g2, rfl⟩ := hq1
  have k1 := (g2 c (by omega)).trans h1
  have k3 := h3.fr (σ' := σ1) fun b a d => g2 b (by omega)
  refine z_aload_n dX0_append_12 rfl ?_
  refine z_getf dX0_append_13 fl_X0_20 k1 rfl ?_
  refine z_aload_n dX0_append_16 rfl ?_
  refine z_getf dX0_append_17 fl_X0_31 k1 rfl ?_
  refine z_iload_n dX0_append_20 rfl ?_
  refine z_callV dX0_append_21 cv_X0_54 (c_X4_set k3 (by omega)) rfl k3.1 rfl rfl ⟨(Nat.le_of_ble_eq_true rfl), (Nat.le_of_ble_eq_true rfl)⟩ (Nat.le_of_ble_eq_true rfl) (Nat.le_of_ble_eq_true rfl) (Nat.le_of_ble_eq_true rfl) (fun v σ2 nx2 hx2 hq2 => ?_)
  obtain ⟨rfl, g3, g4, rfl⟩ := hq2
  have k2 := (g4 c (by omega)).trans k1
  rw [zwr_nI (by omega) (by omega)] at g1 g3
  refine z_aload_n dX0_append_24 rfl ?_
  refine z_aload_n dX0_append_25 rfl ?_
  refine z_getf dX0_append_26 fl_X0_23 k2 rfl ?_
  refine z_iload_n dX0_append_29 rfl ?_
  refine z_callS dX0_append_30 cv_X0_57 (c_X11_with hj) rfl rfl ⟨(Nat.le_of_ble_eq_true rfl), (Nat.le_of_ble_eq_true rfl)⟩ (Nat.le_of_ble_eq_true rfl) (Nat.le_of_ble_eq_true rfl) (Nat.le_of_ble_eq_true rfl) (fun v σ3 nx3 hx3 hq3 => ?_)
  obtain ⟨rfl, rfl, rfl⟩ := hq3
  refine z_putf dX0_append_33 fp_X0_23 k2 rfl rfl (Nat.le_of_ble_eq_true rfl) ?_
  refine z_aload_n dX0_append_36 rfl ?_
  refine z_dup dX0_append_37 rfl ?_
  refine z_getf dX0_append_38 fl_X0_34 (zu_eq _ _ _) rfl ?_
  refine z_iload_n dX0_append_41 rfl ?_
  refine z_iadd dX0_append_42 ?_
  refine z_putf dX0_append_43 fp_X0_34 (zu_eq _ _ _) rfl rfl (Nat.le_of_ble_eq_true rfl) ?_
  refine z_aload_n dX0_append_46 rfl ?_
  refine z_dup dX0_append_47 rfl ?_
  refine z_getf dX0_append_48 fl_X0_31 (zu_eq _ _ _) rfl ?_
  refine z_iconst (v := 1) dX0_append_51 (by decide) ?_
  refine z_iadd dX0_append_52 ?_
  refine z_putf dX0_append_53 fp_X0_31 (zu_eq _ _ _) rfl rfl (Nat.le_of_ble_eq_true rfl) ?_
  refine z_vret dX0_append_56 rfl (Nat.le_of_ble_eq_true rfl) (Nat.le_of_ble_eq_true rfl) ⟨rfl, ⟨_, _, zwith mem j, ?_, (g1.fr fun b a d => g4 b (by omega)).fr fun b a d => by rw [zu_ne (by omega), zu_ne (by omega), zu_ne (by omega)], g3.fr fun b a d => by rw [zu_ne (by omega), zu_ne (by omega), zu_ne (by omega)], fun i q z => ?_, fun i hi => ?_, zLok_snoc h6 hj hs hn hl, h7⟩, fun b hb => by rw [zu_ne (by omega), zu_ne (by omega), zu_ne (by omega), g4 b (by omega), g2 b (by omega)], rfl⟩
  · rw [zu_eq, nI_1, List.length_append, zsm_app, nI_add]
    rfl
  · by_cases hi : i < L.length
    · rw [List.getElem?_append_left hi] at z
      rw [pk_un (by omega), pk_un (by omega)]
      exact h4 i q z
    · have := zR_lt z
      rw [List.length_append] at this
      have e : i = L.length := by simp at this; omega
      subst e
      rw [List.getElem?_append_right (Nat.le_refl _), Nat.sub_self] at z
      cases z
      exact ⟨pk_us, pk_us⟩
  · rw [bt_with mem hj (by omega), Bool.or_eq_true, decide_eq_true_eq, h5 i hi]
    constructor
    · rintro (⟨a, q, z, e⟩ | e)
      · exact ⟨a, q, by rw [List.getElem?_append_left (zR_lt z)]; exact z, e⟩
      · exact ⟨L.length, (j, s), by simp, e.symm⟩
    · rintro ⟨a, q, z, e⟩
      by_cases ha : a < L.length
      · rw [List.getElem?_append_left ha] at z
        exact Or.inl ⟨a, q, z, e⟩
      · have := zR_lt z
        rw [List.length_append] at this
        have e2 : a = L.length := by simp at this; omega
        subst e2
        rw [List.getElem?_append_right (Nat.le_refl _), Nat.sub_self] at z
        cases z
        exact Or.inr e.symm
theorem zer_at {L : zNS} {p i : Nat} : (L.eraseIdx p)[i]? = if i < p then L[i]? else L[i + 1]? := List.getElem?_eraseIdx ..
theorem zLok_erase {L : zNS} {p : Nat} (h : zLok L) : zLok (L.eraseIdx p) := by
  obtain ⟨h1, h2, h3⟩ := h
  refine ⟨fun i q z => ?_, fun i k a b za zb e => ?_, by have := List.length_eraseIdx_le L p; omega⟩
  · rw [zer_at] at z
    by_cases hi : i < p
    · rw [if_pos hi] at z; exact h1 _ q z
    · rw [if_neg hi] at z; exact h1 _ q z
  · rw [zer_at] at za zb
    by_cases hi : i < p <;> by_cases hk : k < p
    · rw [if_pos hi] at za; rw [if_pos hk] at zb; exact h2 i k a b za zb e
    · rw [if_pos hi] at za; rw [if_neg hk] at zb; have := h2 i (k + 1) a b za zb e; omega
    · rw [if_neg hi] at za; rw [if_pos hk] at zb; have := h2 (i + 1) k a b za zb e; omega
    · rw [if_neg hi] at za; rw [if_neg hk] at zb; have := h2 (i + 1) (k + 1) a b za zb e; omega
/-- an array shifted down from p on, as far as t -/
def zdn (f : Nat → Int32) (p t : Nat) : Nat → Int32 := fun i => if p ≤ i ∧ i < t then f (i + 1) else f i
theorem zdn_0 (f : Nat → Int32) (p : Nat) : zdn f p p = f := by
  funext i
  simp only [zdn]
  rw [if_neg (by omega)]
theorem zdn_s {f : Nat → Int32} {p t : Nat} (h : p ≤ t) : upd (zdn f p t) t (zdn f p t (t + 1)) = zdn f p (t + 1) := by
  funext i
  by_cases hi : i = t
  · subst hi
    rw [pk_us]
    simp only [zdn]
    rw [if_neg (by omega), if_pos (by omega)]
  · rw [pk_un hi]
    simp only [zdn]
    by_cases h1 : p ≤ i ∧ i < t
    · rw [if_pos h1, if_pos (by omega)]
    · rw [if_neg h1, if_neg (by omega)]
set_option maxRecDepth 100000 in
theorem c_X0_remove {G : zG} {σ : zH} {nx c r p : Nat} {L : zNS} (h : zCa G σ c L r) (hp : p < L.length) : zM G yX0_remove kX0_remove [.ref c, .int (nI p)] σ nx (fun v σ' nx' => v = none ∧ zCa G σ' c (L.eraseIdx p) r ∧ zFr σ σ' c 5 ∧ nx' = nx) := by
  refine zM.of2 (ls := [some (.ref c), some (.int (nI p)), none]) (by decide +kernel) ⟨rfl, rfl, rfl⟩ (Nat.le_of_ble_eq_true rfl) (fun _ h => h) (fun Q hQ => ?_)
  obtain ⟨uf, sf, mem, h1, h2, h3, h4, h5, h6, h7⟩ := h
  have h14 := h6.2.2
  have hg : L[p]? = some (L[p]'hp) := List.getElem?_eq_getElem _
  generalize L[p]'hp = w at hg
  have hw := h6.1 p w hg
  have hw4 := h4 p w hg
  have hsm := zsm_erase L p w hg
  have hsm2 := h6.sm
  have hle : (L.eraseIdx p).length = L.length - 1 := List.length_eraseIdx_of_lt hp
  obtain ⟨m2, hm2⟩ : ∃ z, z = mem &&& (zwith 0 w.1 ^^^ (-1)) := ⟨_, rfl⟩
  have loop : ∀ d t : Nat, t + d = L.length - 1 → p ≤ t → ∀ σ1 : zH, zFr σ σ1 c 5 → σ1 c = some (zCC c (L.length - 1) (zsm (L.eraseIdx p)) r m2) → zInts G σ1 (c + 1) 14 (zdn uf p t) → zInts G σ1 (c + 3) 14 (zdn sf p t) →
      zWP G kX0_remove (zFM G kX0_remove.2.2.2.1 Q) 52 [some (.ref c), some (.int (nI p)), some (.int (nI t))] [] σ1 nx 0 0 := by
    intro d
    induction d with
    | zero =>
      intro t ht hpt σ1 f1 a1 a2 a3
      refine z_iload_n dX0_remove_52 rfl ?_
      refine z_aload_n dX0_remove_53 rfl ?_
      refine z_getf dX0_remove_54 fl_X0_31 a1 rfl ?_
      refine z_icmp_ge (tgt := 102) dX0_remove_57 (by decide) (fun _ => ?_) (fun q => absurd (nI_le (by omega) (by omega)) q)
      refine z_vret dX0_remove_102 rfl (Nat.le_of_ble_eq_true rfl) (Nat.le_of_ble_eq_true rfl) (hQ _ _ _ ⟨rfl, ⟨_, _, m2, by rw [hle]; exact a1, a2, a3, fun i q z => ?_, fun j hj => ?_, zLok_erase h6, h7⟩, f1, rfl⟩)
      · have hi := zR_lt z
        rw [hle] at hi
        rw [zer_at] at z
        simp only [zdn]
        by_cases q1 : i < p
        · rw [if_pos q1] at z; rw [if_neg (by omega), if_neg (by omega)]; exact h4 i q z
        · rw [if_neg q1] at z; rw [if_pos (by omega), if_pos (by omega)]; exact h4 (i + 1) q z
      · rw [hm2, bt_mask mem hw.1 (by omega), Bool.and_eq_true, h5 j hj]
        simp only [Bool.not_eq_true', decide_eq_false_iff_not]
        constructor
        · rintro ⟨⟨i, q, z, e⟩, hne⟩
          have hip : i ≠ p := fun e2 => by rw [e2, hg] at z; cases z; exact hne e.symm
          by_cases q1 : i < p
          · exact ⟨i, q, by rw [zer_at, if_pos q1]; exact z, e⟩
          · exact ⟨i - 1, q, by rw [zer_at, if_neg (by omega), show i - 1 + 1 = i by omega]; exact z, e⟩
        · rintro ⟨i, q, z, e⟩
          rw [zer_at] at z
          by_cases q1 : i < p
          · rw [if_pos q1] at z; exact ⟨⟨i, q, z, e⟩, fun e2 => by have := h6.2.1 i p q w z hg (e.trans e2); omega⟩
          · rw [if_neg q1] at z; exact ⟨⟨i + 1, q, z, e⟩, fun e2 => by have := h6.2.1 (i + 1) p q w z hg (e.trans e2); omega⟩
    | succ d ih =>
      intro t ht hpt σ1 f1 a1 a2 a3
      refine z_iload_n dX0_remove_52 rfl ?_
      refine z_aload_n dX0_remove_53 rfl ?_
      refine z_getf dX0_remove_54 fl_X0_31 a1 rfl ?_
      refine z_icmp_ge (tgt := 102) dX0_remove_57 (by decide) (fun q => absurd q (nI_ge (show t < L.length - 1 by omega) (by omega))) (fun _ => ?_)
      refine z_aload_n dX0_remove_60 rfl ?_
      refine z_getf dX0_remove_61 fl_X0_14 a1 rfl ?_
      refine z_iload_n dX0_remove_64 rfl ?_
      refine z_aload_n dX0_remove_65 rfl ?_
      refine z_getf dX0_remove_66 fl_X0_14 a1 rfl ?_
      refine z_iload_n dX0_remove_69 rfl ?_
      refine z_iconst (v := 1) dX0_remove_70 (by decide) ?_
      refine z_iadd dX0_remove_71 ?_
      rw [nI_1]
      refine z_callV dX0_remove_72 cv_X0_37 (c_X4_at a2 (by omega)) rfl a2.1 rfl rfl ⟨(Nat.le_of_ble_eq_true rfl), (Nat.le_of_ble_eq_true rfl)⟩ (Nat.le_of_ble_eq_true rfl) (Nat.le_of_ble_eq_true rfl) (Nat.le_of_ble_eq_true rfl) (fun v σ2 nx2 hx2 hq2 => ?_)
      obtain ⟨rfl, rfl, rfl⟩ := hq2
      refine z_callV dX0_remove_75 cv_X0_54 (c_X4_set a2 (by omega)) rfl a2.1 rfl rfl ⟨(Nat.le_of_ble_eq_true rfl), (Nat.le_of_ble_eq_true rfl)⟩ (Nat.le_of_ble_eq_true rfl) (Nat.le_of_ble_eq_true rfl) (Nat.le_of_ble_eq_true rfl) (fun v σ3 nx3 hx3 hq3 => ?_)
      obtain ⟨rfl, g1, g2, rfl⟩ := hq3
      rw [zrd_nI (by omega) (by omega), zwr_nI (by omega) (by omega), zdn_s hpt] at g1
      have b1 := (g2 c (by omega)).trans a1
      have b3 := a3.fr (σ' := σ3) fun b a d => g2 b (by omega)
      refine z_aload_n dX0_remove_78 rfl ?_
      refine z_getf dX0_remove_79 fl_X0_20 b1 rfl ?_
      refine z_iload_n dX0_remove_82 rfl ?_
      refine z_aload_n dX0_remove_83 rfl ?_
      refine z_getf dX0_remove_84 fl_X0_20 b1 rfl ?_
      refine z_iload_n dX0_remove_87 rfl ?_
      refine z_iconst (v := 1) dX0_remove_88 (by decide) ?_
      refine z_iadd dX0_remove_89 ?_
      rw [nI_1]
      refine z_callV dX0_remove_90 cv_X0_37 (c_X4_at b3 (by omega)) rfl b3.1 rfl rfl ⟨(Nat.le_of_ble_eq_true rfl), (Nat.le_of_ble_eq_true rfl)⟩ (Nat.le_of_ble_eq_true rfl) (Nat.le_of_ble_eq_true rfl) (Nat.le_of_ble_eq_true rfl) (fun v σ4 nx4 hx4 hq4 => ?_)
      obtain ⟨rfl, rfl, rfl⟩ := hq4
      refine z_callV dX0_remove_93 cv_X0_54 (c_X4_set b3 (by omega)) rfl b3.1 rfl rfl ⟨(Nat.le_of_ble_eq_true rfl), (Nat.le_of_ble_eq_true rfl)⟩ (Nat.le_of_ble_eq_true rfl) (Nat.le_of_ble_eq_true rfl) (Nat.le_of_ble_eq_true rfl) (fun v σ5 nx5 hx5 hq5 => ?_)
      obtain ⟨rfl, g3, g4, rfl⟩ := hq5
      rw [zrd_nI (by omega) (by omega), zwr_nI (by omega) (by omega), zdn_s hpt] at g3
      refine z_inc1 dX0_remove_96 rfl (by decide) ?_
      refine z_goto (tgt := 52) dX0_remove_99 (by decide) ?_
      rw [nI_1]
      exact ih (t + 1) (by omega) (by omega) σ5 (fun b hb => (g4 b (by omega)).trans ((g2 b (by omega)).trans (f1 b hb))) ((g4 c (by omega)).trans b1) (g1.fr fun b a d => g4 b (by omega)) g3
  refine z_aload_n dX0_remove_0 rfl ?_
  refine z_dup dX0_remove_1 rfl ?_
  refine z_getf dX0_remove_2 fl_X0_23 h1 rfl ?_
  refine z_iconst (v := 0) dX0_remove_5 (by decide) ?_
  refine z_aload_n dX0_remove_6 rfl ?_
  refine z_getf dX0_remove_7 fl_X0_14 h1 rfl ?_
  refine z_iload_n dX0_remove_10 rfl ?_
  refine z_callV dX0_remove_11 cv_X0_37 (c_X4_at h2 (by omega)) rfl h2.1 rfl rfl ⟨(Nat.le_of_ble_eq_true rfl), (Nat.le_of_ble_eq_true rfl)⟩ (Nat.le_of_ble_eq_true rfl) (Nat.le_of_ble_eq_true rfl) (Nat.le_of_ble_eq_true rfl) (fun v σ2 nx2 hx2 hq2 => ?_)
  obtain ⟨rfl, rfl, rfl⟩ := hq2
  rw [zrd_nI (by omega) (by omega), hw4.1]
  refine z_callS dX0_remove_14 cv_X0_57 (c_X11_with hw.1) rfl rfl ⟨(Nat.le_of_ble_eq_true rfl), (Nat.le_of_ble_eq_true rfl)⟩ (Nat.le_of_ble_eq_true rfl) (Nat.le_of_ble_eq_true rfl) (Nat.le_of_ble_eq_true rfl) (fun v σ3 nx3 hx3 hq3 => ?_)
  obtain ⟨rfl, rfl, rfl⟩ := hq3
  refine z_iconst (v := (-1)) dX0_remove_17 (by decide) ?_
  refine z_ixor dX0_remove_18 ?_
  refine z_iand dX0_remove_19 ?_
  refine z_putf dX0_remove_20 fp_X0_23 h1 rfl rfl (Nat.le_of_ble_eq_true rfl) ?_
  rw [← hm2]
  have k3 : zInts G (zu σ3 c (.inr (1, [Value.ref (c + 1), .ref (c + 3), .int (nI L.length), .int mem, .int (nI (zsm L)), .int (nI r)].set 3 (.int m2)))) (c + 3) 14 sf := h3.fr fun b a d => zu_ne (by omega)
  refine z_aload_n dX0_remove_23 rfl ?_
  refine z_dup dX0_remove_24 rfl ?_
  refine z_getf dX0_remove_25 fl_X0_34 (zu_eq _ _ _) rfl ?_
  refine z_aload_n dX0_remove_28 rfl ?_
  refine z_getf dX0_remove_29 fl_X0_20 (zu_eq _ _ _) rfl ?_
  refine z_iload_n dX0_remove_32 rfl ?_
  refine z_callV dX0_remove_33 cv_X0_37 (c_X4_at k3 (by omega)) rfl k3.1 rfl rfl ⟨Nat.le_of_ble_eq_true rfl, Nat.le_of_ble_eq_true rfl⟩ (Nat.le_of_ble_eq_true rfl) (Nat.le_of_ble_eq_true rfl) (Nat.le_of_ble_eq_true rfl) (fun v σ4 nx4 hx4 hq4 => ?_)
  obtain ⟨rfl, rfl, rfl⟩ := hq4
  rw [zrd_nI (by omega) (by omega), hw4.2]
  refine z_isub dX0_remove_36 ?_
  rw [pk_sub (by omega), show zsm L - w.2 = zsm (L.eraseIdx p) by omega]
  refine z_putf dX0_remove_37 fp_X0_34 (zu_eq _ _ _) rfl rfl (Nat.le_of_ble_eq_true rfl) ?_
  refine z_aload_n dX0_remove_40 rfl ?_
  refine z_dup dX0_remove_41 rfl ?_
  refine z_getf dX0_remove_42 fl_X0_31 (zu_eq _ _ _) rfl ?_
  refine z_iconst (v := 1) dX0_remove_45 (by decide) ?_
  refine z_isub dX0_remove_46 ?_
  have e1 : nI L.length - 1 = nI (L.length - 1) := pk_sub (b := 1) (by omega)
  rw [e1]
  refine z_putf dX0_remove_47 fp_X0_31 (zu_eq _ _ _) rfl rfl (Nat.le_of_ble_eq_true rfl) ?_
  refine z_iload_n dX0_remove_50 rfl ?_
  refine z_istore_n dX0_remove_51 (by decide) ?_
  exact loop (L.length - 1 - p) p (by omega) (Nat.le_refl _) _ (fun b hb => by rw [zu_ne (by omega), zu_ne (by omega), zu_ne (by omega)]) (zu_eq _ _ _) (by rw [zdn_0]; exact h2.fr fun b a d => by rw [zu_ne (by omega), zu_ne (by omega), zu_ne (by omega)]) (by rw [zdn_0]; exact h3.fr fun b a d => by rw [zu_ne (by omega), zu_ne (by omega), zu_ne (by omega)])
theorem zpig : ∀ (n : Nat) (L : List Nat), L.Nodup → (∀ x, x ∈ L → x < n) → L.length ≤ n
  | 0, L, _, h => by cases L with | nil => exact Nat.le_refl _ | cons a t => exact absurd (h a List.mem_cons_self) (Nat.not_lt_zero _)
  | n + 1, L, hn, h => by
    have h1 := zpig n (L.erase n) (hn.erase n) fun x hx => by
      have h2 := (hn.mem_erase_iff).mp hx
      have := h x h2.2
      have := h2.1
      omega
    by_cases q : n ∈ L
    · rw [List.length_erase_of_mem q] at h1; omega
    · rw [List.erase_of_not_mem q] at h1; omega
theorem zLok_room {L : zNS} {j : Nat} (h : zLok L) (hj : j < 14) (hn : ¬ zmem L j) : L.length < 14 := by
  obtain ⟨h1, h2, h3⟩ := h
  have nd : ((L.map fun q => q.1) ++ [j]).Nodup := by
    rw [List.nodup_append]
    refine ⟨?_, by simp, ?_⟩
    · rw [List.Nodup, List.pairwise_iff_getElem]
      intro i k hi hk hik e
      rw [List.length_map] at hi hk
      rw [List.getElem_map, List.getElem_map] at e
      have := h2 i k _ _ (List.getElem?_eq_getElem hi) (List.getElem?_eq_getElem hk) e
      omega
    · intro a ha b hb e
      rw [List.mem_singleton] at hb
      subst hb
      subst e
      rw [List.mem_map] at ha
      obtain ⟨q, hq, e⟩ := ha
      obtain ⟨i, hi⟩ := List.mem_iff_getElem?.mp hq
      exact hn ⟨i, q, hi, e⟩
  have := zpig 14 _ nd fun x hx => by
    rw [List.mem_append, List.mem_singleton, List.mem_map] at hx
    rcases hx with ⟨q, hq, e⟩ | e
    · obtain ⟨i, hi⟩ := List.mem_iff_getElem?.mp hq
      have := (h1 i q hi).1
      omega
    · omega
  rw [List.length_append, List.length_map, List.length_singleton] at this
  omega
/-- a number moved behind all others -/
def zlat (L : zNS) (j : Nat) : zNS := L.filter (fun q => decide (q.1 ≠ j)) ++ L.filter (fun q => decide (q.1 = j))
theorem zflt_ne {L : zNS} {j : Nat} (h : ¬ zmem L j) : L.filter (fun q => decide (q.1 ≠ j)) = L ∧ L.filter (fun q => decide (q.1 = j)) = [] := by
  refine ⟨List.filter_eq_self.mpr fun q hq => ?_, List.filter_eq_nil_iff.mpr fun q hq => ?_⟩ <;> obtain ⟨i, hi⟩ := List.mem_iff_getElem?.mp hq
  · exact decide_eq_true fun e => h ⟨i, q, hi, e⟩
  · rw [decide_eq_true_eq]; exact fun e => h ⟨i, q, hi, e⟩
theorem zflt_at : ∀ {L : zNS} {p j s : Nat}, L[p]? = some (j, s) → (∀ (i k : Nat) (a b : Nat × Nat), L[i]? = some a → L[k]? = some b → a.1 = b.1 → i = k) → L.filter (fun q => decide (q.1 ≠ j)) = L.eraseIdx p ∧ L.filter (fun q => decide (q.1 = j)) = [(j, s)]
  | [], p, j, s, h, _ => by simp at h
  | a :: t, 0, j, s, h, hu => by
    cases h
    have hn : ¬ zmem t j := fun ⟨i, q, hi, e⟩ => by
      have := hu 0 (i + 1) (j, s) q rfl (by simpa using hi) e.symm
      omega
    obtain ⟨e1, e2⟩ := zflt_ne hn
    rw [List.filter_cons_of_neg (by simp), List.filter_cons_of_pos (by simp), e1, e2]
    exact ⟨rfl, rfl⟩
  | a :: t, p + 1, j, s, h, hu => by
    have hn : a.1 ≠ j := fun e => by
      have := hu 0 (p + 1) a (j, s) rfl h e
      omega
    obtain ⟨e1, e2⟩ := zflt_at (L := t) (p := p) (j := j) (s := s) (by simpa using h) fun i k x y hx hy e => by
      have := hu (i + 1) (k + 1) x y (by simpa using hx) (by simpa using hy) e
      omega
    rw [List.filter_cons_of_pos (by simpa using hn), List.filter_cons_of_neg (by simpa using hn), e1, e2]
    exact ⟨rfl, rfl⟩
theorem zCa.ok {G : zG} {σ : zH} {c r : Nat} {L : zNS} (h : zCa G σ c L r) : zLok L := by obtain ⟨_, _, _, _, _, _, _, _, h, _⟩ := h; exact h
theorem zCa.rm {G : zG} {σ : zH} {c r : Nat} {L : zNS} (h : zCa G σ c L r) : r ≤ 1000 := by obtain ⟨_, _, _, _, _, _, _, _, _, h⟩ := h; exact h
set_option maxRecDepth 100000 in
theorem c_X0_makeLatest {G : zG} {σ : zH} {nx c r j : Nat} {L : zNS} (h : zCa G σ c L r) (hj : j < 14) : zM G yX0_makeLatest kX0_makeLatest [.ref c, .int (nI j)] σ nx (fun v σ' nx' => v = none ∧ zCa G σ' c (zlat L j) r ∧ zFr σ σ' c 5 ∧ nx' = nx) := by
  refine zM.of2 (ls := [some (.ref c), some (.int (nI j)), none, none]) (by decide +kernel) ⟨rfl, rfl, rfl⟩ (Nat.le_of_ble_eq_true rfl) (fun _ h => h) (fun Q hQ => ?_)
  have h6 := h.ok
  have h14 := h6.2.2
  have loop : ∀ d p : Nat, p + d = L.length → (∀ (i : Nat) (q : Nat × Nat), i < p → L[i]? = some q → q.1 ≠ j) →
      zWP G kX0_makeLatest (zFM G kX0_makeLatest.2.2.2.1 Q) 2 [some (.ref c), some (.int (nI j)), some (.int (nI p)), none] [] σ nx 0 0 := by
    intro d
    induction d with
    | zero =>
      intro p hp hb
      obtain ⟨uf, sf, mem, h1, h2, h3, h4, h5⟩ := h
      refine z_iload_n dX0_makeLatest_2 rfl ?_
      refine z_aload_n dX0_makeLatest_3 rfl ?_
      refine z_getf dX0_makeLatest_4 fl_X0_31 h1 rfl ?_
      refine z_icmp_ge (tgt := 49) dX0_makeLatest_7 (by decide) (fun _ => ?_) (fun q => absurd (nI_le (by omega) (by omega)) q)
      obtain ⟨e1, e2⟩ := zflt_ne (L := L) (j := j) fun ⟨i, q, z, e⟩ => hb i q (by have := zR_lt z; omega) z e
      exact z_vret dX0_makeLatest_49 rfl (Nat.le_of_ble_eq_true rfl) (Nat.le_of_ble_eq_true rfl) (hQ _ _ _ ⟨rfl, by rw [zlat, e1, e2, List.append_nil]; exact ⟨uf, sf, mem, h1, h2, h3, h4, h5⟩, fun _ _ => rfl, rfl⟩)
    | succ d ih =>
      intro p hp hb
      have hg : L[p]? = some (L[p]'(by omega)) := List.getElem?_eq_getElem _
      generalize L[p]'(by omega) = w at hg
      have h0 := h
      obtain ⟨uf, sf, mem, h1, h2, h3, h4, h5⟩ := h
      have hw := h6.1 p w hg
      have hw4 := h4 p w hg
      refine z_iload_n dX0_makeLatest_2 rfl ?_
      refine z_aload_n dX0_makeLatest_3 rfl ?_
      refine z_getf dX0_makeLatest_4 fl_X0_31 h1 rfl ?_
      refine z_icmp_ge (tgt := 49) dX0_makeLatest_7 (by decide) (fun q => absurd q (nI_ge (show p < L.length by omega) (by omega))) (fun _ => ?_)
      refine z_aload_n dX0_makeLatest_10 rfl ?_
      refine z_getf dX0_makeLatest_11 fl_X0_14 h1 rfl ?_
      refine z_iload_n dX0_makeLatest_14 rfl ?_
      refine z_callV dX0_makeLatest_15 cv_X0_37 (c_X4_at h2 (by omega)) rfl h2.1 rfl rfl ⟨(Nat.le_of_ble_eq_true rfl), (Nat.le_of_ble_eq_true rfl)⟩ (Nat.le_of_ble_eq_true rfl) (Nat.le_of_ble_eq_true rfl) (Nat.le_of_ble_eq_true rfl) (fun v σ2 nx2 hx2 hq2 => ?_)
      obtain ⟨rfl, rfl, rfl⟩ := hq2
      rw [zrd_nI (by omega) (by omega), hw4.1]
      refine z_iload_n dX0_makeLatest_18 rfl ?_
      by_cases e : w.1 = j
      · refine z_icmp_ne (tgt := 43) dX0_makeLatest_19 (by decide) (fun q => absurd ((by rw [e])) q) (fun _ => ?_)
        refine z_aload_n dX0_makeLatest_22 rfl ?_
        refine z_getf dX0_makeLatest_23 fl_X0_20 h1 rfl ?_
        refine z_iload_n dX0_makeLatest_26 rfl ?_
        refine z_callV dX0_makeLatest_27 cv_X0_37 (c_X4_at h3 (by omega)) rfl h3.1 rfl rfl ⟨(Nat.le_of_ble_eq_true rfl), (Nat.le_of_ble_eq_true rfl)⟩ (Nat.le_of_ble_eq_true rfl) (Nat.le_of_ble_eq_true rfl) (Nat.le_of_ble_eq_true rfl) (fun v σ2 nx2 hx2 hq2 => ?_)
        obtain ⟨rfl, rfl, rfl⟩ := hq2
        rw [zrd_nI (by omega) (by omega), hw4.2]
        refine z_istore_n dX0_makeLatest_30 (by decide) ?_
        refine z_aload_n dX0_makeLatest_31 rfl ?_
        refine z_iload_n dX0_makeLatest_32 rfl ?_
        refine z_callV dX0_makeLatest_33 cv_X0_41 (c_X0_remove h0 (show p < L.length by omega)) rfl h1 rfl rfl ⟨(Nat.le_of_ble_eq_true rfl), (Nat.le_of_ble_eq_true rfl)⟩ (Nat.le_of_ble_eq_true rfl) (Nat.le_of_ble_eq_true rfl) (Nat.le_of_ble_eq_true rfl) (fun v σ3 nx3 hx3 hq3 => ?_)
        obtain ⟨rfl, k1, k2, rfl⟩ := hq3
        obtain ⟨m3, k3⟩ := k1.c
        obtain ⟨e1, e2⟩ := zflt_at (L := L) (p := p) (j := j) (s := w.2) (by rw [hg, ← e]) h6.2.1
        have hn : ¬ zmem (L.eraseIdx p) j := by
          rw [← e1]
          rintro ⟨i, q, z, e3⟩
          have := List.mem_of_getElem? z
          rw [List.mem_filter] at this
          exact absurd e3 (of_decide_eq_true this.2)
        refine z_aload_n dX0_makeLatest_36 rfl ?_
        refine z_iload_n dX0_makeLatest_37 rfl ?_
        refine z_iload_n dX0_makeLatest_38 rfl ?_
        refine z_callV dX0_makeLatest_39 cv_X0_44 (c_X0_append k1 hj hw.2 hn (zLok_room k1.ok hj hn)) rfl k3 rfl rfl ⟨(Nat.le_of_ble_eq_true rfl), (Nat.le_of_ble_eq_true rfl)⟩ (Nat.le_of_ble_eq_true rfl) (Nat.le_of_ble_eq_true rfl) (Nat.le_of_ble_eq_true rfl) (fun v σ4 nx4 hx4 hq4 => ?_)
        obtain ⟨rfl, k4, k5, rfl⟩ := hq4
        exact z_vret dX0_makeLatest_42 rfl (Nat.le_of_ble_eq_true rfl) (Nat.le_of_ble_eq_true rfl) (hQ _ _ _ ⟨rfl, by rw [zlat, e1, e2]; exact k4, fun b hb => (k5 b hb).trans (k2 b hb), rfl⟩)
      · refine z_icmp_ne (tgt := 43) dX0_makeLatest_19 (by decide) (fun _ => ?_) (fun q => absurd q ((fun q => e ((nI_eq (by omega) (by omega)).mp q))))
        refine z_inc1 dX0_makeLatest_43 rfl (by decide) ?_
        refine z_goto (tgt := 2) dX0_makeLatest_46 (by decide) ?_
        rw [nI_1]
        refine ih (p + 1) (by omega) fun i q hi z => ?_
        by_cases hip : i = p
        · subst hip; rw [hg] at z; cases z; exact e
        · exact hb i q (by omega) z
  refine z_iconst (v := 0) dX0_makeLatest_0 (by decide) ?_
  refine z_istore_n dX0_makeLatest_1 (by decide) ?_
  exact loop L.length 0 (by omega) fun i q hi => absurd hi (Nat.not_lt_zero _)
/-- nodes leave until there is room for s more rows -/
def zmkr (r s : Nat) : zNS → zNS
  | [] => []
  | q :: t => if zsm (q :: t) + s > r then zmkr r s t else q :: t
theorem zmkr_drop (r s : Nat) : ∀ L : zNS, ∃ n, n ≤ L.length ∧ zmkr r s L = L.drop n
  | [] => ⟨0, Nat.le_refl _, rfl⟩
  | q :: t => by
    by_cases h : zsm (q :: t) + s > r
    · obtain ⟨n, h1, h2⟩ := zmkr_drop r s t
      exact ⟨n + 1, by rw [List.length_cons]; omega, by rw [zmkr, if_pos h, h2]; rfl⟩
    · exact ⟨0, Nat.zero_le _, by rw [zmkr, if_neg h]; rfl⟩
theorem zmkr_nmem {r s j : Nat} {L : zNS} (h : ¬ zmem L j) : ¬ zmem (zmkr r s L) j := by
  obtain ⟨n, -, e⟩ := zmkr_drop r s L
  rw [e]
  rintro ⟨i, q, z, e3⟩
  rw [List.getElem?_drop] at z
  exact h ⟨_, q, z, e3⟩
set_option maxRecDepth 100000 in
theorem c_X0_makeRoomFor {G : zG} {σ : zH} {nx c r s : Nat} {L : zNS} (h : zCa G σ c L r) (hs : s ≤ 300) : zM G yX0_makeRoomFor kX0_makeRoomFor [.ref c, .int (nI s)] σ nx (fun v σ' nx' => v = some (.int (nI (L.length - (zmkr r s L).length))) ∧ zCa G σ' c (zmkr r s L) r ∧ zFr σ σ' c 5 ∧ nx' = nx) := by
  refine zM.of2 (ls := [some (.ref c), some (.int (nI s)), none, none]) (by decide +kernel) ⟨rfl, rfl, rfl⟩ (Nat.le_of_ble_eq_true rfl) (fun _ h => h) (fun Q hQ => ?_)
  have hl14 := h.ok.2.2
  have loop : ∀ (M : zNS) (t : Nat) (σ1 : zH), t + M.length = L.length → zmkr r s M = zmkr r s L → zCa G σ1 c M r → zFr σ σ1 c 5 →
      zWP G kX0_makeRoomFor (zFM G kX0_makeRoomFor.2.2.2.1 Q) 4 [some (.ref c), some (.int (nI s)), some (.int (nI t)), some (.int (nI t))] [] σ1 nx 0 0 := by
    intro M
    induction M with
    | nil =>
      intro t σ1 ht hm k1 k2
      have hd : zmkr r s L = [] := hm.symm
      obtain ⟨m1, k3⟩ := k1.c
      have e : nI (L.length - (zmkr r s L).length) = nI t := by rw [hd, List.length_nil]; rw [List.length_nil] at ht; congr 1; omega
      by_cases h14 : t = 14
      · subst h14
        refine z_iload_n dX0_makeRoomFor_4 rfl ?_
        refine z_bipush (v := 14) dX0_makeRoomFor_5 (by decide) ?_
        refine z_icmp_ge (tgt := 44) dX0_makeRoomFor_7 (by decide) (fun _ => ?_) (fun q => absurd (nI_le (Nat.le_refl 14) (by omega)) q)
        refine z_iload_n dX0_makeRoomFor_44 rfl ?_
        exact z_iret dX0_makeRoomFor_45 rfl (Nat.le_of_ble_eq_true rfl) (Nat.le_of_ble_eq_true rfl) (hQ _ _ _ ⟨by rw [e], by rw [hd]; exact k1, k2, rfl⟩)
      · refine z_iload_n dX0_makeRoomFor_4 rfl ?_
        refine z_bipush (v := 14) dX0_makeRoomFor_5 (by decide) ?_
        refine z_icmp_ge (tgt := 44) dX0_makeRoomFor_7 (by decide) (fun q => absurd q ((show ¬ nI 14 ≤ nI t from nI_ge (by simp at ht; omega) (by omega)))) (fun _ => ?_)
        refine z_aload_n dX0_makeRoomFor_10 rfl ?_
        refine z_getf dX0_makeRoomFor_11 fl_X0_31 k3 rfl ?_
        refine z_if_le (tgt := 44) dX0_makeRoomFor_14 (by decide) (fun _ => ?_) (fun q => absurd ((by decide)) q)
        refine z_iload_n dX0_makeRoomFor_44 rfl ?_
        exact z_iret dX0_makeRoomFor_45 rfl (Nat.le_of_ble_eq_true rfl) (Nat.le_of_ble_eq_true rfl) (hQ _ _ _ ⟨by rw [e], by rw [hd]; exact k1, k2, rfl⟩)
    | cons q M ih =>
      intro t σ1 ht hm k1 k2
      obtain ⟨m1, k3⟩ := k1.c
      have hsm := k1.ok.sm
      have hr := k1.rm
      rw [List.length_cons] at ht
      refine z_iload_n dX0_makeRoomFor_4 rfl ?_
      refine z_bipush (v := 14) dX0_makeRoomFor_5 (by decide) ?_
      refine z_icmp_ge (tgt := 44) dX0_makeRoomFor_7 (by decide) (fun q => absurd q ((show ¬ nI 14 ≤ nI t from nI_ge (by omega) (by omega)))) (fun _ => ?_)
      refine z_aload_n dX0_makeRoomFor_10 rfl ?_
      refine z_getf dX0_makeRoomFor_11 fl_X0_31 k3 rfl ?_
      refine z_if_le (tgt := 44) dX0_makeRoomFor_14 (by decide) (fun q => absurd q ((nI_nle (by rw [List.length_cons]; omega) (by rw [List.length_cons]; omega)))) (fun _ => ?_)
      refine z_aload_n dX0_makeRoomFor_17 rfl ?_
      refine z_getf dX0_makeRoomFor_18 fl_X0_34 k3 rfl ?_
      refine z_iload_n dX0_makeRoomFor_21 rfl ?_
      refine z_iadd dX0_makeRoomFor_22 ?_
      rw [nI_add]
      refine z_aload_n dX0_makeRoomFor_23 rfl ?_
      refine z_getf dX0_makeRoomFor_24 fl_X0_48 k3 rfl ?_
      by_cases hc : zsm (q :: M) + s > r
      · rw [zmkr, if_pos hc] at hm
        refine z_icmp_le (tgt := 44) dX0_makeRoomFor_27 (by decide) (fun q => absurd q ((nI_ge hc (by omega)))) (fun _ => ?_)
        refine z_aload_n dX0_makeRoomFor_30 rfl ?_
        refine z_iconst (v := 0) dX0_makeRoomFor_31 (by decide) ?_
        refine z_callV dX0_makeRoomFor_32 cv_X0_41 (c_X0_remove (p := 0) k1 (by rw [List.length_cons]; omega)) rfl k3 rfl rfl ⟨(Nat.le_of_ble_eq_true rfl), (Nat.le_of_ble_eq_true rfl)⟩ (Nat.le_of_ble_eq_true rfl) (Nat.le_of_ble_eq_true rfl) (Nat.le_of_ble_eq_true rfl) (fun v σ3 nx3 hx3 hq3 => ?_)
        obtain ⟨rfl, k4, k5, rfl⟩ := hq3
        refine z_inc1 dX0_makeRoomFor_35 rfl (by decide) ?_
        refine z_inc1 dX0_makeRoomFor_38 rfl (by decide) ?_
        refine z_goto (tgt := 4) dX0_makeRoomFor_41 (by decide) ?_
        rw [nI_1]
        exact ih (t + 1) σ3 (by omega) hm k4 fun b hb => (k5 b hb).trans (k2 b hb)
      · rw [zmkr, if_neg hc] at hm
        refine z_icmp_le (tgt := 44) dX0_makeRoomFor_27 (by decide) (fun _ => ?_) (fun q => absurd ((nI_le (by omega) (by omega))) q)
        have e : nI (L.length - (zmkr r s L).length) = nI t := by rw [← hm, List.length_cons]; congr 1; omega
        refine z_iload_n dX0_makeRoomFor_44 rfl ?_
        exact z_iret dX0_makeRoomFor_45 rfl (Nat.le_of_ble_eq_true rfl) (Nat.le_of_ble_eq_true rfl) (hQ _ _ _ ⟨by rw [e], by rw [← hm]; exact k1, k2, rfl⟩)
  refine z_iconst (v := 0) dX0_makeRoomFor_0 (by decide) ?_
  refine z_istore_n dX0_makeRoomFor_1 (by decide) ?_
  refine z_iconst (v := 0) dX0_makeRoomFor_2 (by decide) ?_
  refine z_istore_n dX0_makeRoomFor_3 (by decide) ?_
  exact loop L 0 σ (by omega) rfl h fun _ _ => rfl
def zent (r j s : Nat) (L : zNS) : zNS := if s ≤ r then zmkr r s L ++ [(j, s)] else L
set_option maxRecDepth 100000 in
theorem c_X0_enter {G : zG} {σ : zH} {nx c r j s : Nat} {L : zNS} (h : zCa G σ c L r) (hj : j < 14) (hs : s ≤ 300) (hn : ¬ zmem L j) : zM G yX0_enter kX0_enter [.ref c, .int (nI j), .int (nI s)] σ nx (fun v σ' nx' => v = none ∧ zCa G σ' c (zent r j s L) r ∧ zFr σ σ' c 5 ∧ nx' = nx) := by
  refine zM.of (ls := [some (.ref c), some (.int (nI j)), some (.int (nI s))]) (by decide +kernel) ⟨rfl, rfl, rfl⟩ (Nat.le_of_ble_eq_true rfl) (fun _ h => h) ?_
  obtain ⟨m1, k3⟩ := h.c
  have hr := h.rm
  refine z_iload_n dX0_enter_0 rfl ?_
  refine z_aload_n dX0_enter_1 rfl ?_
  refine z_getf dX0_enter_2 fl_X0_48 k3 rfl ?_
  by_cases hc : s ≤ r
  · refine z_icmp_gt (tgt := 20) dX0_enter_5 (by decide) (fun q => absurd q ((Int32.not_lt.mpr (nI_le hc (by omega))))) (fun _ => ?_)
    refine z_aload_n dX0_enter_8 rfl ?_
    refine z_iload_n dX0_enter_9 rfl ?_
    refine z_callV dX0_enter_10 cv_X0_51 (c_X0_makeRoomFor h hs) rfl k3 rfl rfl ⟨(Nat.le_of_ble_eq_true rfl), (Nat.le_of_ble_eq_true rfl)⟩ (Nat.le_of_ble_eq_true rfl) (Nat.le_of_ble_eq_true rfl) (Nat.le_of_ble_eq_true rfl) (fun v σ1 nx1 hx1 hq1 => ?_)
    obtain ⟨rfl, k4, k5, rfl⟩ := hq1
    obtain ⟨m2, k6⟩ := k4.c
    refine z_pop dX0_enter_13 rfl ?_
    refine z_aload_n dX0_enter_14 rfl ?_
    refine z_iload_n dX0_enter_15 rfl ?_
    refine z_iload_n dX0_enter_16 rfl ?_
    refine z_callV dX0_enter_17 cv_X0_44 (c_X0_append k4 hj hs (zmkr_nmem hn) (zLok_room k4.ok hj (zmkr_nmem hn))) rfl k6 rfl rfl ⟨(Nat.le_of_ble_eq_true rfl), (Nat.le_of_ble_eq_true rfl)⟩ (Nat.le_of_ble_eq_true rfl) (Nat.le_of_ble_eq_true rfl) (Nat.le_of_ble_eq_true rfl) (fun v σ2 nx2 hx2 hq2 => ?_)
    obtain ⟨rfl, k7, k8, rfl⟩ := hq2
    exact z_vret dX0_enter_20 rfl (Nat.le_of_ble_eq_true rfl) (Nat.le_of_ble_eq_true rfl) ⟨rfl, by rw [zent, if_pos hc]; exact k7, fun b hb => (k8 b hb).trans (k5 b hb), rfl⟩
  · refine z_icmp_gt (tgt := 20) dX0_enter_5 (by decide) (fun _ => ?_) (fun q => absurd ((nI_lt (by omega) (by omega))) q)
    exact z_vret dX0_enter_20 rfl (Nat.le_of_ble_eq_true rfl) (Nat.le_of_ble_eq_true rfl) ⟨rfl, by rw [zent, if_neg hc]; exact h, fun _ _ => rfl, rfl⟩
