/-! Cache: its nodes, the one used the longest time ago first, each with its rows -/
abbrev zNS : Type := List (Nat × Nat)
def zsm (L : zNS) : Nat := (L.map fun q => q.2).sum
theorem zsm_app (A B : zNS) : zsm (A ++ B) = zsm A + zsm B := by simp [zsm]
theorem zsm_cons (q : Nat × Nat) (B : zNS) : zsm (q :: B) = q.2 + zsm B := by simp [zsm]
theorem zsm_le {L : zNS} (h : ∀ (i : Nat) (q : Nat × Nat), L[i]? = some q → q.2 ≤ 300) : zsm L ≤ 300 * L.length := by
  induction L with
  | nil => simp [zsm]
  | cons q t ih =>
    rw [zsm_cons, List.length_cons]
    have a := h 0 q rfl
    have b := ih fun i z hz => h (i + 1) z (by simpa using hz)
    omega
theorem zsm_erase : ∀ (L : zNS) (p : Nat) (q : Nat × Nat), L[p]? = some q → zsm L = zsm (L.eraseIdx p) + q.2
  | [], p, q, h => by simp at h
  | a :: t, 0, q, h => by cases h; rw [zsm_cons, List.eraseIdx_cons_zero]; omega
  | a :: t, p + 1, q, h => by rw [zsm_cons, List.eraseIdx_cons_succ, zsm_cons, zsm_erase t p q (by simpa using h)]; omega
def zCC (c n s r : Nat) (mem : Int32) : va_E := .inr (1, [.ref (c + 1), .ref (c + 3), .int (nI n), .int mem, .int (nI s), .int (nI r)])
def zLok (L : zNS) : Prop := (∀ (i : Nat) (q : Nat × Nat), L[i]? = some q → q.1 < 14 ∧ q.2 ≤ 300) ∧ (∀ (i j : Nat) (a b : Nat × Nat), L[i]? = some a → L[j]? = some b → a.1 = b.1 → i = j) ∧ L.length ≤ 14
def zCa (G : zG) (σ : zH) (c : Nat) (L : zNS) (r : Nat) : Prop := ∃ (uf sf : Nat → Int32) (mem : Int32), σ c = some (zCC c L.length (zsm L) r mem) ∧ zInts G σ (c + 1) 14 uf ∧ zInts G σ (c + 3) 14 sf ∧ (∀ (i : Nat) (q : Nat × Nat), L[i]? = some q → uf i = nI q.1 ∧ sf i = nI q.2) ∧ (∀ j, j < 14 → (bt mem j = true ↔ ∃ (i : Nat) (q : Nat × Nat), L[i]? = some q ∧ q.1 = j)) ∧ zLok L ∧ r ≤ 1000
theorem zCa.fr {G : zG} {σ σ' : zH} {c r : Nat} {L : zNS} (h : zCa G σ c L r) (hf : ∀ b, c ≤ b → b < c + 5 → σ' b = σ b) : zCa G σ' c L r := by
  obtain ⟨uf, sf, mem, h1, h2, h3, h4⟩ := h
  exact ⟨uf, sf, mem, (hf c (by omega) (by omega)).trans h1, h2.fr fun b a d => hf b (by omega) (by omega), h3.fr fun b a d => hf b (by omega) (by omega), h4⟩
theorem zCa.c {G : zG} {σ : zH} {c r : Nat} {L : zNS} (h : zCa G σ c L r) : ∃ mem, σ c = some (zCC c L.length (zsm L) r mem) := by
  obtain ⟨uf, sf, mem, h1, _⟩ := h
  exact ⟨mem, h1⟩
theorem zLok.sm {L : zNS} (h : zLok L) : zsm L ≤ 4200 := by
  have := zsm_le fun i q a => (h.1 i q a).2
  have := h.2.2
  omega
def zmem (L : zNS) (j : Nat) : Prop := ∃ (i : Nat) (q : Nat × Nat), L[i]? = some q ∧ q.1 = j
set_option maxRecDepth 100000 in
theorem c_X0_holds {G : zG} {σ : zH} {nx c r j : Nat} {L : zNS} (h : zCa G σ c L r) (hj : j < 14) : zM G yX0_holds kX0_holds [.ref c, .int (nI j)] σ nx (fun v σ' nx' => (∃ b : Bool, v = some (.int (if b then 1 else 0)) ∧ (b = true ↔ zmem L j)) ∧ σ' = σ ∧ nx' = nx) := by
  refine zM.of (ls := [some (.ref c), some (.int (nI j))]) (by decide +kernel) ⟨rfl, rfl, rfl⟩ (Nat.le_of_ble_eq_true rfl) (fun _ h => h) ?_
  obtain ⟨uf, sf, mem, h1, h2, h3, h4, h5, h6, h7⟩ := h
  refine z_aload_n dX0_holds_0 rfl ?_
  refine z_getf dX0_holds_1 fl_X0_23 h1 rfl ?_
  refine z_iload_n dX0_holds_4 rfl ?_
  refine z_callS dX0_holds_5 cv_X0_27 (c_X11_has hj) rfl rfl ⟨(Nat.le_of_ble_eq_true rfl), (Nat.le_of_ble_eq_true rfl)⟩ (Nat.le_of_ble_eq_true rfl) (Nat.le_of_ble_eq_true rfl) (Nat.le_of_ble_eq_true rfl) (fun v σ1 nx1 hx1 hq1 => ?_)
  obtain ⟨rfl, rfl, rfl⟩ := hq1
  have e := h5 j hj
  cases hb : bt mem j with
  | true =>
    rw [if_pos rfl]
    exact z_zret dX0_holds_8 rfl rfl (Nat.le_of_ble_eq_true rfl) (Nat.le_of_ble_eq_true rfl) ⟨⟨true, rfl, ⟨fun _ => e.mp hb, fun _ => rfl⟩⟩, rfl, rfl⟩
  | false =>
    rw [if_neg (by decide)]
    exact z_zret dX0_holds_8 rfl rfl (Nat.le_of_ble_eq_true rfl) (Nat.le_of_ble_eq_true rfl) ⟨⟨false, rfl, ⟨fun q => (nomatch q), fun q => absurd (e.mpr q) (by rw [hb]; decide)⟩⟩, rfl, rfl⟩
set_option maxRecDepth 100000 in
theorem c_X0_empty {G : zG} {σ : zH} {nx c r : Nat} {L : zNS} (h : zCa G σ c L r) : zM G yX0_empty kX0_empty [.ref c] σ nx (fun v σ' nx' => v = none ∧ zCa G σ' c [] r ∧ (∀ x, x ≠ c → σ' x = σ x) ∧ nx' = nx) := by
  refine zM.of (ls := [some (.ref c)]) (by decide +kernel) ⟨rfl, rfl, rfl⟩ (Nat.le_of_ble_eq_true rfl) (fun _ h => h) ?_
  obtain ⟨uf, sf, mem, h1, h2, h3, h4, h5, h6, h7⟩ := h
  refine z_aload_n dX0_empty_0 rfl ?_
  refine z_iconst (v := 0) dX0_empty_1 (by decide) ?_
  refine z_putf dX0_empty_2 fp_X0_31 h1 rfl rfl (Nat.le_of_ble_eq_true rfl) ?_
  refine z_aload_n dX0_empty_5 rfl ?_
  refine z_iconst (v := 0) dX0_empty_6 (by decide) ?_
  refine z_putf dX0_empty_7 fp_X0_23 (zu_eq _ _ _) rfl rfl (Nat.le_of_ble_eq_true rfl) ?_
  refine z_aload_n dX0_empty_10 rfl ?_
  refine z_iconst (v := 0) dX0_empty_11 (by decide) ?_
  refine z_putf dX0_empty_12 fp_X0_34 (zu_eq _ _ _) rfl rfl (Nat.le_of_ble_eq_true rfl) ?_
  exact z_vret dX0_empty_15 rfl (Nat.le_of_ble_eq_true rfl) (Nat.le_of_ble_eq_true rfl) ⟨rfl, ⟨uf, sf, 0, zu_eq _ _ _, h2.fr fun b a d => by rw [zu_ne (by omega), zu_ne (by omega), zu_ne (by omega)], h3.fr fun b a d => by rw [zu_ne (by omega), zu_ne (by omega), zu_ne (by omega)], fun i q z => by simp at z, fun j hj => by rw [b_0]; exact ⟨fun z => (nomatch z), fun ⟨i, q, z, _⟩ => by simp at z⟩, ⟨fun i q z => by simp at z, fun i j a b z => by simp at z, by decide⟩, h7⟩, fun x hx => by rw [zu_ne hx, zu_ne hx, zu_ne hx], rfl⟩
theorem zLok_snoc {L : zNS} {j s : Nat} (h : zLok L) (hj : j < 14) (hs : s ≤ 300) (hn : ¬ zmem L j) (hl : L.length < 14) : zLok (L ++ [(j, s)]) := by
  obtain ⟨h1, h2, h3⟩ := h
  have key : ∀ (i : Nat) (q : Nat × Nat), (L ++ [(j, s)])[i]? = some q → (i < L.length ∧ L[i]? = some q) ∨ (i = L.length ∧ q = (j, s)) := by
    intro i q z
    by_cases hi : i < L.length
    · rw [List.getElem?_append_left hi] at z; exact Or.inl ⟨hi, z⟩
    · have := zR_lt z
      rw [List.length_append] at this
      have e : i = L.length := by simp at this; omega
      subst e
      rw [List.getElem?_append_right (Nat.le_refl _), Nat.sub_self] at z
      cases z
      exact Or.inr ⟨rfl, rfl⟩
  refine ⟨fun i q z => ?_, fun i k a b za zb e => ?_, by rw [List.length_append]; exact hl⟩
  · rcases key i q z with ⟨-, z⟩ | ⟨-, rfl⟩
    · exact h1 i q z
    · exact ⟨hj, hs⟩
  · rcases key i a za with ⟨-, y⟩ | ⟨y, rfl⟩ <;> rcases key k b zb with ⟨-, w⟩ | ⟨w, rfl⟩
    · exact h2 i k a b y w e
    · exact absurd ⟨i, a, y, e⟩ hn
    · exact absurd ⟨k, b, w, e.symm⟩ hn
    · omega
set_option maxRecDepth 100000 in
theorem c_X0_append {G : zG} {σ : zH} {nx c r j s : Nat} {L : zNS} (h : zCa G σ c L r) (hj : j < 14) (hs : s ≤ 300) (hn : ¬ zmem L j) (hl : L.length < 14) : zM G yX0_append kX0_append [.ref c, .int (nI j), .int (nI s)] σ nx (fun v σ' nx' => v = none ∧ zCa G σ' c (L ++ [(j, s)]) r ∧ zFr σ σ' c 5 ∧ nx' = nx) := by
  refine zM.of (ls := [some (.ref c), some (.int (nI j)), some (.int (nI s))]) (by decide +kernel) ⟨rfl, rfl, rfl⟩ (Nat.le_of_ble_eq_true rfl) (fun _ h => h) ?_
  obtain ⟨uf, sf, mem, h1, h2, h3, h4, h5, h6, h7⟩ := h
  have h8 := h6.sm
  refine z_aload_n dX0_append_0 rfl ?_
  refine z_getf dX0_append_1 fl_X0_14 h1 rfl ?_
  refine z_aload_n dX0_append_4 rfl ?_
  refine z_getf dX0_append_5 fl_X0_31 h1 rfl ?_
  refine z_iload_n dX0_append_8 rfl ?_
  refine z_callV dX0_append_9 cv_X0_54 (c_X4_set h2 (by omega)) rfl h2.1 rfl rfl ⟨(Nat.le_of_ble_eq_true rfl), (Nat.le_of_ble_eq_true rfl)⟩ (Nat.le_of_ble_eq_true rfl) (Nat.le_of_ble_eq_true rfl) (Nat.le_of_ble_eq_true rfl) (fun v σ1 nx1 hx1 hq1 => ?_)
  obtain ⟨rfl, g1, g2, rfl⟩ := hq1
  have k1 := (g2 c (by omega)).trans h1
  have k3 := h3.fr (σ' := σ1) fun b a d => g2 b (by omega)
  refine z_aload_n dX0_append_12 rfl ?_
  refine z_getf dX0_append_13 fl_X0_20 k1 rfl ?_
  refine z_aload_n dX0_append_16 rfl ?_
  refine z_getf dX0_append_17 fl_X0_31 k1 rfl ?_
  refine z_iload_n dX0_append_20 rfl ?_
  refine z_callV dX0_append_21 cv_X0_54 (c_X4_set k3 (by omega)) rfl k3.1 rfl rfl ⟨(Nat.le_of_ble_eq_true rfl), (Nat.le_of_ble_eq_true rfl)⟩ (Nat.le_of_ble_eq_true rfl) (Nat.le_of_ble_eq_true rfl) (Nat.le_of_ble_eq_true rfl) (fun v σ2 nx2 hx2 hq2 => ?_)
  obtain ⟨rfl, g3, g4, rfl⟩ := hq2
  have k2 := (g4 c (by omega)).trans k1
  rw [zwr_nI (by omega) (by omega)] at g1 g3
  refine z_aload_n dX0_append_24 rfl ?_
  refine z_aload_n dX0_append_25 rfl ?_
  refine z_getf dX0_append_26 fl_X0_23 k2 rfl ?_
  refine z_iload_n dX0_append_29 rfl ?_
  refine z_callS dX0_append_30 cv_X0_57 (c_X11_with hj) rfl rfl ⟨(Nat.le_of_ble_eq_true rfl), (Nat.le_of_ble_eq_true rfl)⟩ (Nat.le_of_ble_eq_true rfl) (Nat.le_of_ble_eq_true rfl) (Nat.le_of_ble_eq_true rfl) (fun v σ3 nx3 hx3 hq3 => ?_)
  obtain ⟨rfl, rfl, rfl⟩ := hq3
  refine z_putf dX0_append_33 fp_X0_23 k2 rfl rfl (Nat.le_of_ble_eq_true rfl) ?_
  refine z_aload_n dX0_append_36 rfl ?_
  refine z_dup dX0_append_37 rfl ?_
  refine z_getf dX0_append_38 fl_X0_34 (zu_eq _ _ _) rfl ?_
  refine z_iload_n dX0_append_41 rfl ?_
  refine z_iadd dX0_append_42 ?_
  refine z_putf dX0_append_43 fp_X0_34 (zu_eq _ _ _) rfl rfl (Nat.le_of_ble_eq_true rfl) ?_
  refine z_aload_n dX0_append_46 rfl ?_
  refine z_dup dX0_append_47 rfl ?_
  refine z_getf dX0_append_48 fl_X0_31 (zu_eq _ _ _) rfl ?_
  refine z_iconst (v := 1) dX0_append_51 (by decide) ?_
  refine z_iadd dX0_append_52 ?_
  refine z_putf dX0_append_53 fp_X0_31 (zu_eq _ _ _) rfl rfl (Nat.le_of_ble_eq_true rfl) ?_
  refine z_vret dX0_append_56 rfl (Nat.le_of_ble_eq_true rfl) (Nat.le_of_ble_eq_true rfl) ⟨rfl, ⟨_, _, zwith mem j, ?_, (g1.fr fun b a d => g4 b (by omega)).fr fun b a d => by rw [zu_ne (by omega), zu_ne (by omega), zu_ne (by omega)], g3.fr fun b a d => by rw [zu_ne (by omega), zu_ne (by omega), zu_ne (by omega)], fun i q z => ?_, fun i hi => ?_, zLok_snoc h6 hj hs hn hl, h7⟩, fun b hb => by rw [zu_ne (by omega), zu_ne (by omega), zu_ne (by omega), g4 b (by omega), g2 b (by omega)], rfl⟩
  · rw [zu_eq, nI_1, List.length_append, zsm_app, nI_add]
    rfl
  · by_cases hi : i < L.length
    · rw [List.getElem?_append_left hi] at z
      rw [pk_un (by omega), pk_un (by omega)]
      exact h4 i q z
    · have := zR_lt z
      rw [List.length_append] at this
      have e : i = L.length := by simp at this; omega
      subst e
      rw [List.getElem?_append_right (Nat.le_refl _), Nat.sub_self] at z
      cases z
      exact ⟨pk_us, pk_us⟩
  · rw [bt_with mem hj (by omega), Bool.or_eq_true, decide_eq_true_eq, h5 i hi]
    constructor
    · rintro (⟨a, q, z, e⟩ | e)
      · exact ⟨a, q, by rw [List.getElem?_append_left (zR_lt z)]; exact z, e⟩
      · exact ⟨L.length, (j, s), by simp, e.symm⟩
    · rintro ⟨a, q, z, e⟩
      by_cases ha : a < L.length
      · rw [List.getElem?_append_left ha] at z
        exact Or.inl ⟨a, q, z, e⟩
      · have := zR_lt z
        rw [List.length_append] at this
        have e2 : a = L.length := by simp at this; omega
        subst e2
        rw [List.getElem?_append_right (Nat.le_refl _), Nat.sub_self] at z
        cases z
        exact Or.inr e.symm
theorem zer_at {L : zNS} {p i : Nat} : (L.eraseIdx p)[i]? = if i < p then L[i]? else L[i + 1]? := List.getElem?_eraseIdx ..
theorem zLok_erase {L : zNS} {p : Nat} (h : zLok L) : zLok (L.eraseIdx p) := by
  obtain ⟨h1, h2, h3⟩ := h
  refine ⟨fun i q z => ?_, fun i k a b za zb e => ?_, by have := List.length_eraseIdx_le L p; omega⟩
  · rw [zer_at] at z
    by_cases hi : i < p
    · rw [if_pos hi] at z; exact h1 _ q z
    · rw [if_neg hi] at z; exact h1 _ q z
  · rw [zer_at] at za zb
    by_cases hi : i < p <;> by_cases hk : k < p
    · rw [if_pos hi] at za; rw [if_pos hk] at zb; exact h2 i k a b za zb e
    · rw [if_pos hi] at za; rw [if_neg hk] at zb; have := h2 i (k + 1) a b za zb e; omega
    · rw [if_neg hi] at za; rw [if_pos hk] at zb; have := h2 (i + 1) k a b za zb e; omega
    · rw [if_neg hi] at za; rw [if_neg hk] at zb; have := h2 (i + 1) (k + 1) a b za zb e; omega
/-- an array shifted down from p on, as far as t -/
def zdn (f : Nat → Int32) (p t : Nat) : Nat → Int32 := fun i => if p ≤ i ∧ i < t then f (i + 1) else f i
theorem zdn_0 (f : Nat → Int32) (p : Nat) : zdn f p p = f := by
  funext i
  simp only [zdn]
  rw [if_neg (by omega)]
theorem zdn_s {f : Nat → Int32} {p t : Nat} (h : p ≤ t) : upd (zdn f p t) t (zdn f p t (t + 1)) = zdn f p (t + 1) := by
  funext i
  by_cases hi : i = t
  · subst hi
    rw [pk_us]
    simp only [zdn]
    rw [if_neg (by omega), if_pos (by omega)]
  · rw [pk_un hi]
    simp only [zdn]
    by_cases h1 : p ≤ i ∧ i < t
    · rw [if_pos h1, if_pos (by omega)]
    · rw [if_neg h1, if_neg (by omega)]
set_option maxRecDepth 100000 in
theorem c_X0_remove {G : zG} {σ : zH} {nx c r p : Nat} {L : zNS} (h : zCa G σ c L r) (hp : p < L.length) : zM G yX0_remove kX0_remove [.ref c, .int (nI p)] σ nx (fun v σ' nx' => v = none ∧ zCa G σ' c (L.eraseIdx p) r ∧ zFr σ σ' c 5 ∧ nx' = nx) := by
  refine zM.of2 (ls := [some (.ref c), some (.int (nI p)), none]) (by decide +kernel) ⟨rfl, rfl, rfl⟩ (Nat.le_of_ble_eq_true rfl) (fun _ h => h) (fun Q hQ => ?_)
  obtain ⟨uf, sf, mem, h1, h2, h3, h4, h5, h6, h7⟩ := h
  have h14 := h6.2.2
  have hg : L[p]? = some (L[p]'hp) := List.getElem?_eq_getElem _
  generalize L[p]'hp = w at hg
  have hw := h6.1 p w hg
  have hw4 := h4 p w hg
  have hsm := zsm_erase L p w hg
  have hsm2 := h6.sm
  have hle : (L.eraseIdx p).length = L.length - 1 := List.length_eraseIdx_of_lt hp
  obtain ⟨m2, hm2⟩ : ∃ z, z = mem &&& (zwith 0 w.1 ^^^ (-1)) := ⟨_, rfl⟩
  have loop : ∀ d t : Nat, t + d = L.length - 1 → p ≤ t → ∀ σ1 : zH, zFr σ σ1 c 5 → σ1 c = some (zCC c (L.length - 1) (zsm (L.eraseIdx p)) r m2) → zInts G σ1 (c + 1) 14 (zdn uf p t) → zInts G σ1 (c + 3) 14 (zdn sf p t) →
      zWP G kX0_remove (zFM G kX0_remove.2.2.2.1 Q) 52 [some (.ref c), some (.int (nI p)), some (.int (nI t))] [] σ1 nx 0 0 := by
    intro d
    induction d with
    | zero =>
      intro t ht hpt σ1 f1 a1 a2 a3
      refine z_iload_n dX0_remove_52 rfl ?_
      refine z_aload_n dX0_remove_53 rfl ?_
      refine z_getf dX0_remove_54 fl_X0_31 a1 rfl ?_
      refine z_icmp_ge (tgt := 102) dX0_remove_57 (by decide) (fun _ => ?_) (fun q => absurd (nI_le (by omega) (by omega)) q)
      refine z_vret dX0_remove_102 rfl (Nat.le_of_ble_eq_true rfl) (Nat.le_of_ble_eq_true rfl) (hQ _ _ _ ⟨rfl, ⟨_, _, m2, by rw [hle]; exact a1, a2, a3, fun i q z => ?_, fun j hj => ?_, zLok_erase h6, h7⟩, f1, rfl⟩)
      · have hi := zR_lt z
        rw [hle] at hi
        rw [zer_at] at z
        simp only [zdn]
        by_cases q1 : i < p
        · rw [if_pos q1] at z; rw [if_neg (by omega), if_neg (by omega)]; exact h4 i q z
        · rw [if_neg q1] at z; rw [if_pos (by omega), if_pos (by omega)]; exact h4 (i + 1) q z
      · rw [hm2, bt_mask mem hw.1 (by omega), Bool.and_eq_true, h5 j hj]
        simp only [Bool.not_eq_true', decide_eq_false_iff_not]
        constructor
        · rintro ⟨⟨i, q, z, e⟩, hne⟩
          have hip : i ≠ p := fun e2 => by rw [e2, hg] at z; cases z; exact hne e.symm
          by_cases q1 : i < p
          · exact ⟨i, q, by rw [zer_at, if_pos q1]; exact z, e⟩
          · exact ⟨i - 1, q, by rw [zer_at, if_neg (by omega), show i - 1 + 1 = i by omega]; exact z, e⟩
        · rintro ⟨i, q, z, e⟩
          rw [zer_at] at z
          by_cases q1 : i < p
          · rw [if_pos q1] at z; exact ⟨⟨i, q, z, e⟩, fun e2 => by have := h6.2.1 i p q w z hg (e.trans e2); omega⟩
          · rw [if_neg q1] at z; exact ⟨⟨i + 1, q, z, e⟩, fun e2 => by have := h6.2.1 (i + 1) p q w z hg (e.trans e2); omega⟩
    | succ d ih =>
      intro t ht hpt σ1 f1 a1 a2 a3
      refine z_iload_n dX0_remove_52 rfl ?_
      refine z_aload_n dX0_remove_53 rfl ?_
      refine z_getf dX0_remove_54 fl_X0_31 a1 rfl ?_
      refine z_icmp_ge (tgt := 102) dX0_remove_57 (by decide) (fun q => absurd q (nI_ge (show t < L.length - 1 by omega) (by omega))) (fun _ => ?_)
      refine z_aload_n dX0_remove_60 rfl ?_
      refine z_getf dX0_remove_61 fl_X0_14 a1 rfl ?_
      refine z_iload_n dX0_remove_64 rfl ?_
      refine z_aload_n dX0_remove_65 rfl ?_
      refine z_getf dX0_remove_66 fl_X0_14 a1 rfl ?_
      refine z_iload_n dX0_remove_69 rfl ?_
      refine z_iconst (v := 1) dX0_remove_70 (by decide) ?_
      refine z_iadd dX0_remove_71 ?_
      rw [nI_1]
      refine z_callV dX0_remove_72 cv_X0_37 (c_X4_at a2 (by omega)) rfl a2.1 rfl rfl ⟨(Nat.le_of_ble_eq_true rfl), (Nat.le_of_ble_eq_true rfl)⟩ (Nat.le_of_ble_eq_true rfl) (Nat.le_of_ble_eq_true rfl) (Nat.le_of_ble_eq_true rfl) (fun v σ2 nx2 hx2 hq2 => ?_)
      obtain ⟨rfl, rfl, rfl⟩ := hq2
      refine z_callV dX0_remove_75 cv_X0_54 (c_X4_set a2 (by omega)) rfl a2.1 rfl rfl ⟨(Nat.le_of_ble_eq_true rfl), (Nat.le_of_ble_eq_true rfl)⟩ (Nat.le_of_ble_eq_true rfl) (Nat.le_of_ble_eq_true rfl) (Nat.le_of_ble_eq_true rfl) (fun v σ3 nx3 hx3 hq3 => ?_)
      obtain ⟨rfl, g1, g2, rfl⟩ := hq3
      rw [zrd_nI (by omega) (by omega), zwr_nI (by omega) (by omega), zdn_s hpt] at g1
      have b1 := (g2 c (by omega)).trans a1
      have b3 := a3.fr (σ' := σ3) fun b a d => g2 b (by omega)
      refine z_aload_n dX0_remove_78 rfl ?_
      refine z_getf dX0_remove_79 fl_X0_20 b1 rfl ?_
      refine z_iload_n dX0_remove_82 rfl ?_
      refine z_aload_n dX0_remove_83 rfl ?_
      refine z_getf dX0_remove_84 fl_X0_20 b1 rfl ?_
      refine z_iload_n dX0_remove_87 rfl ?_
      refine z_iconst (v := 1) dX0_remove_88 (by decide) ?_
      refine z_iadd dX0_remove_89 ?_
      rw [nI_1]
      refine z_callV dX0_remove_90 cv_X0_37 (c_X4_at b3 (by omega)) rfl b3.1 rfl rfl ⟨(Nat.le_of_ble_eq_true rfl), (Nat.le_of_ble_eq_true rfl)⟩ (Nat.le_of_ble_eq_true rfl) (Nat.le_of_ble_eq_true rfl) (Nat.le_of_ble_eq_true rfl) (fun v σ4 nx4 hx4 hq4 => ?_)
      obtain ⟨rfl, rfl, rfl⟩ := hq4
      refine z_callV dX0_remove_93 cv_X0_54 (c_X4_set b3 (by omega)) rfl b3.1 rfl rfl ⟨(Nat.le_of_ble_eq_true rfl), (Nat.le_of_ble_eq_true rfl)⟩ (Nat.le_of_ble_eq_true rfl) (Nat.le_of_ble_eq_true rfl) (Nat.le_of_ble_eq_true rfl) (fun v σ5 nx5 hx5 hq5 => ?_)
      obtain ⟨rfl, g3, g4, rfl⟩ := hq5
      rw [zrd_nI (by omega) (by omega), zwr_nI (by omega) (by omega), zdn_s hpt] at g3
      refine z_inc1 dX0_remove_96 rfl (by decide) ?_
      refine z_goto (tgt := 52) dX0_remove_99 (by decide) ?_
      rw [nI_1]
      exact ih (t + 1) (by omega) (by omega) σ5 (fun b hb => (g4 b (by omega)).trans ((g2 b (by omega)).trans (f1 b hb))) ((g4 c (by omega)).trans b1) (g1.fr fun b a d => g4 b (by omega)) g3
  refine z_aload_n dX0_remove_0 rfl ?_
  refine z_dup dX0_remove_1 rfl ?_
  refine z_getf dX0_remove_2 fl_X0_23 h1 rfl ?_
  refine z_iconst (v := 0) dX0_remove_5 (by decide) ?_
  refine z_aload_n dX0_remove_6 rfl ?_
  refine z_getf dX0_remove_7 fl_X0_14 h1 rfl ?_
  refine z_iload_n dX0_remove_10 rfl ?_
  refine z_callV dX0_remove_11 cv_X0_37 (c_X4_at h2 (by omega)) rfl h2.1 rfl rfl ⟨(Nat.le_of_ble_eq_true rfl), (Nat.le_of_ble_eq_true rfl)⟩ (Nat.le_of_ble_eq_true rfl) (Nat.le_of_ble_eq_true rfl) (Nat.le_of_ble_eq_true rfl) (fun v σ2 nx2 hx2 hq2 => ?_)
  obtain ⟨rfl, rfl, rfl⟩ := hq2
  rw [zrd_nI (by omega) (by omega), hw4.1]
  refine z_callS dX0_remove_14 cv_X0_57 (c_X11_with hw.1) rfl rfl ⟨(Nat.le_of_ble_eq_true rfl), (Nat.le_of_ble_eq_true rfl)⟩ (Nat.le_of_ble_eq_true rfl) (Nat.le_of_ble_eq_true rfl) (Nat.le_of_ble_eq_true rfl) (fun v σ3 nx3 hx3 hq3 => ?_)
  obtain ⟨rfl, rfl, rfl⟩ := hq3
  refine z_iconst (v := (-1)) dX0_remove_17 (by decide) ?_
  refine z_ixor dX0_remove_18 ?_
  refine z_iand dX0_remove_19 ?_
  refine z_putf dX0_remove_20 fp_X0_23 h1 rfl rfl (Nat.le_of_ble_eq_true rfl) ?_
  rw [← hm2]
  have k3 : zInts G (zu σ3 c (.inr (1, [Value.ref (c + 1), .ref (c + 3), .int (nI L.length), .int mem, .int (nI (zsm L)), .int (nI r)].set 3 (.int m2)))) (c + 3) 14 sf := h3.fr fun b a d => zu_ne (by omega)
  refine z_aload_n dX0_remove_23 rfl ?_
  refine z_dup dX0_remove_24 rfl ?_
  refine z_getf dX0_remove_25 fl_X0_34 (zu_eq _ _ _) rfl ?_
  refine z_aload_n dX0_remove_28 rfl ?_
  refine z_getf dX0_remove_29 fl_X0_20 (zu_eq _ _ _) rfl ?_
  refine z_iload_n dX0_remove_32 rfl ?_
  refine z_callV dX0_remove_33 cv_X0_37 (c_X4_at k3 (by omega)) rfl k3.1 rfl rfl ⟨Nat.le_of_ble_eq_true rfl, Nat.le_of_ble_eq_true rfl⟩ (Nat.le_of_ble_eq_true rfl) (Nat.le_of_ble_eq_true rfl) (Nat.le_of_ble_eq_true rfl) (fun v σ4 nx4 hx4 hq4 => ?_)
  obtain ⟨rfl, rfl, rfl⟩ := hq4
  rw [zrd_nI (by omega) (by omega), hw4.2]
  refine z_isub dX0_remove_36 ?_
  rw [pk_sub (by omega), show zsm L - w.2 = zsm (L.eraseIdx p) by omega]
  refine z_putf dX0_remove_37 fp_X0_34 (zu_eq _ _ _) rfl rfl (Nat.le_of_ble_eq_true rfl) ?_
  refine z_aload_n dX0_remove_40 rfl ?_
  refine z_dup dX0_remove_41 rfl ?_
  refine z_getf dX0_remove_42 fl_X0_31 (zu_eq _ _ _) rfl ?_
  refine z_iconst (v := 1) dX0_remove_45 (by decide) ?_
  refine z_isub dX0_remove_46 ?_
  have e1 : nI L.length - 1 = nI (L.length - 1) := pk_sub (b := 1) (by omega)
  rw [e1]
  refine z_putf dX0_remove_47 fp_X0_31 (zu_eq _ _ _) rfl rfl (Nat.le_of_ble_eq_true rfl) ?_
  refine z_iload_n dX0_remove_50 rfl ?_
  refine z_istore_n dX0_remove_51 (by decide) ?_
  exact loop (L.length - 1 - p) p (by omega) (Nat.le_refl _) _ (fun b hb => by rw [zu_ne (by omega), zu_ne (by omega), zu_ne (by omega)]) (zu_eq _ _ _) (by rw [zdn_0]; exact h2.fr fun b a d => by rw [zu_ne (by omega), zu_ne (by omega), zu_ne (by omega)]) (by rw [zdn_0]; exact h3.fr fun b a d => by rw [zu_ne (by omega), zu_ne (by omega), zu_ne (by omega)])
