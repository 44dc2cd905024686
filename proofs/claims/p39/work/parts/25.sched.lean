/-! Stage and Log -/
abbrev zAE : Type := Nat × Nat × Nat × Nat × Nat × Bool
def zAc (a : zAE) (i : Nat) : Int32 := if i = 0 then nI a.1 else if i = 1 then nI a.2.1 else if i = 2 then nI a.2.2.1 else if i = 3 then nI a.2.2.2.1 else if i = 4 then nI a.2.2.2.2.1 else if a.2.2.2.2.2 then 1 else 0
def zLC (l n t s c : Nat) : va_E := .inr (6, [.ref (l + 1), .ref (l + 3), .ref (l + 5), .ref (l + 7), .ref (l + 9), .ref (l + 11), .int (nI n), .int (nI t), .int (nI s), .int (nI c)])
def zLa (G : zG) (σ : zH) (l : Nat) (f : Nat → Nat → Int32) : Prop := ∀ i, i < 6 → zInts G σ (l + 1 + 2 * i) 224 (f i)
def zLg (G : zG) (σ : zH) (l : Nat) (A : List zAE) (t s c : Nat) : Prop := ∃ f, σ l = some (zLC l A.length t s c) ∧ zLa G σ l f ∧ (∀ (k : Nat) (a : zAE), A[k]? = some a → ∀ i, i < 6 → f i k = zAc a i) ∧ A.length ≤ 224
theorem zLa.fr {G : zG} {σ σ' : zH} {l : Nat} {f : Nat → Nat → Int32} (h : zLa G σ l f) (hf : ∀ b, l + 1 ≤ b → b < l + 13 → σ' b = σ b) : zLa G σ' l f := fun i hi => (h i hi).fr fun b a c => hf b (by omega) (by omega)
theorem zLg.fr {G : zG} {σ σ' : zH} {l t s c : Nat} {A : List zAE} (h : zLg G σ l A t s c) (hf : ∀ b, l ≤ b → b < l + 13 → σ' b = σ b) : zLg G σ' l A t s c := by
  obtain ⟨f, h1, h2, h3⟩ := h
  exact ⟨f, (hf l (by omega) (by omega)).trans h1, h2.fr fun b a d => hf b (by omega) (by omega), h3⟩
theorem zLg.c {G : zG} {σ : zH} {l t s c : Nat} {A : List zAE} (h : zLg G σ l A t s c) : σ l = some (zLC l A.length t s c) := by obtain ⟨f, h1, _⟩ := h; exact h1
theorem zLa.set {G : zG} {σ σ' : zH} {l i : Nat} {f : Nat → Nat → Int32} {g : Nat → Int32} (h : zLa G σ l f) (hi : i < 6) (hg : zInts G σ' (l + 1 + 2 * i) 224 g) (hf : ∀ b, b ≠ l + 1 + 2 * i + 1 → σ' b = σ b) : zLa G σ' l (fun j => if j = i then g else f j) := by
  intro j hj
  by_cases e : j = i
  · subst e; simp only [if_true]; exact hg
  · simp only [if_neg e]; exact (h j hj).fr fun b a c => hf b (by omega)
set_option maxRecDepth 100000 in
theorem c_X6_begin {G : zG} {σ : zH} {nx l t s c n : Nat} {A : List zAE} (h : zLg G σ l A t s c) : zM G yX6_begin kX6_begin [.ref l, .int (nI n)] σ nx (fun v σ' nx' => v = none ∧ zLg G σ' l [] t 0 n ∧ (∀ x, x ≠ l → σ' x = σ x) ∧ nx' = nx) := by
  refine zM.of (ls := [some (.ref l), some (.int (nI n))]) (by decide +kernel) ⟨rfl, rfl, rfl⟩ (Nat.le_of_ble_eq_true rfl) (fun _ h => h) ?_
  obtain ⟨f, h1, h2, h3, h4⟩ := h
  refine z_aload_n dX6_begin_0 rfl ?_
  refine z_iconst (v := 0) dX6_begin_1 (by decide) ?_
  refine z_putf dX6_begin_2 fp_X6_35 h1 rfl rfl (Nat.le_of_ble_eq_true rfl) ?_
  refine z_aload_n dX6_begin_5 rfl ?_
  refine z_iconst (v := 0) dX6_begin_6 (by decide) ?_
  refine z_putf dX6_begin_7 fp_X6_39 (zu_eq _ _ _) rfl rfl (Nat.le_of_ble_eq_true rfl) ?_
  refine z_aload_n dX6_begin_10 rfl ?_
  refine z_iload_n dX6_begin_11 rfl ?_
  refine z_putf dX6_begin_12 fp_X6_42 (zu_eq _ _ _) rfl rfl (Nat.le_of_ble_eq_true rfl) ?_
  exact z_vret dX6_begin_15 rfl (Nat.le_of_ble_eq_true rfl) (Nat.le_of_ble_eq_true rfl) ⟨rfl, ⟨f, zu_eq _ _ _, h2.fr fun b a d => by rw [zu_ne (by omega), zu_ne (by omega), zu_ne (by omega)], fun k a q => by simp at q, by decide⟩, fun x hx => by rw [zu_ne hx, zu_ne hx, zu_ne hx], rfl⟩
set_option maxRecDepth 100000 in
set_option maxHeartbeats 1000000 in
theorem c_X6_add {G : zG} {σ : zH} {nx l t s c o p w b e : Nat} {cp : Bool} {A : List zAE} (h : zLg G σ l A t s c) (hl : A.length < 224) : zM G yX6_add kX6_add [.ref l, .int (nI o), .int (nI p), .int (nI w), .int (nI b), .int (nI e), .int (if cp then 1 else 0)] σ nx (fun v σ' nx' => v = some (.int (nI A.length)) ∧ zLg G σ' l (A ++ [(o, p, w, b, e, cp)]) t s c ∧ zFr σ σ' l 13 ∧ nx' = nx) := by
  refine zM.of (ls := [some (.ref l), some (.int (nI o)), some (.int (nI p)), some (.int (nI w)), some (.int (nI b)), some (.int (nI e)), some (.int (if cp then 1 else 0)), none]) (by decide +kernel) ⟨rfl, rfl, rfl⟩ (Nat.le_of_ble_eq_true rfl) (fun _ h => h) ?_
  obtain ⟨f, h1, h2, h3, h4⟩ := h
  refine z_aload_n dX6_add_0 rfl ?_
  refine z_getf dX6_add_1 fl_X6_35 h1 rfl ?_
  refine z_istore dX6_add_4 (by decide) ?_
  refine z_aload_n dX6_add_6 rfl ?_
  refine z_getf dX6_add_7 fl_X6_14 h1 rfl ?_
  refine z_iload dX6_add_10 rfl ?_
  refine z_iload_n dX6_add_12 rfl ?_
  have a0 : zInts G σ (l + 1) 224 (f 0) := h2 0 (by decide)
  refine z_callV dX6_add_13 cv_X6_45 (c_X4_set a0 (by omega)) rfl a0.1 rfl rfl ⟨(Nat.le_of_ble_eq_true rfl), (Nat.le_of_ble_eq_true rfl)⟩ (Nat.le_of_ble_eq_true rfl) (Nat.le_of_ble_eq_true rfl) (Nat.le_of_ble_eq_true rfl) (fun v σ0 nx0 hx0 hq0 => ?_)
  obtain ⟨rfl, g0, k0, rfl⟩ := hq0
  rw [zwr_nI (by omega) (by omega)] at g0
  have l0 := h2.set (i := 0) (by decide) g0 k0
  have c0 := (k0 l (by omega)).trans h1
  refine z_aload_n dX6_add_16 rfl ?_
  refine z_getf dX6_add_17 fl_X6_20 c0 rfl ?_
  refine z_iload dX6_add_20 rfl ?_
  refine z_iload_n dX6_add_22 rfl ?_
  have a1 : zInts G σ0 (l + 3) 224 (f 1) := l0 1 (by decide)
  refine z_callV dX6_add_23 cv_X6_45 (c_X4_set a1 (by omega)) rfl a1.1 rfl rfl ⟨(Nat.le_of_ble_eq_true rfl), (Nat.le_of_ble_eq_true rfl)⟩ (Nat.le_of_ble_eq_true rfl) (Nat.le_of_ble_eq_true rfl) (Nat.le_of_ble_eq_true rfl) (fun v σ1 nx1 hx1 hq1 => ?_)
  obtain ⟨rfl, g1, k1, rfl⟩ := hq1
  rw [zwr_nI (by omega) (by omega)] at g1
  have l1 := l0.set (i := 1) (by decide) g1 k1
  have c1 := (k1 l (by omega)).trans c0
  refine z_aload_n dX6_add_26 rfl ?_
  refine z_getf dX6_add_27 fl_X6_23 c1 rfl ?_
  refine z_iload dX6_add_30 rfl ?_
  refine z_iload_n dX6_add_32 rfl ?_
  have a2 : zInts G σ1 (l + 5) 224 (f 2) := l1 2 (by decide)
  refine z_callV dX6_add_33 cv_X6_45 (c_X4_set a2 (by omega)) rfl a2.1 rfl rfl ⟨(Nat.le_of_ble_eq_true rfl), (Nat.le_of_ble_eq_true rfl)⟩ (Nat.le_of_ble_eq_true rfl) (Nat.le_of_ble_eq_true rfl) (Nat.le_of_ble_eq_true rfl) (fun v σ2 nx2 hx2 hq2 => ?_)
  obtain ⟨rfl, g2, k2, rfl⟩ := hq2
  rw [zwr_nI (by omega) (by omega)] at g2
  have l2 := l1.set (i := 2) (by decide) g2 k2
  have c2 := (k2 l (by omega)).trans c1
  refine z_aload_n dX6_add_36 rfl ?_
  refine z_getf dX6_add_37 fl_X6_26 c2 rfl ?_
  refine z_iload dX6_add_40 rfl ?_
  refine z_iload dX6_add_42 rfl ?_
  have a3 : zInts G σ2 (l + 7) 224 (f 3) := l2 3 (by decide)
  refine z_callV dX6_add_44 cv_X6_45 (c_X4_set a3 (by omega)) rfl a3.1 rfl rfl ⟨(Nat.le_of_ble_eq_true rfl), (Nat.le_of_ble_eq_true rfl)⟩ (Nat.le_of_ble_eq_true rfl) (Nat.le_of_ble_eq_true rfl) (Nat.le_of_ble_eq_true rfl) (fun v σ3 nx3 hx3 hq3 => ?_)
  obtain ⟨rfl, g3, k3, rfl⟩ := hq3
  rw [zwr_nI (by omega) (by omega)] at g3
  have l3 := l2.set (i := 3) (by decide) g3 k3
  have c3 := (k3 l (by omega)).trans c2
  refine z_aload_n dX6_add_47 rfl ?_
  refine z_getf dX6_add_48 fl_X6_29 c3 rfl ?_
  refine z_iload dX6_add_51 rfl ?_
  refine z_iload dX6_add_53 rfl ?_
  have a4 : zInts G σ3 (l + 9) 224 (f 4) := l3 4 (by decide)
  refine z_callV dX6_add_55 cv_X6_45 (c_X4_set a4 (by omega)) rfl a4.1 rfl rfl ⟨(Nat.le_of_ble_eq_true rfl), (Nat.le_of_ble_eq_true rfl)⟩ (Nat.le_of_ble_eq_true rfl) (Nat.le_of_ble_eq_true rfl) (Nat.le_of_ble_eq_true rfl) (fun v σ4 nx4 hx4 hq4 => ?_)
  obtain ⟨rfl, g4, k4, rfl⟩ := hq4
  rw [zwr_nI (by omega) (by omega)] at g4
  have l4 := l3.set (i := 4) (by decide) g4 k4
  have c4 := (k4 l (by omega)).trans c3
  refine z_aload_n dX6_add_58 rfl ?_
  refine z_getf dX6_add_59 fl_X6_32 c4 rfl ?_
  refine z_iload dX6_add_62 rfl ?_
  refine z_iload dX6_add_64 rfl ?_
  have a5 : zInts G σ4 (l + 11) 224 (f 5) := l4 5 (by decide)
  have fin : ∀ x : Int32, x = (if cp then 1 else 0) → zWP G kX6_add (zFM G kX6_add.2.2.2.1 (fun v σ' nx' => v = some (.int (nI A.length)) ∧ zLg G σ' l (A ++ [(o, p, w, b, e, cp)]) t s c ∧ zFr σ σ' l 13 ∧ nx' = nx4)) 74 [some (.ref l), some (.int (nI o)), some (.int (nI p)), some (.int (nI w)), some (.int (nI b)), some (.int (nI e)), some (.int (if cp then 1 else 0)), some (.int (nI A.length))] [.int x, .int (nI A.length), .ref (l + 11)] σ4 nx4 0 0 := by
    intro x hx
    refine z_callV dX6_add_74 cv_X6_45 (c_X4_set a5 (by omega)) rfl a5.1 rfl rfl ⟨(Nat.le_of_ble_eq_true rfl), (Nat.le_of_ble_eq_true rfl)⟩ (Nat.le_of_ble_eq_true rfl) (Nat.le_of_ble_eq_true rfl) (Nat.le_of_ble_eq_true rfl) (fun v σ5 nx5 hx5 hq5 => ?_)
    obtain ⟨rfl, g5, k5, rfl⟩ := hq5
    rw [zwr_nI (by omega) (by omega)] at g5
    have l5 := l4.set (i := 5) (by decide) g5 k5
    have c5 := (k5 l (by omega)).trans c4
    refine z_aload_n dX6_add_77 rfl ?_
    refine z_dup dX6_add_78 rfl ?_
    refine z_getf dX6_add_79 fl_X6_35 c5 rfl ?_
    refine z_iconst (v := 1) dX6_add_82 (by decide) ?_
    refine z_iadd dX6_add_83 ?_
    rw [nI_1]
    refine z_putf dX6_add_84 fp_X6_35 c5 rfl rfl (Nat.le_of_ble_eq_true rfl) ?_
    refine z_iload dX6_add_87 rfl ?_
    refine z_iret dX6_add_89 rfl (Nat.le_of_ble_eq_true rfl) (Nat.le_of_ble_eq_true rfl) ⟨rfl, ⟨_, by rw [zu_eq, List.length_append]; rfl, l5.fr fun b a d => zu_ne (by omega), fun k a q i hi => ?_, by rw [List.length_append, List.length_singleton]; omega⟩, fun b hb => by rw [zu_ne (by omega), k5 b (by omega), k4 b (by omega), k3 b (by omega), k2 b (by omega), k1 b (by omega), k0 b (by omega)], rfl⟩
    by_cases hk : k < A.length
    · rw [List.getElem?_append_left hk] at q
      have := h3 k a q i hi
      rcases (show i = 0 ∨ i = 1 ∨ i = 2 ∨ i = 3 ∨ i = 4 ∨ i = 5 by omega) with e | e | e | e | e | e <;> subst e <;> exact (pk_un (by omega)).trans this
    · have := zR_lt q
      rw [List.length_append, List.length_singleton] at this
      have e : k = A.length := by omega
      subst e
      rw [List.getElem?_append_right (Nat.le_refl _), Nat.sub_self] at q
      cases q
      rcases (show i = 0 ∨ i = 1 ∨ i = 2 ∨ i = 3 ∨ i = 4 ∨ i = 5 by omega) with e | e | e | e | e | e <;> subst e
      · exact pk_us
      · exact pk_us
      · exact pk_us
      · exact pk_us
      · exact pk_us
      · exact pk_us.trans hx
  cases cp with
  | true =>
    refine z_if_eq (tgt := 73) dX6_add_66 (by decide) (fun q => absurd q ((by decide))) (fun _ => ?_)
    refine z_iconst (v := 1) dX6_add_69 (by decide) ?_
    refine z_goto (tgt := 74) dX6_add_70 (by decide) ?_
    exact fin 1 rfl
  | false =>
    refine z_if_eq (tgt := 73) dX6_add_66 (by decide) (fun _ => ?_) (fun q => absurd (rfl) q)
    refine z_iconst (v := 0) dX6_add_73 (by decide) ?_
    exact fin 0 rfl
def zts (A : List zAE) : Int32 := A.foldl (fun s a => s + (nI a.2.2.2.2.1 - nI a.2.2.2.1)) 0
theorem zts_snoc (A : List zAE) (q : zAE) : zts (A ++ [q]) = zts A + (nI q.2.2.2.2.1 - nI q.2.2.2.1) := by rw [zts, List.foldl_append]; rfl
set_option maxRecDepth 100000 in
theorem c_X6_ticksOfAttempts {G : zG} {σ : zH} {nx l t s c : Nat} {A : List zAE} (h : zLg G σ l A t s c) : zM G yX6_ticksOfAttempts kX6_ticksOfAttempts [.ref l] σ nx (fun v σ' nx' => v = some (.int (zts A)) ∧ σ' = σ ∧ nx' = nx) := by
  refine zM.of (ls := [some (.ref l), none, none]) (by decide +kernel) ⟨rfl, rfl, rfl⟩ (Nat.le_of_ble_eq_true rfl) (fun _ h => h) ?_
  obtain ⟨f, h1, h2, h3, h4⟩ := h
  have a4 : zInts G σ (l + 9) 224 (f 4) := h2 4 (by decide)
  have a3 : zInts G σ (l + 7) 224 (f 3) := h2 3 (by decide)
  have loop : ∀ d m : Nat, m + d = A.length →
      zWP G kX6_ticksOfAttempts (zFM G kX6_ticksOfAttempts.2.2.2.1 (fun v σ' nx' => v = some (.int (zts A)) ∧ σ' = σ ∧ nx' = nx)) 4 [some (.ref l), some (.int (zts (A.take m))), some (.int (nI m))] [] σ nx 0 0 := by
    intro d
    induction d with
    | zero =>
      intro m hm
      rw [List.take_of_length_le (by omega)]
      refine z_iload_n dX6_ticksOfAttempts_4 rfl ?_
      refine z_aload_n dX6_ticksOfAttempts_5 rfl ?_
      refine z_getf dX6_ticksOfAttempts_6 fl_X6_35 h1 rfl ?_
      refine z_icmp_ge (tgt := 38) dX6_ticksOfAttempts_9 (by decide) (fun _ => ?_) (fun q => absurd (nI_le (by omega) (by omega)) q)
      refine z_iload_n dX6_ticksOfAttempts_38 rfl ?_
      exact z_iret dX6_ticksOfAttempts_39 rfl (Nat.le_of_ble_eq_true rfl) (Nat.le_of_ble_eq_true rfl) ⟨rfl, rfl, rfl⟩
    | succ d ih =>
      intro m hm
      have hg : A[m]? = some (A[m]'(by omega)) := List.getElem?_eq_getElem _
      generalize A[m]'(by omega) = q at hg
      have nxt := ih (m + 1) (by omega)
      rw [ztake hg, zts_snoc] at nxt
      have e4 : f 4 m = nI q.2.2.2.2.1 := h3 m q hg 4 (by decide)
      have e3 : f 3 m = nI q.2.2.2.1 := h3 m q hg 3 (by decide)
      refine z_iload_n dX6_ticksOfAttempts_4 rfl ?_
      refine z_aload_n dX6_ticksOfAttempts_5 rfl ?_
      refine z_getf dX6_ticksOfAttempts_6 fl_X6_35 h1 rfl ?_
      refine z_icmp_ge (tgt := 38) dX6_ticksOfAttempts_9 (by decide) (fun q => absurd q (nI_ge (show m < A.length by omega) (by omega))) (fun _ => ?_)
      refine z_iload_n dX6_ticksOfAttempts_12 rfl ?_
      refine z_aload_n dX6_ticksOfAttempts_13 rfl ?_
      refine z_getf dX6_ticksOfAttempts_14 fl_X6_29 h1 rfl ?_
      refine z_iload_n dX6_ticksOfAttempts_17 rfl ?_
      refine z_callV dX6_ticksOfAttempts_18 cv_X6_49 (c_X4_at a4 (by omega)) rfl a4.1 rfl rfl ⟨(Nat.le_of_ble_eq_true rfl), (Nat.le_of_ble_eq_true rfl)⟩ (Nat.le_of_ble_eq_true rfl) (Nat.le_of_ble_eq_true rfl) (Nat.le_of_ble_eq_true rfl) (fun v σ1 nx1 hx1 hq1 => ?_)
      obtain ⟨rfl, rfl, rfl⟩ := hq1
      refine z_aload_n dX6_ticksOfAttempts_21 rfl ?_
      refine z_getf dX6_ticksOfAttempts_22 fl_X6_26 h1 rfl ?_
      refine z_iload_n dX6_ticksOfAttempts_25 rfl ?_
      refine z_callV dX6_ticksOfAttempts_26 cv_X6_49 (c_X4_at a3 (by omega)) rfl a3.1 rfl rfl ⟨(Nat.le_of_ble_eq_true rfl), (Nat.le_of_ble_eq_true rfl)⟩ (Nat.le_of_ble_eq_true rfl) (Nat.le_of_ble_eq_true rfl) (Nat.le_of_ble_eq_true rfl) (fun v σ1 nx1 hx1 hq1 => ?_)
      obtain ⟨rfl, rfl, rfl⟩ := hq1
      rw [zrd_nI (by omega) (by omega), zrd_nI (by omega) (by omega), e4, e3]
      refine z_isub dX6_ticksOfAttempts_29 ?_
      refine z_iadd dX6_ticksOfAttempts_30 ?_
      refine z_istore_n dX6_ticksOfAttempts_31 (by decide) ?_
      refine z_inc1 dX6_ticksOfAttempts_32 rfl (by decide) ?_
      refine z_goto (tgt := 4) dX6_ticksOfAttempts_35 (by decide) ?_
      rw [nI_1]
      exact nxt
  refine z_iconst (v := 0) dX6_ticksOfAttempts_0 (by decide) ?_
  refine z_istore_n dX6_ticksOfAttempts_1 (by decide) ?_
  refine z_iconst (v := 0) dX6_ticksOfAttempts_2 (by decide) ?_
  refine z_istore_n dX6_ticksOfAttempts_3 (by decide) ?_
  exact loop A.length 0 (by omega)
def zSC (s o m t : Nat) (cw : Int32) : va_E := .inr (10, [.ref (s + 1), .ref (s + 3), .ref (s + 5), .int (nI o), .int (nI m), .int (nI t), .int cw])
def zSt (G : zG) (σ : zH) (s o m t bg : Nat) (work ends : Nat → Nat) (cop : Nat → Bool) : Prop := ∃ (wf ef af : Nat → Int32) (cw : Int32), σ s = some (zSC s o m t cw) ∧ zInts G σ (s + 1) 8 wf ∧ zInts G σ (s + 3) 8 ef ∧ zInts G σ (s + 5) 8 af ∧ (∀ p, p < m → wf p = nI (work p)) ∧ (∀ p, p < t → ef p = nI (ends p)) ∧ (∀ p, p < t → af p = nI (bg + p)) ∧ zbits cw cop ∧ t ≤ m ∧ m ≤ 8
def zSt0 (G : zG) (σ : zH) (s : Nat) : Prop := ∃ (wf ef af : Nat → Int32) (x1 x2 x3 x4 : Int32), σ s = some (.inr (10, [.ref (s + 1), .ref (s + 3), .ref (s + 5), .int x1, .int x2, .int x3, .int x4])) ∧ zInts G σ (s + 1) 8 wf ∧ zInts G σ (s + 3) 8 ef ∧ zInts G σ (s + 5) 8 af
theorem zSt.fr {G : zG} {σ σ' : zH} {s o m t bg : Nat} {work ends : Nat → Nat} {cop : Nat → Bool} (h : zSt G σ s o m t bg work ends cop) (hf : ∀ b, s ≤ b → b < s + 7 → σ' b = σ b) : zSt G σ' s o m t bg work ends cop := by
  obtain ⟨wf, ef, af, cw, h1, h2, h3, h4, h5⟩ := h
  exact ⟨wf, ef, af, cw, (hf s (by omega) (by omega)).trans h1, h2.fr fun b a d => hf b (by omega) (by omega), h3.fr fun b a d => hf b (by omega) (by omega), h4.fr fun b a d => hf b (by omega) (by omega), h5⟩
theorem zSt0.fr {G : zG} {σ σ' : zH} {s : Nat} (h : zSt0 G σ s) (hf : ∀ b, s ≤ b → b < s + 7 → σ' b = σ b) : zSt0 G σ' s := by
  obtain ⟨wf, ef, af, x1, x2, x3, x4, h1, h2, h3, h4⟩ := h
  exact ⟨wf, ef, af, x1, x2, x3, x4, (hf s (by omega) (by omega)).trans h1, h2.fr fun b a d => hf b (by omega) (by omega), h3.fr fun b a d => hf b (by omega) (by omega), h4.fr fun b a d => hf b (by omega) (by omega)⟩
theorem zSt.to0 {G : zG} {σ : zH} {s o m t bg : Nat} {work ends : Nat → Nat} {cop : Nat → Bool} (h : zSt G σ s o m t bg work ends cop) : zSt0 G σ s := by
  obtain ⟨wf, ef, af, cw, h1, h2, h3, h4, h5⟩ := h
  exact ⟨wf, ef, af, _, _, _, _, h1, h2, h3, h4⟩
theorem zSt.c {G : zG} {σ : zH} {s o m t bg : Nat} {work ends : Nat → Nat} {cop : Nat → Bool} (h : zSt G σ s o m t bg work ends cop) : ∃ cw, σ s = some (zSC s o m t cw) ∧ t ≤ m ∧ m ≤ 8 := by
  obtain ⟨wf, ef, af, cw, h1, h2, h3, h4, h5, h6, h7, h8, h9, h10⟩ := h
  exact ⟨cw, h1, h9, h10⟩
theorem nI_sur (x : Int32) : x = nI x.toBitVec.toNat := by
  apply Int32.toBitVec_inj.mp
  show x.toBitVec = BitVec.ofNat 32 x.toBitVec.toNat
  rw [BitVec.ofNat_toNat, BitVec.setWidth_eq]
set_option maxRecDepth 100000 in
theorem c_X10_begin {G : zG} {σ : zH} {nx s o m : Nat} (h : zSt0 G σ s) (hm : m ≤ 8) : zM G yX10_begin kX10_begin [.ref s, .int (nI o), .int (nI m)] σ nx (fun v σ' nx' => v = none ∧ (∀ bg ends, ∃ work, zSt G σ' s o m 0 bg work ends (fun _ => false)) ∧ (∀ x, x ≠ s → σ' x = σ x) ∧ nx' = nx) := by
  refine zM.of (ls := [some (.ref s), some (.int (nI o)), some (.int (nI m))]) (by decide +kernel) ⟨rfl, rfl, rfl⟩ (Nat.le_of_ble_eq_true rfl) (fun _ h => h) ?_
  obtain ⟨wf, ef, af, x1, x2, x3, x4, h1, h2, h3, h4⟩ := h
  refine z_aload_n dX10_begin_0 rfl ?_
  refine z_iload_n dX10_begin_1 rfl ?_
  refine z_putf dX10_begin_2 fp_X10_26 h1 rfl rfl (Nat.le_of_ble_eq_true rfl) ?_
  refine z_aload_n dX10_begin_5 rfl ?_
  refine z_iload_n dX10_begin_6 rfl ?_
  refine z_putf dX10_begin_7 fp_X10_30 (zu_eq _ _ _) rfl rfl (Nat.le_of_ble_eq_true rfl) ?_
  refine z_aload_n dX10_begin_10 rfl ?_
  refine z_iconst (v := 0) dX10_begin_11 (by decide) ?_
  refine z_putf dX10_begin_12 fp_X10_33 (zu_eq _ _ _) rfl rfl (Nat.le_of_ble_eq_true rfl) ?_
  refine z_aload_n dX10_begin_15 rfl ?_
  refine z_iconst (v := 0) dX10_begin_16 (by decide) ?_
  refine z_putf dX10_begin_17 fp_X10_36 (zu_eq _ _ _) rfl rfl (Nat.le_of_ble_eq_true rfl) ?_
  exact z_vret dX10_begin_20 rfl (Nat.le_of_ble_eq_true rfl) (Nat.le_of_ble_eq_true rfl) ⟨rfl, fun bg ends => ⟨fun p => (wf p).toBitVec.toNat, wf, ef, af, 0, zu_eq _ _ _, h2.fr fun b a d => by rw [zu_ne (by omega), zu_ne (by omega), zu_ne (by omega), zu_ne (by omega)], h3.fr fun b a d => by rw [zu_ne (by omega), zu_ne (by omega), zu_ne (by omega), zu_ne (by omega)], h4.fr fun b a d => by rw [zu_ne (by omega), zu_ne (by omega), zu_ne (by omega), zu_ne (by omega)], fun p _ => nI_sur _, fun p q => absurd q (Nat.not_lt_zero _), fun p q => absurd q (Nat.not_lt_zero _), zbits_0, Nat.zero_le _, hm⟩, fun x hx => by rw [zu_ne hx, zu_ne hx, zu_ne hx, zu_ne hx], rfl⟩
def zun (f : Nat → Nat) (j x : Nat) : Nat → Nat := fun i => if i = j then x else f i
theorem zun_s {f : Nat → Nat} {j x : Nat} : zun f j x j = x := if_pos rfl
theorem zun_n {f : Nat → Nat} {i j x : Nat} (h : i ≠ j) : zun f j x i = f i := if_neg h
set_option maxRecDepth 100000 in
theorem c_X10_take {G : zG} {σ : zH} {nx s o m t bg x : Nat} {work ends : Nat → Nat} {cop : Nat → Bool} (h : zSt G σ s o m t bg work ends cop) (ht : t < m) : zM G yX10_take kX10_take [.ref s, .int (nI (bg + t)), .int (nI x)] σ nx (fun v σ' nx' => v = none ∧ zSt G σ' s o m (t + 1) bg work (zun ends t x) cop ∧ zFr σ σ' s 7 ∧ nx' = nx) := by
  refine zM.of (ls := [some (.ref s), some (.int (nI (bg + t))), some (.int (nI x))]) (by decide +kernel) ⟨rfl, rfl, rfl⟩ (Nat.le_of_ble_eq_true rfl) (fun _ h => h) ?_
  obtain ⟨wf, ef, af, cw, h1, h2, h3, h4, h5, h6, h7, h8, h9, h10⟩ := h
  refine z_aload_n dX10_take_0 rfl ?_
  refine z_getf dX10_take_1 fl_X10_23 h1 rfl ?_
  refine z_aload_n dX10_take_4 rfl ?_
  refine z_getf dX10_take_5 fl_X10_33 h1 rfl ?_
  refine z_iload_n dX10_take_8 rfl ?_
  refine z_callV dX10_take_9 cv_X10_39 (c_X4_set h4 (by omega)) rfl h4.1 rfl rfl ⟨(Nat.le_of_ble_eq_true rfl), (Nat.le_of_ble_eq_true rfl)⟩ (Nat.le_of_ble_eq_true rfl) (Nat.le_of_ble_eq_true rfl) (Nat.le_of_ble_eq_true rfl) (fun v σ1 nx1 hx1 hq1 => ?_)
  obtain ⟨rfl, g1, k1, rfl⟩ := hq1
  rw [zwr_nI (by omega) (by omega)] at g1
  have c1 := (k1 s (by omega)).trans h1
  have e1 := h3.fr (σ' := σ1) fun b a d => k1 b (by omega)
  refine z_aload_n dX10_take_12 rfl ?_
  refine z_getf dX10_take_13 fl_X10_20 c1 rfl ?_
  refine z_aload_n dX10_take_16 rfl ?_
  refine z_getf dX10_take_17 fl_X10_33 c1 rfl ?_
  refine z_iload_n dX10_take_20 rfl ?_
  refine z_callV dX10_take_21 cv_X10_39 (c_X4_set e1 (by omega)) rfl e1.1 rfl rfl ⟨(Nat.le_of_ble_eq_true rfl), (Nat.le_of_ble_eq_true rfl)⟩ (Nat.le_of_ble_eq_true rfl) (Nat.le_of_ble_eq_true rfl) (Nat.le_of_ble_eq_true rfl) (fun v σ2 nx2 hx2 hq2 => ?_)
  obtain ⟨rfl, g2, k2, rfl⟩ := hq2
  rw [zwr_nI (by omega) (by omega)] at g2
  have c2 := (k2 s (by omega)).trans c1
  refine z_aload_n dX10_take_24 rfl ?_
  refine z_dup dX10_take_25 rfl ?_
  refine z_getf dX10_take_26 fl_X10_33 c2 rfl ?_
  refine z_iconst (v := 1) dX10_take_29 (by decide) ?_
  refine z_iadd dX10_take_30 ?_
  rw [nI_1]
  refine z_putf dX10_take_31 fp_X10_33 c2 rfl rfl (Nat.le_of_ble_eq_true rfl) ?_
  exact z_vret dX10_take_34 rfl (Nat.le_of_ble_eq_true rfl) (Nat.le_of_ble_eq_true rfl) ⟨rfl, ⟨wf, _, _, cw, zu_eq _ _ _, h2.fr fun b a d => by rw [zu_ne (by omega), k2 b (by omega), k1 b (by omega)], g2.fr fun b a d => zu_ne (by omega), g1.fr fun b a d => by rw [zu_ne (by omega), k2 b (by omega)], h5, fun p hp => by by_cases e : p = t; · { subst e; rw [pk_us, zun_s] }; · { rw [pk_un e, zun_n e]; exact h6 p (by omega) }, fun p hp => by by_cases e : p = t; · { subst e; rw [pk_us] }; · { rw [pk_un e]; exact h7 p (by omega) }, h8, by omega, h10⟩, fun b hb => by rw [zu_ne (by omega), k2 b (by omega), k1 b (by omega)], rfl⟩
set_option maxRecDepth 100000 in
theorem c_X10_copy {G : zG} {σ : zH} {nx s o m t bg x p : Nat} {work ends : Nat → Nat} {cop : Nat → Bool} (h : zSt G σ s o m t bg work ends cop) (hp : p < t) : zM G yX10_copy kX10_copy [.ref s, .int (nI p), .int (nI x)] σ nx (fun v σ' nx' => v = none ∧ zSt G σ' s o m t bg work (zun ends p x) (zor cop p) ∧ zFr σ σ' s 7 ∧ nx' = nx) := by
  refine zM.of (ls := [some (.ref s), some (.int (nI p)), some (.int (nI x))]) (by decide +kernel) ⟨rfl, rfl, rfl⟩ (Nat.le_of_ble_eq_true rfl) (fun _ h => h) ?_
  obtain ⟨wf, ef, af, cw, h1, h2, h3, h4, h5, h6, h7, h8, h9, h10⟩ := h
  refine z_aload_n dX10_copy_0 rfl ?_
  refine z_aload_n dX10_copy_1 rfl ?_
  refine z_getf dX10_copy_2 fl_X10_36 h1 rfl ?_
  refine z_iload_n dX10_copy_5 rfl ?_
  refine z_callS dX10_copy_6 cv_X10_43 (c_X11_with (show p < 14 by omega)) rfl rfl ⟨(Nat.le_of_ble_eq_true rfl), (Nat.le_of_ble_eq_true rfl)⟩ (Nat.le_of_ble_eq_true rfl) (Nat.le_of_ble_eq_true rfl) (Nat.le_of_ble_eq_true rfl) (fun v σ1 nx1 hx1 hq1 => ?_)
  obtain ⟨rfl, rfl, rfl⟩ := hq1
  refine z_putf dX10_copy_9 fp_X10_36 h1 rfl rfl (Nat.le_of_ble_eq_true rfl) ?_
  have e1 := h3.fr (σ' := zu σ1 s (zSC s o m t (zwith cw p))) fun b a d => zu_ne (by omega)
  refine z_aload_n dX10_copy_12 rfl ?_
  refine z_getf dX10_copy_13 fl_X10_20 (zu_eq _ _ _) rfl ?_
  refine z_iload_n dX10_copy_16 rfl ?_
  refine z_iload_n dX10_copy_17 rfl ?_
  refine z_callV dX10_copy_18 cv_X10_39 (c_X4_set e1 (by omega)) rfl e1.1 rfl rfl ⟨Nat.le_of_ble_eq_true rfl, Nat.le_of_ble_eq_true rfl⟩ (Nat.le_of_ble_eq_true rfl) (Nat.le_of_ble_eq_true rfl) (Nat.le_of_ble_eq_true rfl) (fun v σ2 nx2 hx2 hq2 => ?_)
  obtain ⟨rfl, g2, k2, rfl⟩ := hq2
  rw [zwr_nI (by omega) (by omega)] at g2
  exact z_vret dX10_copy_21 rfl (Nat.le_of_ble_eq_true rfl) (Nat.le_of_ble_eq_true rfl) ⟨rfl, ⟨wf, _, af, zwith cw p, (k2 s (by omega)).trans (zu_eq _ _ _), h2.fr fun b a d => by rw [k2 b (by omega), zu_ne (by omega)], g2, h4.fr fun b a d => by rw [k2 b (by omega), zu_ne (by omega)], h5, fun q hq => by by_cases e : q = p; · { subst e; rw [pk_us, zun_s] }; · { rw [pk_un e, zun_n e]; exact h6 q (by omega) }, h7, zbits_with h8 (by omega), h9, h10⟩, fun b hb => by rw [k2 b (by omega), zu_ne (by omega)], rfl⟩
/-- how many have ended at a tick -/
def zec (ends : Nat → Nat) (tick : Nat) : Nat → Nat
  | 0 => 0
  | n + 1 => zec ends tick n + (if ends n ≤ tick then 1 else 0)
theorem zec_le (ends : Nat → Nat) (tick : Nat) : ∀ n, zec ends tick n ≤ n
  | 0 => Nat.le_refl _
  | n + 1 => by have := zec_le ends tick n; rw [zec]; split <;> omega
set_option maxRecDepth 100000 in
theorem c_X10_ended {G : zG} {σ : zH} {nx s o m t bg tick : Nat} {work ends : Nat → Nat} {cop : Nat → Bool} (h : zSt G σ s o m t bg work ends cop) (he : ∀ p, p < t → ends p < 2 ^ 31) (hk : tick < 2 ^ 31) : zM G yX10_ended kX10_ended [.ref s, .int (nI tick)] σ nx (fun v σ' nx' => v = some (.int (nI (zec ends tick t))) ∧ σ' = σ ∧ nx' = nx) := by
  refine zM.of2 (ls := [some (.ref s), some (.int (nI tick)), none, none]) (by decide +kernel) ⟨rfl, rfl, rfl⟩ (Nat.le_of_ble_eq_true rfl) (fun _ h => h) (fun Q hQ => ?_)
  obtain ⟨wf, ef, af, cw, h1, h2, h3, h4, h5, h6, h7, h8, h9, h10⟩ := h
  have loop : ∀ d n : Nat, n + d = t → zWP G kX10_ended (zFM G kX10_ended.2.2.2.1 Q) 4 [some (.ref s), some (.int (nI tick)), some (.int (nI (zec ends tick n))), some (.int (nI n))] [] σ nx 0 0 := by
    intro d
    induction d with
    | zero =>
      intro n hn
      rw [show n = t by omega]
      refine z_iload_n dX10_ended_4 rfl ?_
      refine z_aload_n dX10_ended_5 rfl ?_
      refine z_getf dX10_ended_6 fl_X10_33 h1 rfl ?_
      refine z_icmp_ge (tgt := 33) dX10_ended_9 (by decide) (fun _ => ?_) (fun q => absurd (nI_le (Nat.le_refl t) (by omega)) q)
      refine z_iload_n dX10_ended_33 rfl ?_
      exact z_iret dX10_ended_34 rfl (Nat.le_of_ble_eq_true rfl) (Nat.le_of_ble_eq_true rfl) (hQ _ _ _ ⟨rfl, rfl, rfl⟩)
    | succ d ih =>
      intro n hn
      have nxt := ih (n + 1) (by omega)
      have hen := he n (by omega)
      rw [zec] at nxt
      refine z_iload_n dX10_ended_4 rfl ?_
      refine z_aload_n dX10_ended_5 rfl ?_
      refine z_getf dX10_ended_6 fl_X10_33 h1 rfl ?_
      refine z_icmp_ge (tgt := 33) dX10_ended_9 (by decide) (fun q => absurd q (nI_ge (show n < t by omega) (by omega))) (fun _ => ?_)
      refine z_aload_n dX10_ended_12 rfl ?_
      refine z_getf dX10_ended_13 fl_X10_20 h1 rfl ?_
      refine z_iload_n dX10_ended_16 rfl ?_
      refine z_callV dX10_ended_17 cv_X10_47 (c_X4_at h3 (by omega)) rfl h3.1 rfl rfl ⟨(Nat.le_of_ble_eq_true rfl), (Nat.le_of_ble_eq_true rfl)⟩ (Nat.le_of_ble_eq_true rfl) (Nat.le_of_ble_eq_true rfl) (Nat.le_of_ble_eq_true rfl) (fun v σ1 nx1 hx1 hq1 => ?_)
      obtain ⟨rfl, rfl, rfl⟩ := hq1
      rw [zrd_nI (by omega) (by omega), h6 n (by omega)]
      refine z_iload_n dX10_ended_20 rfl ?_
      by_cases c : ends n ≤ tick
      · rw [if_pos c] at nxt
        refine z_icmp_gt (tgt := 27) dX10_ended_21 (by decide) (fun q => absurd q ((nI_nlt c hk))) (fun _ => ?_)
        refine z_inc1 dX10_ended_24 rfl (by decide) ?_
        refine z_inc1 dX10_ended_27 rfl (by decide) ?_
        refine z_goto (tgt := 4) dX10_ended_30 (by decide) ?_
        rw [nI_1, nI_1]
        exact nxt
      · rw [if_neg c] at nxt
        refine z_icmp_gt (tgt := 27) dX10_ended_21 (by decide) (fun _ => ?_) (fun q => absurd ((nI_lt (by omega) hen)) q)
        refine z_inc1 dX10_ended_27 rfl (by decide) ?_
        refine z_goto (tgt := 4) dX10_ended_30 (by decide) ?_
        rw [nI_1]
        exact nxt
  refine z_iconst (v := 0) dX10_ended_0 (by decide) ?_
  refine z_istore_n dX10_ended_1 (by decide) ?_
  refine z_iconst (v := 0) dX10_ended_2 (by decide) ?_
  refine z_istore_n dX10_ended_3 (by decide) ?_
  exact loop t 0 (by omega)
/-- the earliest end behind a tick, or the tick -/
def zea (ends : Nat → Nat) (tick : Nat) : Nat → Nat
  | 0 => tick
  | n + 1 => if tick < ends n ∧ (zea ends tick n = tick ∨ ends n < zea ends tick n) then ends n else zea ends tick n
theorem zea_lt {ends : Nat → Nat} {tick B : Nat} (hk : tick < B) : ∀ n, (∀ p, p < n → ends p < B) → zea ends tick n < B
  | 0, _ => hk
  | n + 1, h => by have := zea_lt (ends := ends) hk n fun p hp => h p (by omega); have := h n (by omega); rw [zea]; split <;> assumption
set_option maxRecDepth 100000 in
theorem c_X10_earliestEnd {G : zG} {σ : zH} {nx s o m t bg tick : Nat} {work ends : Nat → Nat} {cop : Nat → Bool} (h : zSt G σ s o m t bg work ends cop) (he : ∀ p, p < t → ends p < 2 ^ 31) (hk : tick < 2 ^ 31) : zM G yX10_earliestEnd kX10_earliestEnd [.ref s, .int (nI tick)] σ nx (fun v σ' nx' => v = some (.int (nI (zea ends tick t))) ∧ σ' = σ ∧ nx' = nx) := by
  refine zM.of2 (ls := [some (.ref s), some (.int (nI tick)), none, none, none]) (by decide +kernel) ⟨rfl, rfl, rfl⟩ (Nat.le_of_ble_eq_true rfl) (fun _ h => h) (fun Q hQ => ?_)
  obtain ⟨wf, ef, af, cw, h1, h2, h3, h4, h5, h6, h7, h8, h9, h10⟩ := h
  have loop : ∀ (d n : Nat) (x : Option Value), n + d = t → zWP G kX10_earliestEnd (zFM G kX10_earliestEnd.2.2.2.1 Q) 4 [some (.ref s), some (.int (nI tick)), some (.int (nI (zea ends tick n))), some (.int (nI n)), x] [] σ nx 0 0 := by
    intro d
    induction d with
    | zero =>
      intro n x hn
      rw [show n = t by omega]
      refine z_iload_n dX10_earliestEnd_4 rfl ?_
      refine z_aload_n dX10_earliestEnd_5 rfl ?_
      refine z_getf dX10_earliestEnd_6 fl_X10_33 h1 rfl ?_
      refine z_icmp_ge (tgt := 48) dX10_earliestEnd_9 (by decide) (fun _ => ?_) (fun q => absurd (nI_le (Nat.le_refl t) (by omega)) q)
      refine z_iload_n dX10_earliestEnd_48 rfl ?_
      exact z_iret dX10_earliestEnd_49 rfl (Nat.le_of_ble_eq_true rfl) (Nat.le_of_ble_eq_true rfl) (hQ _ _ _ ⟨rfl, rfl, rfl⟩)
    | succ d ih =>
      intro n x hn
      have nxt := fun y => ih (n + 1) y (by omega)
      have hen := he n (by omega)
      have hz := zea_lt (ends := ends) hk n fun p hp => he p (by omega)
      rw [zea] at nxt
      refine z_iload_n dX10_earliestEnd_4 rfl ?_
      refine z_aload_n dX10_earliestEnd_5 rfl ?_
      refine z_getf dX10_earliestEnd_6 fl_X10_33 h1 rfl ?_
      refine z_icmp_ge (tgt := 48) dX10_earliestEnd_9 (by decide) (fun q => absurd q (nI_ge (show n < t by omega) (by omega))) (fun _ => ?_)
      refine z_aload_n dX10_earliestEnd_12 rfl ?_
      refine z_getf dX10_earliestEnd_13 fl_X10_20 h1 rfl ?_
      refine z_iload_n dX10_earliestEnd_16 rfl ?_
      refine z_callV dX10_earliestEnd_17 cv_X10_47 (c_X4_at h3 (by omega)) rfl h3.1 rfl rfl ⟨(Nat.le_of_ble_eq_true rfl), (Nat.le_of_ble_eq_true rfl)⟩ (Nat.le_of_ble_eq_true rfl) (Nat.le_of_ble_eq_true rfl) (Nat.le_of_ble_eq_true rfl) (fun v σ1 nx1 hx1 hq1 => ?_)
      obtain ⟨rfl, rfl, rfl⟩ := hq1
      rw [zrd_nI (by omega) (by omega), h6 n (by omega)]
      refine z_istore dX10_earliestEnd_20 (by decide) ?_
      refine z_iload dX10_earliestEnd_22 rfl ?_
      refine z_iload_n dX10_earliestEnd_24 rfl ?_
      by_cases c : tick < ends n
      · refine z_icmp_le (tgt := 42) dX10_earliestEnd_25 (by decide) (fun q => absurd q ((fun q => absurd ((nI_leI hen hk).mp q) (by omega)))) (fun _ => ?_)
        refine z_iload_n dX10_earliestEnd_28 rfl ?_
        refine z_iload_n dX10_earliestEnd_29 rfl ?_
        by_cases c2 : zea ends tick n = tick
        · rw [if_pos ⟨c, Or.inl c2⟩] at nxt
          refine z_icmp_eq (tgt := 39) dX10_earliestEnd_30 (by decide) (fun _ => ?_) (fun q => absurd ((by rw [c2])) q)
          refine z_iload dX10_earliestEnd_39 rfl ?_
          refine z_istore_n dX10_earliestEnd_41 (by decide) ?_
          refine z_inc1 dX10_earliestEnd_42 rfl (by decide) ?_
          refine z_goto (tgt := 4) dX10_earliestEnd_45 (by decide) ?_
          rw [nI_1]
          exact nxt _
        · refine z_icmp_eq (tgt := 39) dX10_earliestEnd_30 (by decide) (fun q => absurd q ((fun q => c2 ((nI_eq hz hk).mp q)))) (fun _ => ?_)
          refine z_iload dX10_earliestEnd_33 rfl ?_
          refine z_iload_n dX10_earliestEnd_35 rfl ?_
          by_cases c3 : ends n < zea ends tick n
          · rw [if_pos ⟨c, Or.inr c3⟩] at nxt
            refine z_icmp_ge (tgt := 42) dX10_earliestEnd_36 (by decide) (fun q => absurd q ((nI_ge c3 hz))) (fun _ => ?_)
            refine z_iload dX10_earliestEnd_39 rfl ?_
            refine z_istore_n dX10_earliestEnd_41 (by decide) ?_
            refine z_inc1 dX10_earliestEnd_42 rfl (by decide) ?_
            refine z_goto (tgt := 4) dX10_earliestEnd_45 (by decide) ?_
            rw [nI_1]
            exact nxt _
          · rw [if_neg (fun q => by rcases q.2 with q | q; exact c2 q; exact c3 q)] at nxt
            refine z_icmp_ge (tgt := 42) dX10_earliestEnd_36 (by decide) (fun _ => ?_) (fun q => absurd ((nI_le (by omega) hen)) q)
            refine z_inc1 dX10_earliestEnd_42 rfl (by decide) ?_
            refine z_goto (tgt := 4) dX10_earliestEnd_45 (by decide) ?_
            rw [nI_1]
            exact nxt _
      · rw [if_neg (fun q => c q.1)] at nxt
        refine z_icmp_le (tgt := 42) dX10_earliestEnd_25 (by decide) (fun _ => ?_) (fun q => absurd ((nI_le (by omega) hk)) q)
        refine z_inc1 dX10_earliestEnd_42 rfl (by decide) ?_
        refine z_goto (tgt := 4) dX10_earliestEnd_45 (by decide) ?_
        rw [nI_1]
        exact nxt _
  refine z_iload_n dX10_earliestEnd_0 rfl ?_
  refine z_istore_n dX10_earliestEnd_1 (by decide) ?_
  refine z_iconst (v := 0) dX10_earliestEnd_2 (by decide) ?_
  refine z_istore_n dX10_earliestEnd_3 (by decide) ?_
  exact loop t 0 _ (by omega)
/-- the task that would end the latest, of those without a copy, and its end -/
def zlw (ends : Nat → Nat) (cop : Nat → Bool) (tick m : Nat) : Nat → Nat × Nat
  | 0 => (m, tick)
  | n + 1 => if cop n = false ∧ (zlw ends cop tick m n).2 < ends n then (n, ends n) else zlw ends cop tick m n
theorem zlw_lt {ends : Nat → Nat} {cop : Nat → Bool} {tick m : Nat} (hk : tick < 2 ^ 31) : ∀ n, (∀ p, p < n → ends p < 2 ^ 31) → (zlw ends cop tick m n).2 < 2 ^ 31 ∧ (zlw ends cop tick m n = (m, tick) ∨ (zlw ends cop tick m n).1 < n)
  | 0, _ => ⟨hk, Or.inl rfl⟩
  | n + 1, h => by
    obtain ⟨h1, h2⟩ := zlw_lt (ends := ends) (cop := cop) (m := m) hk n fun p hp => h p (by omega)
    have := h n (by omega)
    rw [zlw]
    split
    · exact ⟨this, Or.inr (Nat.lt_succ_self n)⟩
    · exact ⟨h1, h2.imp id fun q => by omega⟩
set_option maxRecDepth 100000 in
theorem c_X10_latest {G : zG} {σ : zH} {nx s o m t bg tick : Nat} {work ends : Nat → Nat} {cop : Nat → Bool} (h : zSt G σ s o m t bg work ends cop) (he : ∀ p, p < t → ends p < 2 ^ 31) (hk : tick < 2 ^ 31) : zM G yX10_latestWithoutCopy kX10_latestWithoutCopy [.ref s, .int (nI tick)] σ nx (fun v σ' nx' => v = some (.int (nI (zlw ends cop tick m t).1)) ∧ σ' = σ ∧ nx' = nx) := by
  refine zM.of2 (ls := [some (.ref s), some (.int (nI tick)), none, none, none]) (by decide +kernel) ⟨rfl, rfl, rfl⟩ (Nat.le_of_ble_eq_true rfl) (fun _ h => h) (fun Q hQ => ?_)
  obtain ⟨wf, ef, af, cw, h1, h2, h3, h4, h5, h6, h7, h8, h9, h10⟩ := h
  have loop : ∀ (d n : Nat), n + d = t → zWP G kX10_latestWithoutCopy (zFM G kX10_latestWithoutCopy.2.2.2.1 Q) 10 [some (.ref s), some (.int (nI tick)), some (.int (nI (zlw ends cop tick m n).1)), some (.int (nI (zlw ends cop tick m n).2)), some (.int (nI n))] [] σ nx 0 0 := by
    intro d
    induction d with
    | zero =>
      intro n hn
      rw [show n = t by omega]
      refine z_iload dX10_latestWithoutCopy_10 rfl ?_
      refine z_aload_n dX10_latestWithoutCopy_12 rfl ?_
      refine z_getf dX10_latestWithoutCopy_13 fl_X10_33 h1 rfl ?_
      refine z_icmp_ge (tgt := 63) dX10_latestWithoutCopy_16 (by decide) (fun _ => ?_) (fun q => absurd (nI_le (Nat.le_refl t) (by omega)) q)
      refine z_iload_n dX10_latestWithoutCopy_63 rfl ?_
      exact z_iret dX10_latestWithoutCopy_64 rfl (Nat.le_of_ble_eq_true rfl) (Nat.le_of_ble_eq_true rfl) (hQ _ _ _ ⟨rfl, rfl, rfl⟩)
    | succ d ih =>
      intro n hn
      have nxt := ih (n + 1) (by omega)
      have hen := he n (by omega)
      have hz := (zlw_lt (ends := ends) (cop := cop) (m := m) hk n fun p hp => he p (by omega)).1
      rw [zlw] at nxt
      refine z_iload dX10_latestWithoutCopy_10 rfl ?_
      refine z_aload_n dX10_latestWithoutCopy_12 rfl ?_
      refine z_getf dX10_latestWithoutCopy_13 fl_X10_33 h1 rfl ?_
      refine z_icmp_ge (tgt := 63) dX10_latestWithoutCopy_16 (by decide) (fun q => absurd q (nI_ge (show n < t by omega) (by omega))) (fun _ => ?_)
      refine z_aload_n dX10_latestWithoutCopy_19 rfl ?_
      refine z_getf dX10_latestWithoutCopy_20 fl_X10_36 h1 rfl ?_
      refine z_iload dX10_latestWithoutCopy_23 rfl ?_
      refine z_callS dX10_latestWithoutCopy_25 cv_X10_51 (c_X11_has (show n < 14 by omega)) rfl rfl ⟨(Nat.le_of_ble_eq_true rfl), (Nat.le_of_ble_eq_true rfl)⟩ (Nat.le_of_ble_eq_true rfl) (Nat.le_of_ble_eq_true rfl) (Nat.le_of_ble_eq_true rfl) (fun v σ1 nx1 hx1 hq1 => ?_)
      obtain ⟨rfl, rfl, rfl⟩ := hq1
      rw [h8.1 n (by omega)]
      by_cases c : cop n = true
      · rw [if_neg (fun q => by rw [q.1] at c; exact nomatch c)] at nxt
        rw [if_pos c]
        refine z_if_ne (tgt := 57) dX10_latestWithoutCopy_28 (by decide) (fun _ => ?_) (fun q => absurd q ((by decide)))
        refine z_inc1 dX10_latestWithoutCopy_57 rfl (by decide) ?_
        refine z_goto (tgt := 10) dX10_latestWithoutCopy_60 (by decide) ?_
        rw [nI_1]
        exact nxt
      · have c' : cop n = false := by cases q : cop n with | true => exact absurd q c | false => rfl
        rw [if_neg c]
        refine z_if_ne (tgt := 57) dX10_latestWithoutCopy_28 (by decide) (fun q => absurd (rfl) q) (fun _ => ?_)
        refine z_aload_n dX10_latestWithoutCopy_31 rfl ?_
        refine z_getf dX10_latestWithoutCopy_32 fl_X10_20 h1 rfl ?_
        refine z_iload dX10_latestWithoutCopy_35 rfl ?_
        refine z_callV dX10_latestWithoutCopy_37 cv_X10_47 (c_X4_at h3 (by omega)) rfl h3.1 rfl rfl ⟨(Nat.le_of_ble_eq_true rfl), (Nat.le_of_ble_eq_true rfl)⟩ (Nat.le_of_ble_eq_true rfl) (Nat.le_of_ble_eq_true rfl) (Nat.le_of_ble_eq_true rfl) (fun v σ2 nx2 hx2 hq2 => ?_)
        obtain ⟨rfl, rfl, rfl⟩ := hq2
        rw [zrd_nI (by omega) (by omega), h6 n (by omega)]
        refine z_iload_n dX10_latestWithoutCopy_40 rfl ?_
        by_cases c2 : (zlw ends cop tick m n).2 < ends n
        · rw [if_pos ⟨c', c2⟩] at nxt
          refine z_icmp_le (tgt := 57) dX10_latestWithoutCopy_41 (by decide) (fun q => absurd q ((fun q => absurd ((nI_leI hen hz).mp q) (by omega)))) (fun _ => ?_)
          refine z_iload dX10_latestWithoutCopy_44 rfl ?_
          refine z_istore_n dX10_latestWithoutCopy_46 (by decide) ?_
          refine z_aload_n dX10_latestWithoutCopy_47 rfl ?_
          refine z_getf dX10_latestWithoutCopy_48 fl_X10_20 h1 rfl ?_
          refine z_iload dX10_latestWithoutCopy_51 rfl ?_
          refine z_callV dX10_latestWithoutCopy_53 cv_X10_47 (c_X4_at h3 (by omega)) rfl h3.1 rfl rfl ⟨(Nat.le_of_ble_eq_true rfl), (Nat.le_of_ble_eq_true rfl)⟩ (Nat.le_of_ble_eq_true rfl) (Nat.le_of_ble_eq_true rfl) (Nat.le_of_ble_eq_true rfl) (fun v σ3 nx3 hx3 hq3 => ?_)
          obtain ⟨rfl, rfl, rfl⟩ := hq3
          rw [zrd_nI (by omega) (by omega), h6 n (by omega)]
          refine z_istore_n dX10_latestWithoutCopy_56 (by decide) ?_
          refine z_inc1 dX10_latestWithoutCopy_57 rfl (by decide) ?_
          refine z_goto (tgt := 10) dX10_latestWithoutCopy_60 (by decide) ?_
          rw [nI_1]
          exact nxt
        · rw [if_neg (fun q => c2 q.2)] at nxt
          refine z_icmp_le (tgt := 57) dX10_latestWithoutCopy_41 (by decide) (fun _ => ?_) (fun q => absurd ((nI_le (by omega) hz)) q)
          refine z_inc1 dX10_latestWithoutCopy_57 rfl (by decide) ?_
          refine z_goto (tgt := 10) dX10_latestWithoutCopy_60 (by decide) ?_
          rw [nI_1]
          exact nxt
  refine z_aload_n dX10_latestWithoutCopy_0 rfl ?_
  refine z_getf dX10_latestWithoutCopy_1 fl_X10_30 h1 rfl ?_
  refine z_istore_n dX10_latestWithoutCopy_4 (by decide) ?_
  refine z_iload_n dX10_latestWithoutCopy_5 rfl ?_
  refine z_istore_n dX10_latestWithoutCopy_6 (by decide) ?_
  refine z_iconst (v := 0) dX10_latestWithoutCopy_7 (by decide) ?_
  refine z_istore dX10_latestWithoutCopy_8 (by decide) ?_
  exact loop t 0 (by omega)
