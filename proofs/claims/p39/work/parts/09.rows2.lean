/-! Rows: rows by rising keys -/
def zins (R : zP2) (j : Nat) (q : Int32 × Int32) : zP2 := R.take j ++ q :: R.drop j
theorem zins_len {R : zP2} {j : Nat} {q : Int32 × Int32} (hj : j ≤ R.length) : (zins R j q).length = R.length + 1 := by simp [zins]; omega
theorem zins_at {R : zP2} {j i : Nat} {q : Int32 × Int32} (hj : j ≤ R.length) : (zins R j q)[i]? = if i < j then R[i]? else if i = j then some q else R[i - 1]? := by
  unfold zins
  by_cases h : i < j
  · rw [if_pos h, List.getElem?_append_left (by rw [List.length_take]; omega), List.getElem?_take_of_lt h]
  · rw [if_neg h, List.getElem?_append_right (by rw [List.length_take]; omega), List.length_take, Nat.min_eq_left hj]
    by_cases h2 : i = j
    · rw [if_pos h2, h2, Nat.sub_self, List.getElem?_cons_zero]
    · rw [if_neg h2, show i - j = (i - j - 1) + 1 by omega, List.getElem?_cons_succ, List.getElem?_drop, show j + (i - j - 1) = i - 1 by omega]
def zsh (f : Nat → Int32) (c n : Nat) : Nat → Int32 := fun i => if c < i ∧ i ≤ n then f (i - 1) else f i
theorem zsh_0 (f : Nat → Int32) (n : Nat) : zsh f n n = f := by
  funext i
  simp only [zsh]
  rw [if_neg (by omega)]
theorem zsh_s {f : Nat → Int32} {c n : Nat} (h : c + 1 ≤ n) : upd (zsh f (c + 1) n) (c + 1) (zsh f (c + 1) n c) = zsh f c n := by
  funext i
  by_cases hi : i = c + 1
  · subst hi
    rw [pk_us]
    simp only [zsh]
    rw [if_neg (by omega), if_pos (by omega), Nat.add_sub_cancel]
  · rw [pk_un hi]
    simp only [zsh]
    by_cases h1 : c < i ∧ i ≤ n
    · rw [if_pos h1, if_pos (by omega)]
    · rw [if_neg h1, if_neg (by omega)]
theorem zsh_f {f g : Nat → Int32} {R : zP2} {j n : Nat} {q : Int32 × Int32} (hn : R.length = n) (hj : j ≤ n) (h : ∀ i z, R[i]? = some z → f i = z.1 ∧ g i = z.2) : ∀ i z, (zins R j q)[i]? = some z → upd (zsh f j n) j q.1 i = z.1 ∧ upd (zsh g j n) j q.2 i = z.2 := by
  intro i z hz
  rw [zins_at (by omega)] at hz
  by_cases h1 : i < j
  · rw [if_pos h1] at hz
    rw [pk_un (by omega), pk_un (by omega)]
    simp only [zsh]
    rw [if_neg (by omega), if_neg (by omega)]
    exact h i z hz
  · rw [if_neg h1] at hz
    by_cases h2 : i = j
    · rw [if_pos h2] at hz
      cases hz
      rw [h2]
      exact ⟨pk_us, pk_us⟩
    · rw [if_neg h2] at hz
      have := zR_lt hz
      rw [pk_un h2, pk_un h2]
      simp only [zsh]
      rw [if_pos (by omega), if_pos (by omega)]
      exact h _ z hz
set_option maxRecDepth 100000 in
theorem c_X9_insert {G : zG} {σ : zH} {nx r m j : Nat} {x y : Int32} {R : zP2} {E : List Nat} (h : zRows G σ r m R E) (hm : R.length < m) (hj : j ≤ R.length) : zM G yX9_insert kX9_insert [.ref r, .int (nI j), .int x, .int y] σ nx (fun v σ' nx' => v = none ∧ zRows G σ' r m (zins R j (x, y)) E ∧ zFr σ σ' r 7 ∧ nx' = nx) := by
  refine zM.of2 (ls := [some (.ref r), some (.int (nI j)), some (.int x), some (.int y), none]) (by decide +kernel) ⟨rfl, rfl, rfl⟩ (Nat.le_of_ble_eq_true rfl) (fun _ h => h) (fun Q hQ => ?_)
  obtain ⟨kf, vf, ef, h1, h2, h3, h4, h5, h6, h7, h8, h9⟩ := h
  have fin : ∀ σ1 : zH, σ1 r = some (zRC r m R.length E.length) → zInts G σ1 (r + 1) m (zsh kf j R.length) → zInts G σ1 (r + 3) m (zsh vf j R.length) → zInts G σ1 (r + 5) 8 ef → zFr σ σ1 r 7 →
      zWP G kX9_insert (zFM G kX9_insert.2.2.2.1 Q) 70 [some (.ref r), some (.int (nI j)), some (.int x), some (.int y), some (.int (nI j))] [] σ1 nx 0 0 := by
    intro σ1 a1 a2 a3 a4 a5
    refine z_aload_n dX9_insert_70 rfl ?_
    refine z_getf dX9_insert_71 fl_X9_20 a1 rfl ?_
    refine z_iload_n dX9_insert_74 rfl ?_
    refine z_iload_n dX9_insert_75 rfl ?_
    refine z_callV dX9_insert_76 cv_X9_46 (c_X4_set a2 (by omega)) rfl a2.1 rfl rfl ⟨(Nat.le_of_ble_eq_true rfl), (Nat.le_of_ble_eq_true rfl)⟩ (Nat.le_of_ble_eq_true rfl) (Nat.le_of_ble_eq_true rfl) (Nat.le_of_ble_eq_true rfl) (fun v σ2 nx2 hx2 hq2 => ?_)
    obtain ⟨rfl, g1, g2, rfl⟩ := hq2
    have b1 : σ2 r = some (zRC r m R.length E.length) := (g2 _ (by omega)).trans a1
    have b3 := a3.fr (σ' := σ2) fun b a c => g2 b (by omega)
    refine z_aload_n dX9_insert_79 rfl ?_
    refine z_getf dX9_insert_80 fl_X9_24 b1 rfl ?_
    refine z_iload_n dX9_insert_83 rfl ?_
    refine z_iload_n dX9_insert_84 rfl ?_
    refine z_callV dX9_insert_85 cv_X9_46 (c_X4_set b3 (by omega)) rfl b3.1 rfl rfl ⟨(Nat.le_of_ble_eq_true rfl), (Nat.le_of_ble_eq_true rfl)⟩ (Nat.le_of_ble_eq_true rfl) (Nat.le_of_ble_eq_true rfl) (Nat.le_of_ble_eq_true rfl) (fun v σ3 nx3 hx3 hq3 => ?_)
    obtain ⟨rfl, g3, g4, rfl⟩ := hq3
    have c1 : σ3 r = some (zRC r m R.length E.length) := (g4 _ (by omega)).trans b1
    refine z_aload_n dX9_insert_88 rfl ?_
    refine z_dup dX9_insert_89 rfl ?_
    refine z_getf dX9_insert_90 fl_X9_30 c1 rfl ?_
    refine z_iconst (v := 1) dX9_insert_93 (by decide) ?_
    refine z_iadd dX9_insert_94 ?_
    refine z_putf dX9_insert_95 fp_X9_30 c1 rfl rfl (Nat.le_of_ble_eq_true rfl) ?_
    rw [zwr_nI (by omega) (by omega)] at g1 g3
    exact z_vret dX9_insert_98 rfl (Nat.le_of_ble_eq_true rfl) (Nat.le_of_ble_eq_true rfl) (hQ _ _ _ ⟨rfl, ⟨_, _, ef, by rw [zu_eq, nI_1, zins_len hj]; rfl, (g1.fr fun b a c => g4 b (by omega)).fr fun b a c => zu_ne (by omega), g3.fr fun b a c => zu_ne (by omega), (a4.fr fun b a c => (g4 b (by omega)).trans (g2 b (by omega))).fr fun b a c => zu_ne (by omega), zsh_f (q := (x, y)) rfl hj h5, h6, by rw [zins_len hj]; omega, h8, h9⟩, fun b hb => (zu_ne (by omega)).trans ((g4 b (by omega)).trans ((g2 b (by omega)).trans (a5 b hb))), rfl⟩)
  have loop : ∀ c : Nat, j ≤ c → c ≤ R.length → ∀ σ1 : zH, σ1 r = some (zRC r m R.length E.length) → zInts G σ1 (r + 1) m (zsh kf c R.length) → zInts G σ1 (r + 3) m (zsh vf c R.length) → zInts G σ1 (r + 5) 8 ef → zFr σ σ1 r 7 →
      zWP G kX9_insert (zFM G kX9_insert.2.2.2.1 Q) 18 [some (.ref r), some (.int (nI j)), some (.int x), some (.int y), some (.int (nI c))] [] σ1 nx 0 0 := by
    intro c
    induction c with
    | zero =>
      intro hjc hc σ1 a1 a2 a3 a4 a5
      have e0 : j = 0 := by omega
      subst e0
      refine z_iload dX9_insert_18 rfl ?_
      refine z_iload_n dX9_insert_20 rfl ?_
      refine z_icmp_le (tgt := 70) dX9_insert_21 (by decide) (fun _ => ?_) (fun q => absurd (nI_le (Nat.le_refl 0) (by omega)) q)
      exact fin σ1 a1 a2 a3 a4 a5
    | succ c ih =>
      intro hjc hc σ1 a1 a2 a3 a4 a5
      refine z_iload dX9_insert_18 rfl ?_
      refine z_iload_n dX9_insert_20 rfl ?_
      rcases Nat.lt_or_ge c j with q | q
      · have e0 : c + 1 = j := by omega
        subst e0
        refine z_icmp_le (tgt := 70) dX9_insert_21 (by decide) (fun _ => ?_) (fun q => absurd (nI_le (Nat.le_refl _) (by omega)) q)
        exact fin σ1 a1 a2 a3 a4 a5
      · refine z_icmp_le (tgt := 70) dX9_insert_21 (by decide) (fun q => absurd q (nI_ge (show j < c + 1 by omega) (by omega))) (fun _ => ?_)
        refine z_aload_n dX9_insert_24 rfl ?_
        refine z_getf dX9_insert_25 fl_X9_20 a1 rfl ?_
        refine z_iload dX9_insert_28 rfl ?_
        refine z_aload_n dX9_insert_30 rfl ?_
        refine z_getf dX9_insert_31 fl_X9_20 a1 rfl ?_
        refine z_iload dX9_insert_34 rfl ?_
        refine z_iconst (v := 1) dX9_insert_36 (by decide) ?_
        refine z_isub dX9_insert_37 ?_
        refine z_callV dX9_insert_38 cv_X9_36 (c_X4_at a2 (by omega)) rfl a2.1 rfl rfl ⟨(Nat.le_of_ble_eq_true rfl), (Nat.le_of_ble_eq_true rfl)⟩ (Nat.le_of_ble_eq_true rfl) (Nat.le_of_ble_eq_true rfl) (Nat.le_of_ble_eq_true rfl) (fun v σ2 nx2 hx2 hq2 => ?_)
        obtain ⟨rfl, rfl, rfl⟩ := hq2
        refine z_callV dX9_insert_41 cv_X9_46 (c_X4_set a2 (by omega)) rfl a2.1 rfl rfl ⟨(Nat.le_of_ble_eq_true rfl), (Nat.le_of_ble_eq_true rfl)⟩ (Nat.le_of_ble_eq_true rfl) (Nat.le_of_ble_eq_true rfl) (Nat.le_of_ble_eq_true rfl) (fun v σ3 nx3 hx3 hq3 => ?_)
        obtain ⟨rfl, g1, g2, rfl⟩ := hq3
        rw [nI_pred, zrd_nI (by omega) (by omega), zwr_nI (by omega) (by omega), zsh_s hc] at g1
        have b1 : σ3 r = some (zRC r m R.length E.length) := (g2 _ (by omega)).trans a1
        have b3 := a3.fr (σ' := σ3) fun b a c => g2 b (by omega)
        refine z_aload_n dX9_insert_44 rfl ?_
        refine z_getf dX9_insert_45 fl_X9_24 b1 rfl ?_
        refine z_iload dX9_insert_48 rfl ?_
        refine z_aload_n dX9_insert_50 rfl ?_
        refine z_getf dX9_insert_51 fl_X9_24 b1 rfl ?_
        refine z_iload dX9_insert_54 rfl ?_
        refine z_iconst (v := 1) dX9_insert_56 (by decide) ?_
        refine z_isub dX9_insert_57 ?_
        refine z_callV dX9_insert_58 cv_X9_36 (c_X4_at b3 (by omega)) rfl b3.1 rfl rfl ⟨(Nat.le_of_ble_eq_true rfl), (Nat.le_of_ble_eq_true rfl)⟩ (Nat.le_of_ble_eq_true rfl) (Nat.le_of_ble_eq_true rfl) (Nat.le_of_ble_eq_true rfl) (fun v σ4 nx4 hx4 hq4 => ?_)
        obtain ⟨rfl, rfl, rfl⟩ := hq4
        refine z_callV dX9_insert_61 cv_X9_46 (c_X4_set b3 (by omega)) rfl b3.1 rfl rfl ⟨(Nat.le_of_ble_eq_true rfl), (Nat.le_of_ble_eq_true rfl)⟩ (Nat.le_of_ble_eq_true rfl) (Nat.le_of_ble_eq_true rfl) (Nat.le_of_ble_eq_true rfl) (fun v σ5 nx5 hx5 hq5 => ?_)
        obtain ⟨rfl, g3, g4, rfl⟩ := hq5
        rw [nI_pred, zrd_nI (by omega) (by omega), zwr_nI (by omega) (by omega), zsh_s hc] at g3
        refine z_dec1 dX9_insert_64 rfl (by decide) ?_
        refine z_goto (tgt := 18) dX9_insert_67 (by decide) ?_
        rw [pk_m1]
        exact ih q (by omega) σ5 ((g4 _ (by omega)).trans b1) (g1.fr fun b a c => g4 b (by omega)) g3 (a4.fr fun b a c => (g4 b (by omega)).trans (g2 b (by omega))) (fun b hb => (g4 b (by omega)).trans ((g2 b (by omega)).trans (a5 b hb)))
  refine z_aload_n dX9_insert_0 rfl ?_
  refine z_getf dX9_insert_1 fl_X9_30 h1 rfl ?_
  refine z_aload_n dX9_insert_4 rfl ?_
  refine z_getf dX9_insert_5 fl_X9_9 h1 rfl ?_
  refine z_icmp_lt (tgt := 12) dX9_insert_8 (by decide) (fun _ => ?_) (fun q => absurd (nI_lt hm (by omega)) q)
  refine z_aload_n dX9_insert_12 rfl ?_
  refine z_getf dX9_insert_13 fl_X9_30 h1 rfl ?_
  refine z_istore dX9_insert_16 (by decide) ?_
  exact loop R.length hj (Nat.le_refl _) σ h1 (by rw [zsh_0]; exact h2) (by rw [zsh_0]; exact h3) h4 zFr.rf
set_option maxRecDepth 100000 in
theorem c_X9_hasKey {G : zG} {σ : zH} {nx r m j : Nat} {x : Int32} {R : zP2} {E : List Nat} (h : zRows G σ r m R E) (hj : j ≤ R.length) : zM G yX9_hasKey kX9_hasKey [.ref r, .int (nI j - 1), .int x] σ nx (fun v σ' nx' => v = some (.int (if 0 < j ∧ ∃ q, R[j - 1]? = some q ∧ q.1 = x then 1 else 0)) ∧ σ' = σ ∧ nx' = nx) := by
  refine zM.of (ls := [some (.ref r), some (.int (nI j - 1)), some (.int x)]) (by decide +kernel) ⟨rfl, rfl, rfl⟩ (Nat.le_of_ble_eq_true rfl) (fun _ h => h) ?_
  obtain ⟨kf, vf, ef, h1, h2, h3, h4, h5, h6, h7, h8, h9⟩ := h
  rcases Nat.eq_zero_or_pos j with e | e
  · subst e
    refine z_iload_n dX9_hasKey_0 rfl ?_
    refine z_if_lt (tgt := 28) dX9_hasKey_1 (by decide) (fun _ => ?_) (fun q => absurd ((by decide)) q)
    refine z_iconst (v := 0) dX9_hasKey_28 (by decide) ?_
    exact z_zret dX9_hasKey_29 rfl rfl (Nat.le_of_ble_eq_true rfl) (Nat.le_of_ble_eq_true rfl) ⟨by rw [if_neg (by omega)], rfl, rfl⟩
  · obtain ⟨i, rfl⟩ : ∃ i, j = i + 1 := ⟨j - 1, by omega⟩
    rw [nI_pred]
    have hg : R[i]? = some (R[i]'(by omega)) := List.getElem?_eq_getElem _
    refine z_iload_n dX9_hasKey_0 rfl ?_
    refine z_if_lt (tgt := 28) dX9_hasKey_1 (by decide) (fun q => absurd q (nI_pos (show i < 2 ^ 31 by omega))) (fun _ => ?_)
    refine z_iload_n dX9_hasKey_4 rfl ?_
    refine z_aload_n dX9_hasKey_5 rfl ?_
    refine z_getf dX9_hasKey_6 fl_X9_30 h1 rfl ?_
    refine z_icmp_ge (tgt := 28) dX9_hasKey_9 (by decide) (fun q => absurd q (nI_ge (show i < R.length by omega) (by omega))) (fun _ => ?_)
    refine z_aload_n dX9_hasKey_12 rfl ?_
    refine z_getf dX9_hasKey_13 fl_X9_20 h1 rfl ?_
    refine z_iload_n dX9_hasKey_16 rfl ?_
    refine z_callV dX9_hasKey_17 cv_X9_36 (c_X4_at h2 (by omega)) rfl h2.1 rfl rfl ⟨(Nat.le_of_ble_eq_true rfl), (Nat.le_of_ble_eq_true rfl)⟩ (Nat.le_of_ble_eq_true rfl) (Nat.le_of_ble_eq_true rfl) (Nat.le_of_ble_eq_true rfl) (fun v σ1 nx1 hx1 hq1 => ?_)
    obtain ⟨rfl, rfl, rfl⟩ := hq1
    rw [zrd_nI (by omega) (by omega), (h5 i _ hg).1]
    refine z_iload_n dX9_hasKey_20 rfl ?_
    refine z_icmp_ne (tgt := 28) dX9_hasKey_21 (by decide) (fun h21 => ?_) (fun h21 => ?_)
    · refine z_iconst (v := 0) dX9_hasKey_28 (by decide) ?_
      exact z_zret dX9_hasKey_29 rfl rfl (Nat.le_of_ble_eq_true rfl) (Nat.le_of_ble_eq_true rfl) ⟨by rw [if_neg (by rintro ⟨-, q, h1, h2⟩; rw [Nat.add_sub_cancel, hg] at h1; cases h1; exact h21 h2)], rfl, rfl⟩
    · refine z_iconst (v := 1) dX9_hasKey_24 (by decide) ?_
      refine z_goto (tgt := 29) dX9_hasKey_25 (by decide) ?_
      exact z_zret dX9_hasKey_29 rfl rfl (Nat.le_of_ble_eq_true rfl) (Nat.le_of_ble_eq_true rfl) ⟨by rw [if_pos ⟨by omega, _, by rw [Nat.add_sub_cancel]; exact hg, h21⟩], rfl, rfl⟩
/-- keys rise, not strictly -/
def zUp (R : zP2) : Prop := ∀ (i j : Nat) (a b : Int32 × Int32), i ≤ j → R[i]? = some a → R[j]? = some b → a.1 ≤ b.1
set_option maxRecDepth 100000 in
/-- placeBehind: the place behind the last row whose key is not above this one -/
theorem c_X9_placeBehind {G : zG} {σ : zH} {nx r m : Nat} {x : Int32} {R : zP2} {E : List Nat} (h : zRows G σ r m R E) (hu : zUp R) : zM G yX9_placeBehind kX9_placeBehind [.ref r, .int x] σ nx (fun v σ' nx' => (∃ j, v = some (.int (nI j)) ∧ j ≤ R.length ∧ (∀ i q, i < j → R[i]? = some q → q.1 ≤ x) ∧ ∀ i q, j ≤ i → R[i]? = some q → ¬ q.1 ≤ x) ∧ σ' = σ ∧ nx' = nx) := by
  refine zM.of2 (ls := [some (.ref r), some (.int x), none, none, none, none]) (by decide +kernel) ⟨rfl, rfl, rfl⟩ (Nat.le_of_ble_eq_true rfl) (fun _ h => h) (fun Q hQ => ?_)
  obtain ⟨kf, vf, ef, h1, h2, h3, h4, h5, h6, h7, h8, h9⟩ := h
  have loop : ∀ d s lo hi : Nat, hi - lo = d → lo ≤ hi → hi ≤ R.length → s + (hi - lo) ≤ 300 → (∀ i q, i < lo → R[i]? = some q → q.1 ≤ x) → (∀ i q, hi ≤ i → R[i]? = some q → ¬ q.1 ≤ x) → ∀ z : Option Value,
      zWP G kX9_placeBehind (zFM G kX9_placeBehind.2.2.2.1 Q) 10 [some (.ref r), some (.int x), some (.int (nI lo)), some (.int (nI hi)), some (.int (nI s)), z] [] σ nx 0 0 := by
    intro d
    induction d using Nat.strongRecOn with
    | _ d ih =>
      intro s lo hi hd hlh hhi hs hl hh z
      have fin : lo = hi → Q (some (.int (nI lo))) σ nx := fun e => hQ _ _ _ ⟨⟨lo, rfl, by omega, hl, fun i q a b => hh i q (by omega) b⟩, rfl, rfl⟩
      rcases Nat.eq_or_lt_of_le hlh with e | e
      · refine z_iload dX9_placeBehind_10 rfl ?_
        refine z_sipush (v := 300) dX9_placeBehind_12 (by decide) ?_
        refine z_icmp_ge (tgt := 60) dX9_placeBehind_15 (by decide) (fun h15 => ?_) (fun h15 => ?_)
        · refine z_iload_n dX9_placeBehind_60 rfl ?_
          exact z_iret dX9_placeBehind_61 rfl (Nat.le_of_ble_eq_true rfl) (Nat.le_of_ble_eq_true rfl) (fin e)
        · refine z_iload_n dX9_placeBehind_18 rfl ?_
          refine z_iload_n dX9_placeBehind_19 rfl ?_
          refine z_icmp_ge (tgt := 60) dX9_placeBehind_20 (by decide) (fun _ => ?_) (fun q => absurd (nI_le (by omega) (by omega)) q)
          refine z_iload_n dX9_placeBehind_60 rfl ?_
          exact z_iret dX9_placeBehind_61 rfl (Nat.le_of_ble_eq_true rfl) (Nat.le_of_ble_eq_true rfl) (fin e)
      · obtain ⟨mi, hmi⟩ : ∃ mi, mi = (lo + hi) / 2 := ⟨_, rfl⟩
        have hg : R[mi]? = some (R[mi]'(by omega)) := List.getElem?_eq_getElem _
        refine z_iload dX9_placeBehind_10 rfl ?_
        refine z_sipush (v := 300) dX9_placeBehind_12 (by decide) ?_
        refine z_icmp_ge (tgt := 60) dX9_placeBehind_15 (by decide) (fun q => absurd q ((show ¬ nI 300 ≤ nI s from nI_ge (by omega) (by omega)))) (fun _ => ?_)
        refine z_iload_n dX9_placeBehind_18 rfl ?_
        refine z_iload_n dX9_placeBehind_19 rfl ?_
        refine z_icmp_ge (tgt := 60) dX9_placeBehind_20 (by decide) (fun q => absurd q (nI_ge e (by omega))) (fun _ => ?_)
        refine z_iload_n dX9_placeBehind_23 rfl ?_
        refine z_iload_n dX9_placeBehind_24 rfl ?_
        refine z_iadd dX9_placeBehind_25 ?_
        refine z_iconst (v := 2) dX9_placeBehind_26 (by decide) ?_
        refine z_idiv dX9_placeBehind_27 (by decide) ?_
        have e2 : (nI lo + nI hi) / 2 = nI mi := by
          rw [nI_add, hmi]
          exact (show nI (lo + hi) / nI 2 = nI ((lo + hi) / 2) from pk_div (by omega) (by decide) (by decide))
        rw [e2]
        refine z_istore dX9_placeBehind_28 (by decide) ?_
        refine z_aload_n dX9_placeBehind_30 rfl ?_
        refine z_getf dX9_placeBehind_31 fl_X9_20 h1 rfl ?_
        refine z_iload dX9_placeBehind_34 rfl ?_
        refine z_callV dX9_placeBehind_36 cv_X9_36 (c_X4_at h2 (by omega)) rfl h2.1 rfl rfl ⟨(Nat.le_of_ble_eq_true rfl), (Nat.le_of_ble_eq_true rfl)⟩ (Nat.le_of_ble_eq_true rfl) (Nat.le_of_ble_eq_true rfl) (Nat.le_of_ble_eq_true rfl) (fun v σ1 nx1 hx1 hq1 => ?_)
        obtain ⟨rfl, rfl, rfl⟩ := hq1
        rw [zrd_nI (by omega) (by omega), (h5 mi _ hg).1]
        refine z_iload_n dX9_placeBehind_39 rfl ?_
        refine z_icmp_gt (tgt := 51) dX9_placeBehind_40 (by decide) (fun h40 => ?_) (fun h40 => ?_)
        · refine z_iload dX9_placeBehind_51 rfl ?_
          refine z_istore_n dX9_placeBehind_53 (by decide) ?_
          refine z_inc1 dX9_placeBehind_54 rfl (by decide) ?_
          refine z_goto (tgt := 10) dX9_placeBehind_57 (by decide) ?_
          rw [nI_1]
          refine ih (mi - lo) (by omega) (s + 1) lo mi rfl (by omega) (by omega) (by omega) hl (fun i q a b => ?_) _
          intro c
          have h9 := hu mi i _ q a hg b
          exact absurd (Int32.le_trans h9 c) (Int32.not_le.mpr h40)
        · refine z_iload dX9_placeBehind_43 rfl ?_
          refine z_iconst (v := 1) dX9_placeBehind_45 (by decide) ?_
          refine z_iadd dX9_placeBehind_46 ?_
          refine z_istore_n dX9_placeBehind_47 (by decide) ?_
          refine z_goto (tgt := 54) dX9_placeBehind_48 (by decide) ?_
          rw [nI_1]
          refine z_inc1 dX9_placeBehind_54 rfl (by decide) ?_
          refine z_goto (tgt := 10) dX9_placeBehind_57 (by decide) ?_
          rw [nI_1]
          refine ih (hi - (mi + 1)) (by omega) (s + 1) (mi + 1) hi rfl (by omega) (by omega) (by omega) (fun i q a b => ?_) hh _
          exact Int32.le_trans (hu i mi q _ (by omega) b hg) (Int32.not_lt.mp h40)
  refine z_iconst (v := 0) dX9_placeBehind_0 (by decide) ?_
  refine z_istore_n dX9_placeBehind_1 (by decide) ?_
  refine z_aload_n dX9_placeBehind_2 rfl ?_
  refine z_getf dX9_placeBehind_3 fl_X9_30 h1 rfl ?_
  refine z_istore_n dX9_placeBehind_6 (by decide) ?_
  refine z_iconst (v := 0) dX9_placeBehind_7 (by decide) ?_
  refine z_istore dX9_placeBehind_8 (by decide) ?_
  exact loop R.length 0 0 R.length (by omega) (by omega) (by omega) (by omega) (fun i q a => by omega) (fun i q a b => by have := zR_lt b; omega) none
set_option maxRecDepth 100000 in
/-- Rows(most) -/
theorem c_X9_init {G : zG} {σ : zH} {r m : Nat} (h : σ r = some (.inr (9, [.int 0, .null, .null, .null, .int 0, .int 0]))) (hm : m ≤ 300) : zM G yX9_init kX9_init [.ref r, .int (nI m)] σ (r + 1) (fun v σ' nx' => v = none ∧ zRows G σ' r m [] [] ∧ zFr σ σ' r 7 ∧ nx' = r + 7) := by
  refine zM.of (ls := [some (.ref r), some (.int (nI m))]) (by decide +kernel) ⟨rfl, rfl, rfl⟩ (Nat.le_of_ble_eq_true rfl) (fun _ h => h) ?_
  refine z_aload_n dX9_init_0 rfl ?_
  refine z_objInit dX9_init_1 cv_X9_3 (Nat.le_of_ble_eq_true rfl) (Nat.le_of_ble_eq_true rfl) ?_
  refine z_aload_n dX9_init_4 rfl ?_
  refine z_iload_n dX9_init_5 rfl ?_
  refine z_putF dX9_init_6 ff_X9_9 rfl h rfl rfl (Nat.le_of_ble_eq_true rfl) ?_
  refine z_aload_n dX9_init_9 rfl ?_
  refine z_new dX9_init_10 nw_X9_15 (Nat.le_of_ble_eq_true rfl) (Nat.le_of_ble_eq_true rfl) ?_
  refine z_dup dX9_init_13 rfl ?_
  refine z_iload_n dX9_init_14 rfl ?_
  refine z_callI dX9_init_15 cv_X9_17 (c_X4_init (zu_eq _ _ _) hm) rfl rfl ⟨(Nat.le_of_ble_eq_true rfl), (Nat.le_of_ble_eq_true rfl)⟩ (Nat.le_of_ble_eq_true rfl) (Nat.le_of_ble_eq_true rfl) (Nat.le_of_ble_eq_true rfl) (fun v σ1 nx1 hx1 hq1 => ?_)
  obtain ⟨rfl, g1, g2, rfl⟩ := hq1
  have b1 : σ1 r = some (.inr (9, [.int (nI m), .null, .null, .null, .int 0, .int 0])) := (g2 r (by omega) (by omega)).trans ((zu_ne (by omega)).trans (zu_eq _ _ _))
  refine z_putF dX9_init_18 ff_X9_20 rfl b1 rfl rfl (Nat.le_of_ble_eq_true rfl) ?_
  refine z_aload_n dX9_init_21 rfl ?_
  refine z_new dX9_init_22 nw_X9_15 (Nat.le_of_ble_eq_true rfl) (Nat.le_of_ble_eq_true rfl) ?_
  refine z_dup dX9_init_25 rfl ?_
  refine z_iload_n dX9_init_26 rfl ?_
  refine z_callI dX9_init_27 cv_X9_17 (c_X4_init (zu_eq _ _ _) hm) rfl rfl ⟨(Nat.le_of_ble_eq_true rfl), (Nat.le_of_ble_eq_true rfl)⟩ (Nat.le_of_ble_eq_true rfl) (Nat.le_of_ble_eq_true rfl) (Nat.le_of_ble_eq_true rfl) (fun v σ2 nx2 hx2 hq2 => ?_)
  obtain ⟨rfl, g3, g4, rfl⟩ := hq2
  have b2 : σ2 r = some (.inr (9, [.int (nI m), .ref (r + 1), .null, .null, .int 0, .int 0])) := (g4 r (by omega) (by omega)).trans ((zu_ne (by omega)).trans (zu_eq _ _ _))
  refine z_putF dX9_init_30 ff_X9_24 rfl b2 rfl rfl (Nat.le_of_ble_eq_true rfl) ?_
  refine z_aload_n dX9_init_33 rfl ?_
  refine z_new dX9_init_34 nw_X9_15 (Nat.le_of_ble_eq_true rfl) (Nat.le_of_ble_eq_true rfl) ?_
  refine z_dup dX9_init_37 rfl ?_
  refine z_bipush (v := 8) dX9_init_38 (by decide) ?_
  refine z_callI dX9_init_40 cv_X9_17 (c_X4_init (n := 8) (zu_eq _ _ _) (by omega)) rfl rfl ⟨Nat.le_of_ble_eq_true rfl, Nat.le_of_ble_eq_true rfl⟩ (Nat.le_of_ble_eq_true rfl) (Nat.le_of_ble_eq_true rfl) (Nat.le_of_ble_eq_true rfl) (fun v σ3 nx3 hx3 hq3 => ?_)
  obtain ⟨rfl, g5, g6, rfl⟩ := hq3
  have b3 : σ3 r = some (.inr (9, [.int (nI m), .ref (r + 1), .ref (r + 3), .null, .int 0, .int 0])) := (g6 r (by omega) (by omega)).trans ((zu_ne (by omega)).trans (zu_eq _ _ _))
  refine z_putF dX9_init_43 ff_X9_27 rfl b3 rfl rfl (Nat.le_of_ble_eq_true rfl) ?_
  exact z_vret dX9_init_46 rfl (Nat.le_of_ble_eq_true rfl) (Nat.le_of_ble_eq_true rfl) ⟨rfl, ⟨fun _ => 0, fun _ => 0, fun _ => 0, zu_eq _ _ _, g1.fr fun b a c => by rw [zu_ne (by omega), g6 b (by omega) (by omega), zu_ne (by omega), zu_ne (by omega), g4 b (by omega) (by omega), zu_ne (by omega), zu_ne (by omega)], g3.fr fun b a c => by rw [zu_ne (by omega), g6 b (by omega) (by omega), zu_ne (by omega), zu_ne (by omega)], g5.fr fun b a c => by rw [zu_ne (by omega)], fun i q z => by simp at z, fun i q z => by simp at z, Nat.zero_le _, by decide, hm⟩, fun b hb => by rw [zu_ne (by omega), g6 b (by omega) (by omega), zu_ne (by omega), zu_ne (by omega), g4 b (by omega) (by omega), zu_ne (by omega), zu_ne (by omega), g2 b (by omega) (by omega), zu_ne (by omega), zu_ne (by omega)], rfl⟩
