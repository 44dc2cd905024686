/-! Plan: which nodes are needed whole, worked out or used, and what a task reads -/
def zkd (nt : zNT) (i : Nat) : Nat := (nt.getD i zdf).2.1
def zf1 (nt : zNT) (i : Nat) : Nat := ((nt.getD i zdf).2.2.1 1).toNatClampNeg
def zf2 (nt : zNT) (i : Nat) : Nat := ((nt.getD i zdf).2.2.1 2).toNatClampNeg
def ztd (nt : zNT) (i : Nat) : Nat := ((nt.getD i zdf).2.2.1 6).toNatClampNeg
noncomputable def zct (lim : Nat) (nt : zNT) (i : Nat) : List zP2 := zcon false lim nt i
noncomputable def zbr (lim : Nat) (nt : zNT) (i : Nat) : Bool := decide (zkd nt i = 5) && decide ((zct lim nt (zf2 nt i)).flatten.length ≤ lim)
theorem zbr_iff {lim : Nat} {nt : zNT} {i : Nat} : zbr lim nt i = true ↔ zbrd lim nt i := by
  rw [zbr, Bool.and_eq_true, decide_eq_true_eq, decide_eq_true_eq]; exact Iff.rfl
def zsz (P : List zP2) (j : Nat) : Nat := (P.getD j []).length
abbrev zT3 : Type := (Nat → Bool) × (Nat → Bool) × (Nat → Bool)
def zcd (L : zNS) (j : Nat) : Bool := L.any fun q => decide (q.1 = j)
theorem zcd_iff {L : zNS} {j : Nat} : zcd L j = true ↔ zmem L j := by
  rw [zcd, List.any_eq_true]
  constructor
  · rintro ⟨q, hq, e⟩
    obtain ⟨i, hi⟩ := List.mem_iff_getElem?.mp hq
    exact ⟨i, q, hi, of_decide_eq_true e⟩
  · rintro ⟨i, q, hi, e⟩
    exact ⟨q, List.mem_of_getElem? hi, decide_eq_true e⟩
def zneed (C : Nat → Bool) (j : Nat) (t : zT3) : zT3 := if C j then (zor t.1 j, t.2.1, t.2.2) else (t.1, zor t.2.1 j, t.2.2)
def zshr (P : List zP2) (p j : Nat) : Nat := (zpart p P.flatten j).length
noncomputable def zread (lim : Nat) (nt : zNT) (C : Nat → Bool) : Nat → Nat → Nat → zT3 → zT3 × Nat
  | 0, _, _, t => (t, 0)
  | d + 1, i, j, t =>
    if C i then ((zor t.1 i, t.2.1, t.2.2), zsz (zct lim nt i) j)
    else if zkd nt i = 0 then ((t.1, t.2.1, zor t.2.2 i), zsz (zct lim nt i) j)
    else if zkd nt i = 4 then (zneed C (zf1 nt i) (t.1, t.2.1, zor t.2.2 i), zshr (zct lim nt (zf1 nt i)) (ztd nt i) j)
    else if zkd nt i = 5 then
      if zbr lim nt i then ((zread lim nt C d (zf1 nt i) j (zneed C (zf2 nt i) (t.1, t.2.1, zor t.2.2 i))).1, (zct lim nt (zf2 nt i)).flatten.length + (zread lim nt C d (zf1 nt i) j (zneed C (zf2 nt i) (t.1, t.2.1, zor t.2.2 i))).2)
      else (zneed C (zf2 nt i) (zneed C (zf1 nt i) (t.1, t.2.1, zor t.2.2 i)), zshr (zct lim nt (zf1 nt i)) (ztd nt i) j + zshr (zct lim nt (zf2 nt i)) (ztd nt i) j)
    else if zkd nt i = 3 ∧ (zct lim nt (zf1 nt i)).length ≤ j then zread lim nt C d (zf2 nt i) (j - (zct lim nt (zf1 nt i)).length) (t.1, t.2.1, zor t.2.2 i)
    else zread lim nt C d (zf1 nt i) j (t.1, t.2.1, zor t.2.2 i)
-- the heap
theorem zGH.fr {G : zG} {σ σ' : zH} {g h hi lim : Nat} {ip : Bool} {nt : zNT} {fr : Int32} (hh : zGH G σ g h hi ip lim nt fr) (hf : ∀ b, (g ≤ b ∧ b < g + 24) ∨ (h ≤ b ∧ b < h + 8) ∨ hi ≤ b → σ' b = σ b) : zGH G σ' g h hi ip lim nt fr := by
  obtain ⟨h1, h2, h3, h4⟩ := hh
  have ly := h1.ly
  refine ⟨h1.fr (fun b a c => hf b (Or.inl ⟨a, by omega⟩)) (fun b a _ => hf b (Or.inr (Or.inr a))), ⟨h2.1.fr ly fun b a => hf b (Or.inr a), fun i a c => ?_⟩, h3, h4⟩
  obtain ⟨q1, q2⟩ := h2.2 i a c
  have he : nt[i]? = some (nt[i]'q1) := List.getElem?_eq_getElem _
  have b1 := ly.1 i _ he
  have b2 := zrr_b ip (nt[i]'q1).1
  rw [zhr_at he] at q2 ⊢
  exact ⟨q1, q2.fr fun b d e => hf b (Or.inr (Or.inr (by omega)))⟩
theorem c_has_sizeOf {G : zG} {σ : zH} {nx r m j : Nat} {P : List zP2} (h : zHas G σ r m P) (hj : j < P.length) : zM G yX9_sizeOf kX9_sizeOf [.ref r, .int (nI j)] σ nx (fun v σ' nx' => v = some (.int (nI (zsz P j))) ∧ σ' = σ ∧ nx' = nx) := by
  have hg : P[j]? = some (P[j]'hj) := List.getElem?_eq_getElem _
  generalize P[j]'hj = q at hg
  have e : zbeg (zcum 0 P) j = (P.take j).flatten.length := zbeg_at (by omega)
  have := c_X9_sizeOf (nx := nx) h (zcum_at hg) (by rw [e]; omega)
  rw [e, show (P.take j).flatten.length + q.length - (P.take j).flatten.length = zsz P j by rw [zsz, List.getD_eq_getElem?_getD, hg]; simp] at this
  exact this
def zPC (p g h c : Nat) (u o w : Int32) : va_E := .inr (8, [.ref g, .ref h, .ref c, .ref (p + 1), .int o, .int w, .int u])
def zPl (G : zG) (σ : zH) (p g h c : Nat) (t : zT3) : Prop := ∃ u o w, σ p = some (zPC p g h c u o w) ∧ zbits u t.1 ∧ zbits o t.2.1 ∧ zbits w t.2.2
set_option maxRecDepth 100000 in
theorem c_X8_needWhole {G : zG} {σ : zH} {nx p g h c r j : Nat} {t : zT3} {L : zNS} (hp : zPl G σ p g h c t) (hc : zCa G σ c L r) (hj : j < 14) : zM G yX8_needWhole kX8_needWhole [.ref p, .int (nI j)] σ nx (fun v σ' nx' => v = none ∧ zPl G σ' p g h c (zneed (zcd L) j t) ∧ (∀ x, x ≠ p → σ' x = σ x) ∧ nx' = nx) := by
  refine zM.of (ls := [some (.ref p), some (.int (nI j))]) (by decide +kernel) ⟨rfl, rfl, rfl⟩ (Nat.le_of_ble_eq_true rfl) (fun _ h => h) ?_
  obtain ⟨u, o, w, h1, h2, h3, h4⟩ := hp
  obtain ⟨mem, hcc⟩ := hc.c
  refine z_aload_n dX8_needWhole_0 rfl ?_
  refine z_getf dX8_needWhole_1 fl_X8_28 h1 rfl ?_
  refine z_iload_n dX8_needWhole_4 rfl ?_
  refine z_callV dX8_needWhole_5 cv_X8_78 (c_X0_holds hc hj) rfl hcc rfl rfl ⟨(Nat.le_of_ble_eq_true rfl), (Nat.le_of_ble_eq_true rfl)⟩ (Nat.le_of_ble_eq_true rfl) (Nat.le_of_ble_eq_true rfl) (Nat.le_of_ble_eq_true rfl) (fun v σ1 nx1 hx1 hq1 => ?_)
  obtain ⟨⟨b, rfl, hb⟩, rfl, rfl⟩ := hq1
  rw [← zcd_iff] at hb
  cases b with
  | true =>
    refine z_if_eq (tgt := 26) dX8_needWhole_8 (by decide) (fun q => absurd q ((by decide))) (fun _ => ?_)
    refine z_aload_n dX8_needWhole_11 rfl ?_
    refine z_aload_n dX8_needWhole_12 rfl ?_
    refine z_getf dX8_needWhole_13 fl_X8_52 h1 rfl ?_
    refine z_iload_n dX8_needWhole_16 rfl ?_
    refine z_callS dX8_needWhole_17 cv_X8_84 (c_X11_with hj) rfl rfl ⟨(Nat.le_of_ble_eq_true rfl), (Nat.le_of_ble_eq_true rfl)⟩ (Nat.le_of_ble_eq_true rfl) (Nat.le_of_ble_eq_true rfl) (Nat.le_of_ble_eq_true rfl) (fun v σ2 nx2 hx2 hq2 => ?_)
    obtain ⟨rfl, rfl, rfl⟩ := hq2
    refine z_putf dX8_needWhole_20 fp_X8_52 h1 rfl rfl (Nat.le_of_ble_eq_true rfl) ?_
    refine z_goto (tgt := 38) dX8_needWhole_23 (by decide) ?_
    exact z_vret dX8_needWhole_38 rfl (Nat.le_of_ble_eq_true rfl) (Nat.le_of_ble_eq_true rfl) ⟨rfl, by rw [zneed, if_pos (hb.mp rfl)]; exact ⟨_, _, _, zu_eq _ _ _, zbits_with h2 hj, h3, h4⟩, fun x hx => zu_ne hx, rfl⟩
  | false =>
    have hb2 : ¬ zcd L j = true := fun q => nomatch hb.mpr q
    refine z_if_eq (tgt := 26) dX8_needWhole_8 (by decide) (fun _ => ?_) (fun q => absurd (rfl) q)
    refine z_aload_n dX8_needWhole_26 rfl ?_
    refine z_aload_n dX8_needWhole_27 rfl ?_
    refine z_getf dX8_needWhole_28 fl_X8_32 h1 rfl ?_
    refine z_iload_n dX8_needWhole_31 rfl ?_
    refine z_callS dX8_needWhole_32 cv_X8_84 (c_X11_with hj) rfl rfl ⟨(Nat.le_of_ble_eq_true rfl), (Nat.le_of_ble_eq_true rfl)⟩ (Nat.le_of_ble_eq_true rfl) (Nat.le_of_ble_eq_true rfl) (Nat.le_of_ble_eq_true rfl) (fun v σ2 nx2 hx2 hq2 => ?_)
    obtain ⟨rfl, rfl, rfl⟩ := hq2
    refine z_putf dX8_needWhole_35 fp_X8_32 h1 rfl rfl (Nat.le_of_ble_eq_true rfl) ?_
    exact z_vret dX8_needWhole_38 rfl (Nat.le_of_ble_eq_true rfl) (Nat.le_of_ble_eq_true rfl) ⟨rfl, by rw [zneed, if_neg hb2]; exact ⟨_, _, _, zu_eq _ _ _, h2, zbits_with h3 hj, h4⟩, fun x hx => zu_ne hx, rfl⟩
set_option maxRecDepth 100000 in
theorem c_X8_sizeOfShare {G : zG} {σ : zH} {nx r mm p j : Nat} {P : List zP2} (h : zHas G σ r mm P) (h0 : 0 < p) (h8 : p ≤ 8) : zM G yX8_sizeOfShare kX8_sizeOfShare [.ref r, .int (nI p), .int (nI j)] σ nx (fun v σ' nx' => v = some (.int (nI (zshr P p j))) ∧ σ' = σ ∧ nx' = nx) := by
  refine zM.of (ls := [some (.ref r), some (.int (nI p)), some (.int (nI j)), none, none]) (by decide +kernel) ⟨rfl, rfl, rfl⟩ (Nat.le_of_ble_eq_true rfl) (fun _ h => h) ?_
  have hl := h.len
  have hd : (0 : Int32) < nI p := nI_lt h0 (by omega)
  have loop : ∀ d m : Nat, m + d = P.flatten.length →
      zWP G kX8_sizeOfShare (zFM G kX8_sizeOfShare.2.2.2.1 (fun v σ' nx' => v = some (.int (nI (zshr P p j))) ∧ σ' = σ ∧ nx' = nx)) 5 [some (.ref r), some (.int (nI p)), some (.int (nI j)), some (.int (nI (zpart p (P.flatten.take m) j).length)), some (.int (nI m))] [] σ nx 0 0 := by
    intro d
    induction d with
    | zero =>
      intro m hm
      have e : zpart p (P.flatten.take m) j = zpart p P.flatten j := by rw [List.take_of_length_le (by omega)]
      rw [e]
      refine z_iload dX8_sizeOfShare_5 rfl ?_
      refine z_aload_n dX8_sizeOfShare_7 rfl ?_
      refine z_callV dX8_sizeOfShare_8 cv_X8_122 (c_X9_size h) rfl h.c rfl rfl ⟨(Nat.le_of_ble_eq_true rfl), (Nat.le_of_ble_eq_true rfl)⟩ (Nat.le_of_ble_eq_true rfl) (Nat.le_of_ble_eq_true rfl) (Nat.le_of_ble_eq_true rfl) (fun v σ2 nx2 hx2 hq2 => ?_)
      obtain ⟨rfl, rfl, rfl⟩ := hq2
      refine z_icmp_ge (tgt := 37) dX8_sizeOfShare_11 (by decide) (fun _ => ?_) (fun q => absurd (nI_le (by omega) (by omega)) q)
      refine z_iload_n dX8_sizeOfShare_37 rfl ?_
      exact z_iret dX8_sizeOfShare_38 rfl (Nat.le_of_ble_eq_true rfl) (Nat.le_of_ble_eq_true rfl) ⟨rfl, rfl, rfl⟩
    | succ d ih =>
      intro m hm
      have hg : P.flatten[m]? = some (P.flatten[m]'(by omega)) := List.getElem?_eq_getElem _
      generalize P.flatten[m]'(by omega) = q at hg
      have nxt := ih (m + 1) (by omega)
      rw [ztake hg, zpart_snoc] at nxt
      refine z_iload dX8_sizeOfShare_5 rfl ?_
      refine z_aload_n dX8_sizeOfShare_7 rfl ?_
      refine z_callV dX8_sizeOfShare_8 cv_X8_122 (c_X9_size h) rfl h.c rfl rfl ⟨(Nat.le_of_ble_eq_true rfl), (Nat.le_of_ble_eq_true rfl)⟩ (Nat.le_of_ble_eq_true rfl) (Nat.le_of_ble_eq_true rfl) (Nat.le_of_ble_eq_true rfl) (fun v σ2 nx2 hx2 hq2 => ?_)
      obtain ⟨rfl, rfl, rfl⟩ := hq2
      refine z_icmp_ge (tgt := 37) dX8_sizeOfShare_11 (by decide) (fun q => absurd q (nI_ge (show m < P.flatten.length by omega) (by omega))) (fun _ => ?_)
      refine z_aload_n dX8_sizeOfShare_14 rfl ?_
      refine z_iload dX8_sizeOfShare_15 rfl ?_
      refine z_callV dX8_sizeOfShare_17 cv_X8_138 (c_X9_key h hg) rfl h.c rfl rfl ⟨(Nat.le_of_ble_eq_true rfl), (Nat.le_of_ble_eq_true rfl)⟩ (Nat.le_of_ble_eq_true rfl) (Nat.le_of_ble_eq_true rfl) (Nat.le_of_ble_eq_true rfl) (fun v σ2 nx2 hx2 hq2 => ?_)
      obtain ⟨rfl, rfl, rfl⟩ := hq2
      refine z_iload_n dX8_sizeOfShare_20 rfl ?_
      refine z_callS dX8_sizeOfShare_21 cv_X8_141 (c_X11_modulo hd) rfl rfl ⟨(Nat.le_of_ble_eq_true rfl), (Nat.le_of_ble_eq_true rfl)⟩ (Nat.le_of_ble_eq_true rfl) (Nat.le_of_ble_eq_true rfl) (Nat.le_of_ble_eq_true rfl) (fun v σ2 nx2 hx2 hq2 => ?_)
      obtain ⟨rfl, rfl, rfl⟩ := hq2
      refine z_iload_n dX8_sizeOfShare_24 rfl ?_
      by_cases e : zmd q.1 (nI p) = nI j
      · rw [if_pos e, List.length_append, List.length_singleton] at nxt
        refine z_icmp_ne (tgt := 31) dX8_sizeOfShare_25 (by decide) (fun q => absurd (e) q) (fun _ => ?_)
        refine z_inc1 dX8_sizeOfShare_28 rfl (by decide) ?_
        refine z_inc1 dX8_sizeOfShare_31 rfl (by decide) ?_
        refine z_goto (tgt := 5) dX8_sizeOfShare_34 (by decide) ?_
        rw [nI_1, nI_1]
        exact nxt
      · rw [if_neg e, List.append_nil] at nxt
        refine z_icmp_ne (tgt := 31) dX8_sizeOfShare_25 (by decide) (fun _ => ?_) (fun q => absurd q (e))
        refine z_inc1 dX8_sizeOfShare_31 rfl (by decide) ?_
        refine z_goto (tgt := 5) dX8_sizeOfShare_34 (by decide) ?_
        rw [nI_1]
        exact nxt
  refine z_iconst (v := 0) dX8_sizeOfShare_0 (by decide) ?_
  refine z_istore_n dX8_sizeOfShare_1 (by decide) ?_
  refine z_iconst (v := 0) dX8_sizeOfShare_2 (by decide) ?_
  refine z_istore dX8_sizeOfShare_3 (by decide) ?_
  exact loop P.flatten.length 0 (by omega)
theorem zNfo {lim : Nat} {nt : zNT} (hw : zWf nt) (hl : nt.length ≤ 14) {i : Nat} (hi : i < nt.length) : ∃ e, nt[i]? = some e ∧ nt.getD i zdf = e ∧ zkd nt i = e.2.1 ∧ e.2.1 < 6 ∧
    (1 ≤ e.2.1 → zf1 nt i < i ∧ e.2.2.1 1 = nI (zf1 nt i)) ∧ (e.2.1 = 3 ∨ e.2.1 = 5 → zf2 nt i < i ∧ e.2.2.1 2 = nI (zf2 nt i)) ∧ (e.2.1 = 0 ∨ e.2.1 = 4 ∨ e.2.1 = 5 → 1 ≤ ztd nt i ∧ ztd nt i ≤ 4 ∧ e.2.2.1 6 = nI (ztd nt i)) ∧
    (1 ≤ e.2.1 → ∀ j, j < 32 → bt (zLin nt (zf1 nt i)) j = true → bt (zLin nt i) j = true) ∧ (e.2.1 = 3 ∨ e.2.1 = 5 → ∀ j, j < 32 → bt (zLin nt (zf2 nt i)) j = true → bt (zLin nt i) j = true) ∧
    (e.2.1 = 1 ∨ e.2.1 = 2 ∨ zbr lim nt i = true → (zct lim nt i).length = (zct lim nt (zf1 nt i)).length) ∧ (e.2.1 = 3 → (zct lim nt i).length = (zct lim nt (zf1 nt i)).length + (zct lim nt (zf2 nt i)).length) ∧ bt (zLin nt i) i = true := by
  have he : nt[i]? = some (nt[i]'hi) := List.getElem?_eq_getElem _
  generalize nt[i]'hi = e at he
  have eD : nt.getD i zdf = e := by rw [List.getD_eq_getElem?_getD, he]; rfl
  obtain ⟨f, s, p, k6, -, hf, -, hs, -, hp, -, -, -, -, -, -, -, -, hb⟩ := hw i e he
  have f1 : 1 ≤ e.2.1 → zf1 nt i = f := fun q => by rw [zf1, eD, (hf q).2]; exact nI_clamp (by have := (hf q).1; omega)
  have s1 : e.2.1 = 3 ∨ e.2.1 = 5 → zf2 nt i = s := fun q => by rw [zf2, eD, (hs q).2]; exact nI_clamp (by have := (hs q).1; omega)
  have p1 : e.2.1 = 0 ∨ e.2.1 = 4 ∨ e.2.1 = 5 → ztd nt i = p := fun q => by rw [ztd, eD, (hp q).2.2]; exact nI_clamp (by have := (hp q).2.1; omega)
  have hc := zcon_at (ip := false) (lim := lim) he hl k6 hf hs
  refine ⟨e, he, eD, by rw [zkd, eD], k6, fun q => ?_, fun q => ?_, fun q => ?_, fun q j hj a => ?_, fun q j hj a => ?_, fun q => ?_, fun q => ?_, (zLin_lt hw hl i hi).2⟩
  · rw [f1 q]; exact hf q
  · rw [s1 q]; exact hs q
  · rw [p1 q]; exact hp q
  · rw [f1 q] at a
    rw [zLin_at he, hb j hj]
    simp only [Bool.or_eq_true, Bool.and_eq_true, decide_eq_true_eq]
    exact Or.inl (Or.inr ⟨q, a⟩)
  · rw [s1 q] at a
    rw [zLin_at he, hb j hj]
    simp only [Bool.or_eq_true, Bool.and_eq_true, decide_eq_true_eq]
    exact Or.inr ⟨q, a⟩
  · have k1 : 1 ≤ e.2.1 := by
      rcases q with q | q | q
      · omega
      · omega
      · rw [zbr, Bool.and_eq_true, decide_eq_true_eq, decide_eq_true_eq, zkd, eD] at q; omega
    rw [zct, zct, hc, f1 k1, zcont, if_neg (by omega)]
    rcases q with q | q | q
    · rw [if_pos q, List.length_map]
    · rw [if_neg (by omega), if_pos q, List.length_map]
    · rw [zbr, Bool.and_eq_true, decide_eq_true_eq, decide_eq_true_eq, zkd, eD] at q
      rw [s1 (Or.inr q.1)] at q
      rw [if_neg (by omega), if_neg (by omega), if_neg (by omega), if_neg (by omega), if_pos ⟨rfl, q.2⟩, List.length_map]
  · rw [zct, zct, zct, hc, f1 (by omega), s1 (Or.inl q), zcont, if_neg (by omega), if_neg (by omega), if_neg (by omega), if_pos q]
    simp only [zuni, Bool.false_eq_true, if_false, List.length_append]
/-- the heap that a plan looks at -/
def zEn (G : zG) (σ : zH) (g h c hi lim : Nat) (nt : zNT) (fr : Int32) (L : zNS) (r : Nat) : Prop := zGH G σ g h hi false lim nt fr ∧ zCa G σ c L r ∧ zWf nt ∧ lim ≤ 1000 ∧ h + 8 ≤ c ∧ nt.length ≤ 14
theorem zEn.fr {G : zG} {σ σ' : zH} {g h c hi lim p n r : Nat} {nt : zNT} {fr : Int32} {L : zNS} (he : zEn G σ g h c hi lim nt fr L r) (h1 : c + 5 ≤ p) (h2 : p + n ≤ hi) (hf : zFr σ σ' p n) : zEn G σ' g h c hi lim nt fr L r :=
  ⟨he.1.fr fun b q => hf b (by have := he.1.2.2.1; have := he.2.2.2.2.1; omega), he.2.1.fr fun b a d => hf b (by omega), he.2.2⟩
/-- nothing but one cell changed -/
def zOn (p : Nat) (σ σ' : zH) : Prop := ∀ x, x ≠ p → σ' x = σ x
theorem zOn.fr {p : Nat} {σ σ' : zH} (h : zOn p σ σ') (n : Nat) : zFr σ σ' p (n + 1) := fun b hb => h b (by omega)
theorem zOn.tr {p : Nat} {σ σ' σ'' : zH} (h : zOn p σ σ') (h2 : zOn p σ' σ'') : zOn p σ σ'' := fun x hx => (h2 x hx).trans (h x hx)
theorem zEn.on {G : zG} {σ σ' : zH} {g h c hi lim p r : Nat} {nt : zNT} {fr : Int32} {L : zNS} (he : zEn G σ g h c hi lim nt fr L r) (h1 : c + 5 ≤ p) (h2 : p + 3 ≤ hi) (hf : zOn p σ σ') : zEn G σ' g h c hi lim nt fr L r := he.fr (n := 1) h1 (by omega) (hf.fr 0)
/-- the rows of a fresh node -/
theorem zEn.has {G : zG} {σ : zH} {g h c hi lim r i : Nat} {nt : zNT} {fr : Int32} {L : zNS} (he : zEn G σ g h c hi lim nt fr L r) (hil : i < nt.length) (hfr : ∀ j, j < 14 → bt (zLin nt i) j = true → bt fr j = true) : zHas G σ (zhr nt false i) (zhc nt i) (zct lim nt i) := by
  have h14 := he.2.2.2.2.2
  exact (he.1.2.1.2 i (by omega) (hfr i (by omega) (zLin_lt he.2.2.1 h14 i hil).2)).2
theorem zEn.nd {G : zG} {σ : zH} {g h c hi lim r i : Nat} {nt : zNT} {fr : Int32} {L : zNS} {e : zNX} (he : zEn G σ g h c hi lim nt fr L r) (hei : nt[i]? = some e) : σ e.1 = some (.inr (7, zNF G e.1 e.2.1 e.2.2.1)) := (he.1.1.2.2.2.1 i e hei).1.1
set_option maxRecDepth 100000 in
theorem c_X8_readsOfShares {G : zG} {σ : zH} {nx g h c hi lim p r i j : Nat} {nt : zNT} {fr : Int32} {L : zNS} {t : zT3} {e : zNX} (hG : zKap G) (he : zEn G σ g h c hi lim nt fr L r) (hp : zPl G σ p g h c t) (h1 : c + 5 ≤ p) (h2 : p + 3 ≤ hi) (hei : nt[i]? = some e) (hk : e.2.1 = 4 ∨ e.2.1 = 5) (hfr : ∀ j, j < 14 → bt (zLin nt i) j = true → bt fr j = true) :
    zM G yX8_readsOfShares kX8_readsOfShares [.ref p, .ref e.1, .int (nI j)] σ nx (fun v σ' nx' => v = some (.int (nI (if e.2.1 = 4 then zshr (zct lim nt (zf1 nt i)) (ztd nt i) j else zshr (zct lim nt (zf1 nt i)) (ztd nt i) j + zshr (zct lim nt (zf2 nt i)) (ztd nt i) j))) ∧
      zPl G σ' p g h c (if e.2.1 = 4 then zneed (zcd L) (zf1 nt i) t else zneed (zcd L) (zf2 nt i) (zneed (zcd L) (zf1 nt i) t)) ∧ zOn p σ σ' ∧ nx' = nx) := by
  refine zM.of (ls := [some (.ref p), some (.ref e.1), some (.int (nI j)), none]) (by decide +kernel) ⟨rfl, rfl, rfl⟩ (Nat.le_of_ble_eq_true rfl) (fun _ h => h) ?_
  have hw := he.2.2.1
  have hl14 := he.2.2.2.2.2
  have hil := zR_lt hei
  obtain ⟨e', q1, -, -, k6, ff, ss, pp, lf, ls, -, -, -⟩ := zNfo (lim := lim) hw hl14 hil
  rw [hei] at q1
  cases q1
  obtain ⟨f1, f2⟩ := ff (by omega)
  obtain ⟨p1, p2, p3⟩ := pp (by omega)
  have hn := he.nd hei
  obtain ⟨u0, o0, w0, hp0, hp1⟩ := id hp
  refine z_aload_n dX8_readsOfShares_0 rfl ?_
  refine z_aload_n dX8_readsOfShares_1 rfl ?_
  refine z_getf dX8_readsOfShares_2 fl_X8_125 hn rfl ?_
  rw [f2]
  refine z_callV dX8_readsOfShares_5 cv_X8_55 (c_X8_needWhole hp he.2.1 (by omega)) rfl hp0 rfl rfl ⟨(Nat.le_of_ble_eq_true rfl), (Nat.le_of_ble_eq_true rfl)⟩ (Nat.le_of_ble_eq_true rfl) (Nat.le_of_ble_eq_true rfl) (Nat.le_of_ble_eq_true rfl) (fun v σ1 nx1 hx1 hq1 => ?_)
  obtain ⟨rfl, k1, k2, rfl⟩ := hq1
  have he1 := he.on h1 h2 k2
  have hn1 := he1.nd hei
  have hF := he1.has (by omega) fun j hj a => hfr j hj (lf (by omega) j (by omega) a)
  obtain ⟨u1, o1, w1, hp1, -⟩ := id k1
  refine z_aload_n dX8_readsOfShares_8 rfl ?_
  refine z_getf dX8_readsOfShares_9 fl_X8_24 hp1 rfl ?_
  refine z_aload_n dX8_readsOfShares_12 rfl ?_
  refine z_getf dX8_readsOfShares_13 fl_X8_125 hn1 rfl ?_
  rw [f2]
  refine z_callV dX8_readsOfShares_16 cv_X8_58 (c_X3_ofn he1.1.2.1.1 he1.1.1 (by omega)) rfl he1.1.2.1.1.1 rfl rfl ⟨(Nat.le_of_ble_eq_true rfl), (Nat.le_of_ble_eq_true rfl)⟩ (Nat.le_of_ble_eq_true rfl) (Nat.le_of_ble_eq_true rfl) (Nat.le_of_ble_eq_true rfl) (fun v σ2 nx2 hx2 hq2 => ?_)
  obtain ⟨rfl, rfl, rfl⟩ := hq2
  refine z_aload_n dX8_readsOfShares_19 rfl ?_
  refine z_getf dX8_readsOfShares_20 fl_X8_131 hn1 rfl ?_
  rw [p3]
  refine z_iload_n dX8_readsOfShares_23 rfl ?_
  refine z_callS dX8_readsOfShares_24 cv_X8_134 (c_X8_sizeOfShare hF p1 (by omega)) rfl rfl ⟨(Nat.le_of_ble_eq_true rfl), (Nat.le_of_ble_eq_true rfl)⟩ (Nat.le_of_ble_eq_true rfl) (Nat.le_of_ble_eq_true rfl) (Nat.le_of_ble_eq_true rfl) (fun v σ2 nx2 hx2 hq2 => ?_)
  obtain ⟨rfl, rfl, rfl⟩ := hq2
  refine z_istore_n dX8_readsOfShares_27 (by decide) ?_
  refine z_aload_n dX8_readsOfShares_28 rfl ?_
  refine z_getf dX8_readsOfShares_29 fl_X8_95 hn1 rfl ?_
  refine z_kind dX8_readsOfShares_32 (by decide) fs_X8_112 ?_
  by_cases k5 : e.2.1 = 5
  · obtain ⟨s1, s2⟩ := ss (Or.inr k5)
    refine z_racmp_ne (tgt := 68) dX8_readsOfShares_35 (by decide) (fun q => absurd ((by rw [k5])) q) (fun _ => ?_)
    refine z_aload_n dX8_readsOfShares_38 rfl ?_
    refine z_aload_n dX8_readsOfShares_39 rfl ?_
    refine z_getf dX8_readsOfShares_40 fl_X8_119 hn1 rfl ?_
    rw [s2]
    refine z_callV dX8_readsOfShares_43 cv_X8_55 (c_X8_needWhole k1 he1.2.1 (by omega)) rfl hp1 rfl rfl ⟨(Nat.le_of_ble_eq_true rfl), (Nat.le_of_ble_eq_true rfl)⟩ (Nat.le_of_ble_eq_true rfl) (Nat.le_of_ble_eq_true rfl) (Nat.le_of_ble_eq_true rfl) (fun v σ3 nx3 hx3 hq3 => ?_)
    obtain ⟨rfl, k3, k4, rfl⟩ := hq3
    have he3 := he1.on h1 h2 k4
    have hn3 := he3.nd hei
    have hS := he3.has (by omega) fun j hj a => hfr j hj (ls (Or.inr k5) j (by omega) a)
    obtain ⟨u3, o3, w3, hp3, -⟩ := id k3
    refine z_iload_n dX8_readsOfShares_46 rfl ?_
    refine z_aload_n dX8_readsOfShares_47 rfl ?_
    refine z_getf dX8_readsOfShares_48 fl_X8_24 hp3 rfl ?_
    refine z_aload_n dX8_readsOfShares_51 rfl ?_
    refine z_getf dX8_readsOfShares_52 fl_X8_119 hn3 rfl ?_
    rw [s2]
    refine z_callV dX8_readsOfShares_55 cv_X8_58 (c_X3_ofn he3.1.2.1.1 he3.1.1 (by omega)) rfl he3.1.2.1.1.1 rfl rfl ⟨(Nat.le_of_ble_eq_true rfl), (Nat.le_of_ble_eq_true rfl)⟩ (Nat.le_of_ble_eq_true rfl) (Nat.le_of_ble_eq_true rfl) (Nat.le_of_ble_eq_true rfl) (fun v σ4 nx4 hx4 hq4 => ?_)
    obtain ⟨rfl, rfl, rfl⟩ := hq4
    refine z_aload_n dX8_readsOfShares_58 rfl ?_
    refine z_getf dX8_readsOfShares_59 fl_X8_131 hn3 rfl ?_
    rw [p3]
    refine z_iload_n dX8_readsOfShares_62 rfl ?_
    refine z_callS dX8_readsOfShares_63 cv_X8_134 (c_X8_sizeOfShare hS p1 (by omega)) rfl rfl ⟨(Nat.le_of_ble_eq_true rfl), (Nat.le_of_ble_eq_true rfl)⟩ (Nat.le_of_ble_eq_true rfl) (Nat.le_of_ble_eq_true rfl) (Nat.le_of_ble_eq_true rfl) (fun v σ4 nx4 hx4 hq4 => ?_)
    obtain ⟨rfl, rfl, rfl⟩ := hq4
    refine z_iadd dX8_readsOfShares_66 ?_
    rw [nI_add]
    refine z_istore_n dX8_readsOfShares_67 (by decide) ?_
    refine z_iload_n dX8_readsOfShares_68 rfl ?_
    exact z_iret dX8_readsOfShares_69 rfl (Nat.le_of_ble_eq_true rfl) (Nat.le_of_ble_eq_true rfl) ⟨by rw [if_neg (by omega)], by rw [if_neg (by omega)]; exact k3, zOn.tr k2 k4, rfl⟩
  · refine z_racmp_ne (tgt := 68) dX8_readsOfShares_35 (by decide) (fun _ => ?_) (fun q => absurd q ((fun q => k5 (hG _ _ k6 (by omega) q))))
    refine z_iload_n dX8_readsOfShares_68 rfl ?_
    exact z_iret dX8_readsOfShares_69 rfl (Nat.le_of_ble_eq_true rfl) (Nat.le_of_ble_eq_true rfl) ⟨by rw [if_pos (by omega)], by rw [if_pos (by omega)]; exact k1, k2, rfl⟩
set_option maxRecDepth 100000 in
set_option maxHeartbeats 4000000 in
theorem c_X8_readsOfTask {G : zG} {σ : zH} {nx g h c hi lim p r i j : Nat} {nt : zNT} {fr : Int32} {L : zNS} {t : zT3} (hG : zKap G) (he : zEn G σ g h c hi lim nt fr L r) (hp : zPl G σ p g h c t) (h1 : c + 5 ≤ p) (h2 : p + 3 ≤ hi) (hil : i < nt.length) (hj : j < (zct lim nt i).length) (hfr : ∀ j, j < 14 → bt (zLin nt i) j = true → bt fr j = true) :
    zM G yX8_readsOfTask kX8_readsOfTask [.ref p, .int (nI i), .int (nI j)] σ nx (fun v σ' nx' => v = some (.int (nI (zread lim nt (zcd L) 14 i j t).2)) ∧ zPl G σ' p g h c (zread lim nt (zcd L) 14 i j t).1 ∧ zOn p σ σ' ∧ nx' = nx) := by
  refine zM.of2 (ls := [some (.ref p), some (.int (nI i)), some (.int (nI j)), none, none, none, none, none, none, none, none]) (by decide +kernel) ⟨rfl, rfl, rfl⟩ (Nat.le_of_ble_eq_true rfl) (fun _ h => h) (fun Q hQ => ?_)
  have hw := he.2.2.1
  have hl14 := he.2.2.2.2.2
  have hlim := he.2.2.2.1
  have loop : ∀ (d s a b sum : Nat) (σ1 : zH) (t1 : zT3) (x7 x8 x9 x10 : Option Value), s + d = 14 → a < d → a < nt.length → b < (zct lim nt a).length → (∀ j, j < 14 → bt (zLin nt a) j = true → bt fr j = true) → zOn p σ σ1 → zPl G σ1 p g h c t1 →
      (∀ σ', zOn p σ σ' → zPl G σ' p g h c (zread lim nt (zcd L) d a b t1).1 → Q (some (.int (nI (sum + (zread lim nt (zcd L) d a b t1).2)))) σ' nx) →
      zWP G kX8_readsOfTask (zFM G kX8_readsOfTask.2.2.2.1 Q) 11 [some (.ref p), some (.int (nI i)), some (.int (nI j)), some (.int (nI sum)), some (.int (nI a)), some (.int (nI b)), some (.int (nI s)), x7, x8, x9, x10] [] σ1 nx 0 0 := by
    intro d
    induction d with
    | zero => intro s a b sum σ1 t1 x7 x8 x9 x10 _ ha; exact absurd ha (Nat.not_lt_zero _)
    | succ d ih =>
      intro s a b sum σ1 t1 x7 x8 x9 x10 hs ha hal hb hfa on1 hp1 hq
      have he1 := he.on h1 h2 on1
      obtain ⟨e, hei, eD, ek, k6, ff, ss, pp, lf, ls, len1, len3, -⟩ := zNfo (lim := lim) hw hl14 hal
      have hn1 := he1.nd hei
      have hA := he1.has hal hfa
      obtain ⟨u1, o1, w1, hc1, b1, b2, b3⟩ := id hp1
      obtain ⟨mem, hcc⟩ := he1.2.1.c
      rw [zread] at hq
      refine z_iload dX8_readsOfTask_11 rfl ?_
      refine z_bipush (v := 14) dX8_readsOfTask_13 (by decide) ?_
      refine z_icmp_ge (tgt := 278) dX8_readsOfTask_15 (by decide) (fun q => absurd q ((show ¬ nI 14 ≤ nI s from nI_ge (by omega) (by omega)))) (fun _ => ?_)
      refine z_aload_n dX8_readsOfTask_18 rfl ?_
      refine z_getf dX8_readsOfTask_19 fl_X8_20 hc1 rfl ?_
      refine z_iload dX8_readsOfTask_22 rfl ?_
      refine z_callV dX8_readsOfTask_24 cv_X8_87 (c_X2_at he1.1.1) rfl he1.1.1.1 rfl rfl ⟨(Nat.le_of_ble_eq_true rfl), (Nat.le_of_ble_eq_true rfl)⟩ (Nat.le_of_ble_eq_true rfl) (Nat.le_of_ble_eq_true rfl) (Nat.le_of_ble_eq_true rfl) (fun v σ2 nx2 hx2 hq2 => ?_)
      obtain ⟨rfl, rfl, rfl⟩ := hq2
      rw [znat_in hei hl14]
      refine z_astore dX8_readsOfTask_27 (by decide) ?_
      refine z_aload_n dX8_readsOfTask_29 rfl ?_
      refine z_getf dX8_readsOfTask_30 fl_X8_28 hc1 rfl ?_
      refine z_iload dX8_readsOfTask_33 rfl ?_
      refine z_callV dX8_readsOfTask_35 cv_X8_78 (c_X0_holds he1.2.1 (show a < 14 by omega)) rfl hcc rfl rfl ⟨(Nat.le_of_ble_eq_true rfl), (Nat.le_of_ble_eq_true rfl)⟩ (Nat.le_of_ble_eq_true rfl) (Nat.le_of_ble_eq_true rfl) (Nat.le_of_ble_eq_true rfl) (fun v σ2 nx2 hx2 hq2 => ?_)
      obtain ⟨⟨bc, rfl, hbc⟩, rfl, rfl⟩ := hq2
      rw [← zcd_iff] at hbc
      cases bc with
      | true =>
        rw [if_pos (hbc.mp rfl)] at hq
        refine z_if_eq (tgt := 71) dX8_readsOfTask_38 (by decide) (fun q => absurd q ((by decide))) (fun _ => ?_)
        refine z_aload_n dX8_readsOfTask_41 rfl ?_
        refine z_aload_n dX8_readsOfTask_42 rfl ?_
        refine z_getf dX8_readsOfTask_43 fl_X8_52 hc1 rfl ?_
        refine z_iload dX8_readsOfTask_46 rfl ?_
        refine z_callS dX8_readsOfTask_48 cv_X8_84 (c_X11_with (show a < 14 by omega)) rfl rfl ⟨(Nat.le_of_ble_eq_true rfl), (Nat.le_of_ble_eq_true rfl)⟩ (Nat.le_of_ble_eq_true rfl) (Nat.le_of_ble_eq_true rfl) (Nat.le_of_ble_eq_true rfl) (fun v σ3 nx3 hx3 hq3 => ?_)
        obtain ⟨rfl, rfl, rfl⟩ := hq3
        refine z_putf dX8_readsOfTask_51 fp_X8_52 hc1 rfl rfl (Nat.le_of_ble_eq_true rfl) ?_
        have on2 : zOn p σ3 (zu σ3 p (zPC p g h c (zwith u1 a) o1 w1)) := fun x hx => zu_ne hx
        have he2 := he1.on h1 h2 on2
        refine z_iload_n dX8_readsOfTask_54 rfl ?_
        refine z_aload_n dX8_readsOfTask_55 rfl ?_
        refine z_getf dX8_readsOfTask_56 fl_X8_24 (zu_eq _ _ _) rfl ?_
        refine z_iload dX8_readsOfTask_59 rfl ?_
        refine z_callV dX8_readsOfTask_61 cv_X8_58 (c_X3_ofn he2.1.2.1.1 he2.1.1 (by omega)) rfl he2.1.2.1.1.1 rfl rfl ⟨(Nat.le_of_ble_eq_true rfl), (Nat.le_of_ble_eq_true rfl)⟩ (Nat.le_of_ble_eq_true rfl) (Nat.le_of_ble_eq_true rfl) (Nat.le_of_ble_eq_true rfl) (fun v σ4 nx4 hx4 hq4 => ?_)
        obtain ⟨rfl, rfl, rfl⟩ := hq4
        refine z_iload dX8_readsOfTask_64 rfl ?_
        refine z_callV dX8_readsOfTask_66 cv_X8_92 (c_has_sizeOf (he2.has hal hfa) hb) rfl (he2.has hal hfa).c rfl rfl ⟨(Nat.le_of_ble_eq_true rfl), (Nat.le_of_ble_eq_true rfl)⟩ (Nat.le_of_ble_eq_true rfl) (Nat.le_of_ble_eq_true rfl) (Nat.le_of_ble_eq_true rfl) (fun v σ4 nx4 hx4 hq4 => ?_)
        obtain ⟨rfl, rfl, rfl⟩ := hq4
        refine z_iadd dX8_readsOfTask_69 ?_
        rw [nI_add]
        exact z_iret dX8_readsOfTask_70 rfl (Nat.le_of_ble_eq_true rfl) (Nat.le_of_ble_eq_true rfl) (hq _ (on1.tr on2) ⟨_, _, _, zu_eq _ _ _, zbits_with b1 (by omega), b2, b3⟩)
      | false =>
        rw [if_neg (show ¬ zcd L a = true from fun q => nomatch hbc.mpr q), ek] at hq
        refine z_if_eq (tgt := 71) dX8_readsOfTask_38 (by decide) (fun _ => ?_) (fun q => absurd (rfl) q)
        refine z_aload_n dX8_readsOfTask_71 rfl ?_
        refine z_aload_n dX8_readsOfTask_72 rfl ?_
        refine z_getf dX8_readsOfTask_73 fl_X8_49 hc1 rfl ?_
        refine z_iload dX8_readsOfTask_76 rfl ?_
        refine z_callS dX8_readsOfTask_78 cv_X8_84 (c_X11_with (show a < 14 by omega)) rfl rfl ⟨(Nat.le_of_ble_eq_true rfl), (Nat.le_of_ble_eq_true rfl)⟩ (Nat.le_of_ble_eq_true rfl) (Nat.le_of_ble_eq_true rfl) (Nat.le_of_ble_eq_true rfl) (fun v σ3 nx3 hx3 hq3 => ?_)
        obtain ⟨rfl, rfl, rfl⟩ := hq3
        refine z_putf dX8_readsOfTask_81 fp_X8_49 hc1 rfl rfl (Nat.le_of_ble_eq_true rfl) ?_
        obtain ⟨σ4, e4⟩ : ∃ z, z = zu σ3 p (zPC p g h c u1 o1 (zwith w1 a)) := ⟨_, rfl⟩
        have on2 : zOn p σ3 σ4 := by rw [e4]; exact fun x hx => zu_ne hx
        have cc4 : σ4 p = some (zPC p g h c u1 o1 (zwith w1 a)) := by rw [e4]; exact zu_eq _ _ _
        have hp2 : zPl G σ4 p g h c (t1.1, t1.2.1, zor t1.2.2 a) := ⟨_, _, _, cc4, b1, b2, zbits_with b3 (by omega)⟩
        have e4' : zu σ3 p (.inr (8, [Value.ref g, .ref h, .ref c, .ref (p + 1), .int o1, .int w1, .int u1].set 5 (.int (zwith w1 a)))) = σ4 := e4.symm
        rw [e4']
        have he2 := he1.on h1 h2 on2
        have on12 := on1.tr on2
        have hn2 := he2.nd hei
        refine z_aload dX8_readsOfTask_84 rfl ?_
        refine z_getf dX8_readsOfTask_86 fl_X8_95 hn2 rfl ?_
        refine z_kind dX8_readsOfTask_89 (by decide) fs_X8_101 ?_
        by_cases k0 : e.2.1 = 0
        · rw [if_pos k0] at hq
          refine z_racmp_ne (tgt := 112) dX8_readsOfTask_92 (by decide) (fun q => absurd ((by rw [k0])) q) (fun _ => ?_)
          refine z_iload_n dX8_readsOfTask_95 rfl ?_
          refine z_aload_n dX8_readsOfTask_96 rfl ?_
          refine z_getf dX8_readsOfTask_97 fl_X8_24 cc4 rfl ?_
          refine z_iload dX8_readsOfTask_100 rfl ?_
          refine z_callV dX8_readsOfTask_102 cv_X8_58 (c_X3_ofn he2.1.2.1.1 he2.1.1 (by omega)) rfl he2.1.2.1.1.1 rfl rfl ⟨(Nat.le_of_ble_eq_true rfl), (Nat.le_of_ble_eq_true rfl)⟩ (Nat.le_of_ble_eq_true rfl) (Nat.le_of_ble_eq_true rfl) (Nat.le_of_ble_eq_true rfl) (fun v σ5 nx5 hx5 hq5 => ?_)
          obtain ⟨rfl, rfl, rfl⟩ := hq5
          refine z_iload dX8_readsOfTask_105 rfl ?_
          refine z_callV dX8_readsOfTask_107 cv_X8_92 (c_has_sizeOf (he2.has hal hfa) hb) rfl (he2.has hal hfa).c rfl rfl ⟨(Nat.le_of_ble_eq_true rfl), (Nat.le_of_ble_eq_true rfl)⟩ (Nat.le_of_ble_eq_true rfl) (Nat.le_of_ble_eq_true rfl) (Nat.le_of_ble_eq_true rfl) (fun v σ5 nx5 hx5 hq5 => ?_)
          obtain ⟨rfl, rfl, rfl⟩ := hq5
          refine z_iadd dX8_readsOfTask_110 ?_
          rw [nI_add]
          exact z_iret dX8_readsOfTask_111 rfl (Nat.le_of_ble_eq_true rfl) (Nat.le_of_ble_eq_true rfl) (hq _ on12 hp2)
        · rw [if_neg k0] at hq
          obtain ⟨f1, f2⟩ := ff (by omega)
          have hfF : ∀ j, j < 14 → bt (zLin nt (zf1 nt a)) j = true → bt fr j = true := fun j hj q => hfa j hj (lf (by omega) j (by omega) q)
          have hF := he2.has (by omega) hfF
          refine z_racmp_ne (tgt := 112) dX8_readsOfTask_92 (by decide) (fun _ => ?_) (fun q => absurd q ((fun q => k0 (hG _ _ k6 (by omega) q))))
          refine z_aload_n dX8_readsOfTask_112 rfl ?_
          refine z_getf dX8_readsOfTask_113 fl_X8_24 cc4 rfl ?_
          refine z_iload dX8_readsOfTask_116 rfl ?_
          refine z_callV dX8_readsOfTask_118 cv_X8_106 (c_X3_joinsBroadly hG he2.1 hw hlim hal hfa) rfl he2.1.2.1.1.1 rfl rfl ⟨(Nat.le_of_ble_eq_true rfl), (Nat.le_of_ble_eq_true rfl)⟩ (Nat.le_of_ble_eq_true rfl) (Nat.le_of_ble_eq_true rfl) (Nat.le_of_ble_eq_true rfl) (fun v σ5 nx5 hx5 hq5 => ?_)
          obtain ⟨⟨bb, rfl, hbb⟩, rfl, rfl⟩ := hq5
          rw [← zbr_iff] at hbb
          refine z_istore dX8_readsOfTask_121 (by decide) ?_
          refine z_aload dX8_readsOfTask_123 rfl ?_
          refine z_getf dX8_readsOfTask_125 fl_X8_95 hn2 rfl ?_
          refine z_kind dX8_readsOfTask_128 (by decide) fs_X8_109 ?_
          by_cases k4 : e.2.1 = 4
          · rw [if_pos k4] at hq
            refine z_racmp_eq (tgt := 150) dX8_readsOfTask_131 (by decide) (fun _ => ?_) (fun q => absurd ((by rw [k4])) q)
            refine z_iload_n dX8_readsOfTask_150 rfl ?_
            refine z_aload_n dX8_readsOfTask_151 rfl ?_
            refine z_aload dX8_readsOfTask_152 rfl ?_
            refine z_iload dX8_readsOfTask_154 rfl ?_
            refine z_callV dX8_readsOfTask_156 cv_X8_115 (c_X8_readsOfShares hG he2 hp2 h1 h2 hei (Or.inl k4) hfa) rfl cc4 rfl rfl ⟨(Nat.le_of_ble_eq_true rfl), (Nat.le_of_ble_eq_true rfl)⟩ (Nat.le_of_ble_eq_true rfl) (Nat.le_of_ble_eq_true rfl) (Nat.le_of_ble_eq_true rfl) (fun v σ6 nx6 hx6 hq6 => ?_)
            rw [if_pos k4, if_pos k4] at hq6
            obtain ⟨rfl, hp6, on6, rfl⟩ := hq6
            refine z_iadd dX8_readsOfTask_159 ?_
            rw [nI_add]
            exact z_iret dX8_readsOfTask_160 rfl (Nat.le_of_ble_eq_true rfl) (Nat.le_of_ble_eq_true rfl) (hq _ (on12.tr on6) hp6)
          · rw [if_neg k4] at hq
            refine z_racmp_eq (tgt := 150) dX8_readsOfTask_131 (by decide) (fun q => absurd q ((fun q => k4 (hG _ _ k6 (by omega) q)))) (fun _ => ?_)
            refine z_aload dX8_readsOfTask_134 rfl ?_
            refine z_getf dX8_readsOfTask_136 fl_X8_95 hn2 rfl ?_
            refine z_kind dX8_readsOfTask_139 (by decide) fs_X8_112 ?_
            by_cases k5 : e.2.1 = 5
            · rw [if_pos k5] at hq
              obtain ⟨s1, s2⟩ := ss (Or.inr k5)
              have hfS : ∀ j, j < 14 → bt (zLin nt (zf2 nt a)) j = true → bt fr j = true := fun j hj q => hfa j hj (ls (Or.inr k5) j (by omega) q)
              refine z_racmp_ne (tgt := 161) dX8_readsOfTask_142 (by decide) (fun q => absurd ((by rw [k5])) q) (fun _ => ?_)
              refine z_iload dX8_readsOfTask_145 rfl ?_
              cases bb with
              | false =>
                rw [if_neg (show ¬ zbr lim nt a = true from fun q => nomatch hbb.mpr q)] at hq
                refine z_if_ne (tgt := 161) dX8_readsOfTask_147 (by decide) (fun q => absurd (rfl) q) (fun _ => ?_)
                refine z_iload_n dX8_readsOfTask_150 rfl ?_
                refine z_aload_n dX8_readsOfTask_151 rfl ?_
                refine z_aload dX8_readsOfTask_152 rfl ?_
                refine z_iload dX8_readsOfTask_154 rfl ?_
                refine z_callV dX8_readsOfTask_156 cv_X8_115 (c_X8_readsOfShares hG he2 hp2 h1 h2 hei (Or.inr k5) hfa) rfl cc4 rfl rfl ⟨(Nat.le_of_ble_eq_true rfl), (Nat.le_of_ble_eq_true rfl)⟩ (Nat.le_of_ble_eq_true rfl) (Nat.le_of_ble_eq_true rfl) (Nat.le_of_ble_eq_true rfl) (fun v σ6 nx6 hx6 hq6 => ?_)
                rw [if_neg k4, if_neg k4] at hq6
                obtain ⟨rfl, hp6, on6, rfl⟩ := hq6
                refine z_iadd dX8_readsOfTask_159 ?_
                rw [nI_add]
                exact z_iret dX8_readsOfTask_160 rfl (Nat.le_of_ble_eq_true rfl) (Nat.le_of_ble_eq_true rfl) (hq _ (on12.tr on6) hp6)
              | true =>
                have hbr := hbb.mp rfl
                rw [if_pos hbr] at hq
                refine z_if_ne (tgt := 161) dX8_readsOfTask_147 (by decide) (fun _ => ?_) (fun q => absurd q ((by decide)))
                refine z_iload dX8_readsOfTask_161 rfl ?_
                refine z_if_eq (tgt := 193) dX8_readsOfTask_163 (by decide) (fun q => absurd q ((by decide))) (fun _ => ?_)
                refine z_aload_n dX8_readsOfTask_166 rfl ?_
                refine z_aload dX8_readsOfTask_167 rfl ?_
                refine z_getf dX8_readsOfTask_169 fl_X8_119 hn2 rfl ?_
                rw [s2]
                refine z_callV dX8_readsOfTask_172 cv_X8_55 (c_X8_needWhole hp2 he2.2.1 (show zf2 nt a < 14 by omega)) rfl cc4 rfl rfl ⟨(Nat.le_of_ble_eq_true rfl), (Nat.le_of_ble_eq_true rfl)⟩ (Nat.le_of_ble_eq_true rfl) (Nat.le_of_ble_eq_true rfl) (Nat.le_of_ble_eq_true rfl) (fun v σ6 nx6 hx6 hq6 => ?_)
                obtain ⟨rfl, hp6, on6, rfl⟩ := hq6
                have on6' : zOn p σ σ6 := on12.tr on6
                have he6 := he2.on h1 h2 on6
                have hn6 := he6.nd hei
                have hS := he6.has (by omega) hfS
                have hF6 := he6.has (by omega) hfF
                obtain ⟨u6, o6, w6, cc6, -⟩ := id hp6
                refine z_iload_n dX8_readsOfTask_175 rfl ?_
                refine z_aload_n dX8_readsOfTask_176 rfl ?_
                refine z_getf dX8_readsOfTask_177 fl_X8_24 cc6 rfl ?_
                refine z_aload dX8_readsOfTask_180 rfl ?_
                refine z_getf dX8_readsOfTask_182 fl_X8_119 hn6 rfl ?_
                rw [s2]
                refine z_callV dX8_readsOfTask_185 cv_X8_58 (c_X3_ofn he6.1.2.1.1 he6.1.1 (by omega)) rfl he6.1.2.1.1.1 rfl rfl ⟨(Nat.le_of_ble_eq_true rfl), (Nat.le_of_ble_eq_true rfl)⟩ (Nat.le_of_ble_eq_true rfl) (Nat.le_of_ble_eq_true rfl) (Nat.le_of_ble_eq_true rfl) (fun v σ7 nx7 hx7 hq7 => ?_)
                obtain ⟨rfl, rfl, rfl⟩ := hq7
                refine z_callV dX8_readsOfTask_188 cv_X8_122 (c_X9_size hS) rfl hS.c rfl rfl ⟨(Nat.le_of_ble_eq_true rfl), (Nat.le_of_ble_eq_true rfl)⟩ (Nat.le_of_ble_eq_true rfl) (Nat.le_of_ble_eq_true rfl) (Nat.le_of_ble_eq_true rfl) (fun v σ7 nx7 hx7 hq7 => ?_)
                obtain ⟨rfl, rfl, rfl⟩ := hq7
                refine z_iadd dX8_readsOfTask_191 ?_
                rw [nI_add]
                refine z_istore_n dX8_readsOfTask_192 (by decide) ?_
                refine z_aload_n dX8_readsOfTask_193 rfl ?_
                refine z_getf dX8_readsOfTask_194 fl_X8_24 cc6 rfl ?_
                refine z_aload dX8_readsOfTask_197 rfl ?_
                refine z_getf dX8_readsOfTask_199 fl_X8_125 hn6 rfl ?_
                rw [f2]
                refine z_callV dX8_readsOfTask_202 cv_X8_58 (c_X3_ofn he6.1.2.1.1 he6.1.1 (by omega)) rfl he6.1.2.1.1.1 rfl rfl ⟨(Nat.le_of_ble_eq_true rfl), (Nat.le_of_ble_eq_true rfl)⟩ (Nat.le_of_ble_eq_true rfl) (Nat.le_of_ble_eq_true rfl) (Nat.le_of_ble_eq_true rfl) (fun v σ7 nx7 hx7 hq7 => ?_)
                obtain ⟨rfl, rfl, rfl⟩ := hq7
                refine z_callV dX8_readsOfTask_205 cv_X8_64 (c_X9_parts hF6) rfl hF6.c rfl rfl ⟨(Nat.le_of_ble_eq_true rfl), (Nat.le_of_ble_eq_true rfl)⟩ (Nat.le_of_ble_eq_true rfl) (Nat.le_of_ble_eq_true rfl) (Nat.le_of_ble_eq_true rfl) (fun v σ7 nx7 hx7 hq7 => ?_)
                obtain ⟨rfl, rfl, rfl⟩ := hq7
                refine z_istore dX8_readsOfTask_208 (by decide) ?_
                refine z_aload dX8_readsOfTask_210 rfl ?_
                refine z_getf dX8_readsOfTask_212 fl_X8_95 hn6 rfl ?_
                refine z_kind dX8_readsOfTask_215 (by decide) fs_X8_128 ?_
                refine z_racmp_ne (tgt := 232) dX8_readsOfTask_218 (by decide) (fun _ => ?_) (fun q => absurd q ((fun q => absurd (hG _ _ k6 (by omega) q) (by omega))))
                refine z_iconst (v := 0) dX8_readsOfTask_232 (by decide) ?_
                refine z_istore dX8_readsOfTask_233 (by decide) ?_
                refine z_iload dX8_readsOfTask_235 rfl ?_
                refine z_if_eq (tgt := 248) dX8_readsOfTask_237 (by decide) (fun _ => ?_) (fun q => absurd (rfl) q)
                refine z_iload dX8_readsOfTask_248 rfl ?_
                refine z_istore dX8_readsOfTask_250 (by decide) ?_
                refine z_iload dX8_readsOfTask_252 rfl ?_
                refine z_if_eq (tgt := 265) dX8_readsOfTask_254 (by decide) (fun _ => ?_) (fun q => absurd (rfl) q)
                refine z_aload dX8_readsOfTask_265 rfl ?_
                refine z_getf dX8_readsOfTask_267 fl_X8_125 hn6 rfl ?_
                rw [f2]
                refine z_istore dX8_readsOfTask_270 (by decide) ?_
                refine z_inc1 dX8_readsOfTask_272 rfl (by decide) ?_
                refine z_goto (tgt := 11) dX8_readsOfTask_275 (by decide) ?_
                rw [nI_1]
                refine ih (s + 1) (zf1 nt a) b _ σ7 _ _ _ _ _ (by omega) (by omega) (by omega) (by rw [← len1 (Or.inr (Or.inr hbr))]; exact hb) hfF on6' hp6 (fun σ' a1 a2 => ?_)
                have := hq σ' a1 a2
                rwa [← Nat.add_assoc] at this
            · rw [if_neg k5] at hq
              have hbn : ¬ zbr lim nt a = true := fun q => by rw [zbr, Bool.and_eq_true, decide_eq_true_eq, ek] at q; exact k5 q.1
              have ebb : bb = false := by
                cases bb with
                | true => exact absurd (hbb.mp rfl) hbn
                | false => rfl
              subst ebb
              refine z_racmp_ne (tgt := 161) dX8_readsOfTask_142 (by decide) (fun _ => ?_) (fun q => absurd q ((fun q => k5 (hG _ _ k6 (by omega) q))))
              refine z_iload dX8_readsOfTask_161 rfl ?_
              refine z_if_eq (tgt := 193) dX8_readsOfTask_163 (by decide) (fun _ => ?_) (fun q => absurd (rfl) q)
              refine z_aload_n dX8_readsOfTask_193 rfl ?_
              refine z_getf dX8_readsOfTask_194 fl_X8_24 cc4 rfl ?_
              refine z_aload dX8_readsOfTask_197 rfl ?_
              refine z_getf dX8_readsOfTask_199 fl_X8_125 hn2 rfl ?_
              rw [f2]
              refine z_callV dX8_readsOfTask_202 cv_X8_58 (c_X3_ofn he2.1.2.1.1 he2.1.1 (by omega)) rfl he2.1.2.1.1.1 rfl rfl ⟨(Nat.le_of_ble_eq_true rfl), (Nat.le_of_ble_eq_true rfl)⟩ (Nat.le_of_ble_eq_true rfl) (Nat.le_of_ble_eq_true rfl) (Nat.le_of_ble_eq_true rfl) (fun v σ7 nx7 hx7 hq7 => ?_)
              obtain ⟨rfl, rfl, rfl⟩ := hq7
              refine z_callV dX8_readsOfTask_205 cv_X8_64 (c_X9_parts hF) rfl hF.c rfl rfl ⟨(Nat.le_of_ble_eq_true rfl), (Nat.le_of_ble_eq_true rfl)⟩ (Nat.le_of_ble_eq_true rfl) (Nat.le_of_ble_eq_true rfl) (Nat.le_of_ble_eq_true rfl) (fun v σ7 nx7 hx7 hq7 => ?_)
              obtain ⟨rfl, rfl, rfl⟩ := hq7
              rw [zcum_len]
              have hF8 := hF.len.1
              have hA8 := hA.len.1
              refine z_istore dX8_readsOfTask_208 (by decide) ?_
              refine z_aload dX8_readsOfTask_210 rfl ?_
              refine z_getf dX8_readsOfTask_212 fl_X8_95 hn2 rfl ?_
              refine z_kind dX8_readsOfTask_215 (by decide) fs_X8_128 ?_
              by_cases k3 : e.2.1 = 3
              · obtain ⟨s1, s2⟩ := ss (Or.inl k3)
                have hfS : ∀ j, j < 14 → bt (zLin nt (zf2 nt a)) j = true → bt fr j = true := fun j hj q => hfa j hj (ls (Or.inl k3) j (by omega) q)
                refine z_racmp_ne (tgt := 232) dX8_readsOfTask_218 (by decide) (fun q => absurd ((by rw [k3])) q) (fun _ => ?_)
                refine z_iload dX8_readsOfTask_221 rfl ?_
                refine z_iload dX8_readsOfTask_223 rfl ?_
                by_cases hsec : (zct lim nt (zf1 nt a)).length ≤ b
                · rw [if_pos ⟨k3, hsec⟩] at hq
                  refine z_icmp_lt (tgt := 232) dX8_readsOfTask_225 (by decide) (fun q => absurd q ((nI_nlt hsec (by omega)))) (fun _ => ?_)
                  refine z_iconst (v := 1) dX8_readsOfTask_228 (by decide) ?_
                  refine z_goto (tgt := 233) dX8_readsOfTask_229 (by decide) ?_
                  refine z_istore dX8_readsOfTask_233 (by decide) ?_
                  refine z_iload dX8_readsOfTask_235 rfl ?_
                  refine z_if_eq (tgt := 248) dX8_readsOfTask_237 (by decide) (fun q => absurd q ((by decide))) (fun _ => ?_)
                  refine z_iload dX8_readsOfTask_240 rfl ?_
                  refine z_iload dX8_readsOfTask_242 rfl ?_
                  refine z_isub dX8_readsOfTask_244 ?_
                  rw [pk_sub hsec]
                  refine z_goto (tgt := 250) dX8_readsOfTask_245 (by decide) ?_
                  refine z_istore dX8_readsOfTask_250 (by decide) ?_
                  refine z_iload dX8_readsOfTask_252 rfl ?_
                  refine z_if_eq (tgt := 265) dX8_readsOfTask_254 (by decide) (fun q => absurd q ((by decide))) (fun _ => ?_)
                  refine z_aload dX8_readsOfTask_257 rfl ?_
                  refine z_getf dX8_readsOfTask_259 fl_X8_119 hn2 rfl ?_
                  rw [s2]
                  refine z_goto (tgt := 270) dX8_readsOfTask_262 (by decide) ?_
                  refine z_istore dX8_readsOfTask_270 (by decide) ?_
                  refine z_inc1 dX8_readsOfTask_272 rfl (by decide) ?_
                  refine z_goto (tgt := 11) dX8_readsOfTask_275 (by decide) ?_
                  rw [nI_1]
                  exact ih (s + 1) (zf2 nt a) _ _ σ7 _ _ _ _ _ (by omega) (by omega) (by omega) (by have := len3 k3; omega) hfS on12 hp2 hq
                · rw [if_neg (fun q => hsec q.2)] at hq
                  refine z_icmp_lt (tgt := 232) dX8_readsOfTask_225 (by decide) (fun _ => ?_) (fun q => absurd ((nI_lt (by omega) (by omega))) q)
                  refine z_iconst (v := 0) dX8_readsOfTask_232 (by decide) ?_
                  refine z_istore dX8_readsOfTask_233 (by decide) ?_
                  refine z_iload dX8_readsOfTask_235 rfl ?_
                  refine z_if_eq (tgt := 248) dX8_readsOfTask_237 (by decide) (fun _ => ?_) (fun q => absurd (rfl) q)
                  refine z_iload dX8_readsOfTask_248 rfl ?_
                  refine z_istore dX8_readsOfTask_250 (by decide) ?_
                  refine z_iload dX8_readsOfTask_252 rfl ?_
                  refine z_if_eq (tgt := 265) dX8_readsOfTask_254 (by decide) (fun _ => ?_) (fun q => absurd (rfl) q)
                  refine z_aload dX8_readsOfTask_265 rfl ?_
                  refine z_getf dX8_readsOfTask_267 fl_X8_125 hn2 rfl ?_
                  rw [f2]
                  refine z_istore dX8_readsOfTask_270 (by decide) ?_
                  refine z_inc1 dX8_readsOfTask_272 rfl (by decide) ?_
                  refine z_goto (tgt := 11) dX8_readsOfTask_275 (by decide) ?_
                  rw [nI_1]
                  exact ih (s + 1) (zf1 nt a) _ _ σ7 _ _ _ _ _ (by omega) (by omega) (by omega) (by omega) hfF on12 hp2 hq
              · rw [if_neg (fun q => k3 q.1)] at hq
                refine z_racmp_ne (tgt := 232) dX8_readsOfTask_218 (by decide) (fun _ => ?_) (fun q => absurd q ((fun q => k3 (hG _ _ k6 (by omega) q))))
                refine z_iconst (v := 0) dX8_readsOfTask_232 (by decide) ?_
                refine z_istore dX8_readsOfTask_233 (by decide) ?_
                refine z_iload dX8_readsOfTask_235 rfl ?_
                refine z_if_eq (tgt := 248) dX8_readsOfTask_237 (by decide) (fun _ => ?_) (fun q => absurd (rfl) q)
                refine z_iload dX8_readsOfTask_248 rfl ?_
                refine z_istore dX8_readsOfTask_250 (by decide) ?_
                refine z_iload dX8_readsOfTask_252 rfl ?_
                refine z_if_eq (tgt := 265) dX8_readsOfTask_254 (by decide) (fun _ => ?_) (fun q => absurd (rfl) q)
                refine z_aload dX8_readsOfTask_265 rfl ?_
                refine z_getf dX8_readsOfTask_267 fl_X8_125 hn2 rfl ?_
                rw [f2]
                refine z_istore dX8_readsOfTask_270 (by decide) ?_
                refine z_inc1 dX8_readsOfTask_272 rfl (by decide) ?_
                refine z_goto (tgt := 11) dX8_readsOfTask_275 (by decide) ?_
                rw [nI_1]
                exact ih (s + 1) (zf1 nt a) _ _ σ7 _ _ _ _ _ (by omega) (by omega) (by omega) (by have := len1 (by omega); omega) hfF on12 hp2 hq
  refine z_iconst (v := 0) dX8_readsOfTask_0 (by decide) ?_
  refine z_istore_n dX8_readsOfTask_1 (by decide) ?_
  refine z_iload_n dX8_readsOfTask_2 rfl ?_
  refine z_istore dX8_readsOfTask_3 (by decide) ?_
  refine z_iload_n dX8_readsOfTask_5 rfl ?_
  refine z_istore dX8_readsOfTask_6 (by decide) ?_
  refine z_iconst (v := 0) dX8_readsOfTask_8 (by decide) ?_
  refine z_istore dX8_readsOfTask_9 (by decide) ?_
  refine loop 14 0 i j 0 σ t none none none none rfl (by omega) hil hj hfr (fun _ _ => rfl) hp (fun σ' a1 a2 => hQ _ _ _ ⟨by rw [Nat.zero_add], a2, a1, rfl⟩)
/-! the whole drawing -/
theorem zread_sum (lim : Nat) (nt : zNT) (C : Nat → Bool) : ∀ (d i j : Nat) (t t' : zT3), (zread lim nt C d i j t).2 = (zread lim nt C d i j t').2 := by
  intro d
  induction d with
  | zero => intro i j t t'; rfl
  | succ d ih =>
    intro i j t t'
    rw [zread, zread]
    by_cases c1 : C i = true
    · rw [if_pos c1, if_pos c1]
    · rw [if_neg c1, if_neg c1]
      by_cases c2 : zkd nt i = 0
      · rw [if_pos c2, if_pos c2]
      · rw [if_neg c2, if_neg c2]
        by_cases c3 : zkd nt i = 4
        · rw [if_pos c3, if_pos c3]
        · rw [if_neg c3, if_neg c3]
          by_cases c4 : zkd nt i = 5
          · rw [if_pos c4, if_pos c4]
            by_cases c5 : zbr lim nt i = true
            · rw [if_pos c5, if_pos c5]; exact congrArg ((zct lim nt (zf2 nt i)).flatten.length + ·) (ih _ _ _ _)
            · rw [if_neg c5, if_neg c5]
          · rw [if_neg c4, if_neg c4]
            by_cases c6 : zkd nt i = 3 ∧ (zct lim nt (zf1 nt i)).length ≤ j
            · rw [if_pos c6, if_pos c6]; exact ih _ _ _ _
            · rw [if_neg c6, if_neg c6]; exact ih _ _ _ _
theorem zor_iff {s : Nat → Bool} {i j : Nat} : zor s i j = true ↔ s j = true ∨ j = i := by rw [zor, Bool.or_eq_true, decide_eq_true_eq]
theorem zneed_out {C : Nat → Bool} {i j : Nat} {t : zT3} (h : (zneed C i t).2.1 j = true) : t.2.1 j = true ∨ (j = i ∧ C i = false) := by
  unfold zneed at h
  by_cases c : C i = true
  · rw [if_pos c] at h; exact Or.inl h
  · rw [if_neg c] at h
    rcases zor_iff.mp h with h | h
    · exact Or.inl h
    · exact Or.inr ⟨h, by simpa using c⟩
theorem zread_out {lim : Nat} {nt : zNT} {C : Nat → Bool} (hw : zWf nt) (hl : nt.length ≤ 14) : ∀ (d i j : Nat) (t : zT3), i < d → i < nt.length → ∀ m, (zread lim nt C d i j t).1.2.1 m = true → t.2.1 m = true ∨ (bt (zLin nt i) m = true ∧ m < i ∧ C m = false) := by
  intro d
  induction d with
  | zero => intro i j t hd; exact absurd hd (Nat.not_lt_zero _)
  | succ d ih =>
    intro i j t hd hi m h
    obtain ⟨e, hei, eD, ek, k6, ff, ss, pp, lf, ls, len1, len3, -⟩ := zNfo (lim := lim) hw hl hi
    rw [zread] at h
    have lin : ∀ k, k < nt.length → bt (zLin nt k) k = true := fun k hk => (zLin_lt hw hl k hk).2
    have one : 1 ≤ e.2.1 → ∀ t' : zT3, (zneed C (zf1 nt i) t').2.1 m = true → t'.2.1 m = true ∨ (bt (zLin nt i) m = true ∧ m < i ∧ C m = false) := fun k t' q => by
      have f1 := (ff k).1
      rcases zneed_out q with q | ⟨q, c⟩
      · exact Or.inl q
      · subst q; exact Or.inr ⟨lf k _ (by omega) (lin _ (by omega)), f1, c⟩
    have two : e.2.1 = 3 ∨ e.2.1 = 5 → ∀ t' : zT3, (zneed C (zf2 nt i) t').2.1 m = true → t'.2.1 m = true ∨ (bt (zLin nt i) m = true ∧ m < i ∧ C m = false) := fun k t' q => by
      have f1 := (ss k).1
      rcases zneed_out q with q | ⟨q, c⟩
      · exact Or.inl q
      · subst q; exact Or.inr ⟨ls k _ (by omega) (lin _ (by omega)), f1, c⟩
    by_cases c1 : C i = true
    · rw [if_pos c1] at h; exact Or.inl h
    · rw [if_neg c1] at h
      by_cases c2 : zkd nt i = 0
      · rw [if_pos c2] at h; exact Or.inl h
      · rw [if_neg c2] at h
        rw [ek] at c2
        have f1 := (ff (by omega)).1
        by_cases c3 : zkd nt i = 4
        · rw [if_pos c3] at h; exact one (by omega) (t.1, t.2.1, zor t.2.2 i) h
        · rw [if_neg c3] at h
          by_cases c4 : zkd nt i = 5
          · rw [if_pos c4] at h
            have s1 := (ss (by omega)).1
            by_cases c5 : zbr lim nt i = true
            · rw [if_pos c5] at h
              rcases ih _ _ _ (by omega) (by omega) m h with h | ⟨h, h2, h3⟩
              · exact two (by omega) (t.1, t.2.1, zor t.2.2 i) h
              · exact Or.inr ⟨lf (by omega) m (by omega) h, by omega, h3⟩
            · rw [if_neg c5] at h
              rcases two (by omega) _ h with h | h
              · exact one (by omega) (t.1, t.2.1, zor t.2.2 i) h
              · exact Or.inr h
          · rw [if_neg c4] at h
            by_cases c6 : zkd nt i = 3 ∧ (zct lim nt (zf1 nt i)).length ≤ j
            · rw [if_pos c6] at h
              have s1 := (ss (by omega)).1
              rcases ih _ _ _ (by omega) (by omega) m h with h | ⟨h, h2, h3⟩
              · exact Or.inl h
              · exact Or.inr ⟨ls (by omega) m (by omega) h, by omega, h3⟩
            · rw [if_neg c6] at h
              rcases ih _ _ _ (by omega) (by omega) m h with h | ⟨h, h2, h3⟩
              · exact Or.inl h
              · exact Or.inr ⟨lf (by omega) m (by omega) h, by omega, h3⟩
noncomputable def zrow (lim : Nat) (nt : zNT) (C : Nat → Bool) (k : Nat) : Nat → zT3 → zT3
  | 0, t => t
  | m + 1, t => (zread lim nt C 14 k m (zrow lim nt C k m t)).1
noncomputable def zdr (lim : Nat) (nt : zNT) (C : Nat → Bool) : Nat → zT3 → zT3
  | 0, t => t
  | k + 1, t => zdr lim nt C k (if t.2.1 k then zrow lim nt C k (zct lim nt k).length t else t)
def zt0 : zT3 := (fun _ => false, fun _ => false, fun _ => false)
noncomputable def zdraw (lim : Nat) (nt : zNT) (C : Nat → Bool) (i : Nat) : zT3 := zdr lim nt C 14 (zneed C i zt0)
noncomputable def zsum (lim : Nat) (nt : zNT) (C : Nat → Bool) (k m : Nat) : Nat := (zread lim nt C 14 k m zt0).2
theorem zrow_out {lim : Nat} {nt : zNT} {C : Nat → Bool} (hw : zWf nt) (hl : nt.length ≤ 14) {k : Nat} (hk : k < nt.length) (t : zT3) : ∀ n m, (zrow lim nt C k n t).2.1 m = true → t.2.1 m = true ∨ (bt (zLin nt k) m = true ∧ m < k ∧ C m = false)
  | 0, m, h => Or.inl h
  | n + 1, m, h => by
    rw [zrow] at h
    rcases zread_out hw hl 14 k n _ (by omega) hk m h with h | h
    · exact zrow_out hw hl hk t n m h
    · exact Or.inr h
set_option maxRecDepth 100000 in
set_option maxHeartbeats 2000000 in
theorem c_X8_draw {G : zG} {σ : zH} {nx g h c hi lim p r i : Nat} {nt : zNT} {fr : Int32} {L : zNS} {t : zT3} {rf : Nat → Int32} (hG : zKap G) (he : zEn G σ g h c hi lim nt fr L r) (hp : zPl G σ p g h c t) (hr : zInts G σ (p + 1) 112 rf) (h1 : c + 5 ≤ p) (h2 : p + 3 ≤ hi) (hil : i < nt.length) (hfr : ∀ j, j < 14 → bt (zLin nt i) j = true → bt fr j = true) :
    zM G yX8_draw kX8_draw [.ref p, .int (nI i)] σ nx (fun v σ' nx' => v = none ∧ zPl G σ' p g h c (zdraw lim nt (zcd L) i) ∧ (∃ rf', zInts G σ' (p + 1) 112 rf' ∧ ∀ m q, (zdraw lim nt (zcd L) i).2.1 m = true → q < (zct lim nt m).length → rf' (8 * m + q) = nI (zsum lim nt (zcd L) m q)) ∧ zFr σ σ' p 3 ∧ nx' = nx) := by
  refine zM.of2 (ls := [some (.ref p), some (.int (nI i)), none, none, none]) (by decide +kernel) ⟨rfl, rfl, rfl⟩ (Nat.le_of_ble_eq_true rfl) (fun _ h => h) (fun Q hQ => ?_)
  have hw := he.2.2.1
  have hl14 := he.2.2.2.2.2
  have loop : ∀ (k : Nat) (σ1 : zH) (t1 : zT3) (rf1 : Nat → Int32) (x3 x4 : Option Value), k ≤ 14 → zFr σ σ1 p 3 → zPl G σ1 p g h c t1 → zInts G σ1 (p + 1) 112 rf1 →
      (∀ m, t1.2.1 m = true → bt (zLin nt i) m = true ∧ m < nt.length) → (∀ m q, k ≤ m → t1.2.1 m = true → q < (zct lim nt m).length → rf1 (8 * m + q) = nI (zsum lim nt (zcd L) m q)) →
      (∀ σ' rf', zFr σ σ' p 3 → zPl G σ' p g h c (zdr lim nt (zcd L) k t1) → zInts G σ' (p + 1) 112 rf' → (∀ m q, (zdr lim nt (zcd L) k t1).2.1 m = true → q < (zct lim nt m).length → rf' (8 * m + q) = nI (zsum lim nt (zcd L) m q)) → Q none σ' nx) →
      zWP G kX8_draw (zFM G kX8_draw.2.2.2.1 Q) 23 [some (.ref p), some (.int (nI i)), some (.int (nI k + (-1))), x3, x4] [] σ1 nx 0 0 := by
    intro k
    induction k with
    | zero =>
      intro σ1 t1 rf1 x3 x4 _ on1 hp1 hr1 i1 i2 hq
      refine z_iload_n dX8_draw_23 rfl ?_
      refine z_if_lt (tgt := 92) dX8_draw_24 (by decide) (fun _ => ?_) (fun q => absurd ((by decide)) q)
      exact z_vret dX8_draw_92 rfl (Nat.le_of_ble_eq_true rfl) (Nat.le_of_ble_eq_true rfl) (hq _ _ on1 hp1 hr1 fun m q a b => i2 m q (Nat.zero_le _) a b)
    | succ k ih =>
      intro σ1 t1 rf1 x3 x4 hk on1 hp1 hr1 i1 i2 hq
      have he1 := he.fr h1 h2 on1
      obtain ⟨u1, o1, w1, hc1, b1, b2, b3⟩ := id hp1
      rw [zdr] at hq
      rw [pk_m1]
      refine z_iload_n dX8_draw_23 rfl ?_
      refine z_if_lt (tgt := 92) dX8_draw_24 (by decide) (fun q => absurd q ((nI_pos (by omega)))) (fun _ => ?_)
      refine z_aload_n dX8_draw_27 rfl ?_
      refine z_getf dX8_draw_28 fl_X8_32 hc1 rfl ?_
      refine z_iload_n dX8_draw_31 rfl ?_
      refine z_callS dX8_draw_32 cv_X8_42 (c_X11_has (show k < 14 by omega)) rfl rfl ⟨(Nat.le_of_ble_eq_true rfl), (Nat.le_of_ble_eq_true rfl)⟩ (Nat.le_of_ble_eq_true rfl) (Nat.le_of_ble_eq_true rfl) (Nat.le_of_ble_eq_true rfl) (fun v σ2 nx2 hx2 hq2 => ?_)
      obtain ⟨rfl, rfl, rfl⟩ := hq2
      rw [b2.1 k (by omega)]
      by_cases hb : t1.2.1 k = true
      · obtain ⟨lk, hkl⟩ := i1 k hb
        have hfk : ∀ j, j < 14 → bt (zLin nt k) j = true → bt fr j = true := fun j hj a => hfr j hj (zLin_tr hw hl14 i hil k (by omega) lk j (by omega) a)
        have hK := he1.has hkl hfk
        have hK8 := hK.len.1
        rw [if_pos hb] at hq
        rw [if_pos hb]
        refine z_if_eq (tgt := 86) dX8_draw_35 (by decide) (fun q => absurd q ((by decide))) (fun _ => ?_)
        refine z_aload_n dX8_draw_38 rfl ?_
        refine z_getf dX8_draw_39 fl_X8_24 hc1 rfl ?_
        refine z_iload_n dX8_draw_42 rfl ?_
        refine z_callV dX8_draw_43 cv_X8_58 (c_X3_ofn he1.1.2.1.1 he1.1.1 (by omega)) rfl he1.1.2.1.1.1 rfl rfl ⟨(Nat.le_of_ble_eq_true rfl), (Nat.le_of_ble_eq_true rfl)⟩ (Nat.le_of_ble_eq_true rfl) (Nat.le_of_ble_eq_true rfl) (Nat.le_of_ble_eq_true rfl) (fun v σ2 nx2 hx2 hq2 => ?_)
        obtain ⟨rfl, rfl, rfl⟩ := hq2
        refine z_callV dX8_draw_46 cv_X8_64 (c_X9_parts hK) rfl hK.c rfl rfl ⟨(Nat.le_of_ble_eq_true rfl), (Nat.le_of_ble_eq_true rfl)⟩ (Nat.le_of_ble_eq_true rfl) (Nat.le_of_ble_eq_true rfl) (Nat.le_of_ble_eq_true rfl) (fun v σ2 nx2 hx2 hq2 => ?_)
        obtain ⟨rfl, rfl, rfl⟩ := hq2
        rw [zcum_len]
        refine z_istore_n dX8_draw_49 (by decide) ?_
        refine z_iconst (v := 0) dX8_draw_50 (by decide) ?_
        refine z_istore dX8_draw_51 (by decide) ?_
        have inner : ∀ (d n : Nat) (σ3 : zH) (rf3 : Nat → Int32), n + d = (zct lim nt k).length → zFr σ σ3 p 3 → zPl G σ3 p g h c (zrow lim nt (zcd L) k n t1) → zInts G σ3 (p + 1) 112 rf3 → (∀ m q, k + 1 ≤ m → rf3 (8 * m + q) = rf1 (8 * m + q)) → (∀ q, q < n → rf3 (8 * k + q) = nI (zsum lim nt (zcd L) k q)) →
            zWP G kX8_draw (zFM G kX8_draw.2.2.2.1 Q) 53 [some (.ref p), some (.int (nI i)), some (.int (nI k)), some (.int (nI (zct lim nt k).length)), some (.int (nI n))] [] σ3 nx2 0 0 := by
          intro d
          induction d with
          | zero =>
            intro n σ3 rf3 hn on3 hp3 hr3 j1 j2
            have en : n = (zct lim nt k).length := by omega
            subst en
            refine z_iload dX8_draw_53 rfl ?_
            refine z_iload_n dX8_draw_55 rfl ?_
            refine z_icmp_ge (tgt := 86) dX8_draw_56 (by decide) (fun _ => ?_) (fun q => absurd (nI_le (Nat.le_refl _) (by omega)) q)
            refine z_dec1 dX8_draw_86 rfl (by decide) ?_
            refine z_goto (tgt := 23) dX8_draw_89 (by decide) ?_
            refine ih σ3 _ rf3 _ _ (by omega) on3 hp3 hr3 (fun m a => ?_) (fun m q a b c1 => ?_) hq
            · rcases zrow_out hw hl14 hkl _ _ m a with a | ⟨a, a2, -⟩
              · exact i1 m a
              · exact ⟨zLin_tr hw hl14 i hil k (by omega) lk m (by omega) a, by omega⟩
            · by_cases e : m = k
              · subst e; exact j2 q c1
              · rw [j1 m q (by omega)]
                rcases zrow_out hw hl14 hkl _ _ m b with b | ⟨-, b2, -⟩
                · exact i2 m q (by omega) b c1
                · omega
          | succ d ihd =>
            intro n σ3 rf3 hn on3 hp3 hr3 j1 j2
            have he3 := he.fr h1 h2 on3
            obtain ⟨u3, o3, w3, hc3, -⟩ := id hp3
            refine z_iload dX8_draw_53 rfl ?_
            refine z_iload_n dX8_draw_55 rfl ?_
            refine z_icmp_ge (tgt := 86) dX8_draw_56 (by decide) (fun q => absurd q (nI_ge (show n < (zct lim nt k).length by omega) (by omega))) (fun _ => ?_)
            refine z_aload_n dX8_draw_59 rfl ?_
            refine z_getf dX8_draw_60 fl_X8_14 hc3 rfl ?_
            refine z_iload_n dX8_draw_63 rfl ?_
            refine z_bipush (v := 8) dX8_draw_64 (by decide) ?_
            refine z_imul dX8_draw_66 ?_
            refine z_iload dX8_draw_67 rfl ?_
            refine z_iadd dX8_draw_69 ?_
            rw [show (8 : Int32) = nI 8 from rfl, pk_mul, nI_add, Nat.mul_comm k 8]
            refine z_aload_n dX8_draw_70 rfl ?_
            refine z_iload_n dX8_draw_71 rfl ?_
            refine z_iload dX8_draw_72 rfl ?_
            refine z_callV dX8_draw_74 cv_X8_70 (c_X8_readsOfTask hG he3 hp3 h1 h2 hkl (show n < (zct lim nt k).length by omega) hfk) rfl hc3 rfl rfl ⟨(Nat.le_of_ble_eq_true rfl), (Nat.le_of_ble_eq_true rfl)⟩ (Nat.le_of_ble_eq_true rfl) (Nat.le_of_ble_eq_true rfl) (Nat.le_of_ble_eq_true rfl) (fun v σ4 nx4 hx4 hq4 => ?_)
            obtain ⟨rfl, hp4, on4, rfl⟩ := hq4
            have hr4 := hr3.fr (σ' := σ4) fun b a d => on4 b (by omega)
            refine z_callV dX8_draw_77 cv_X8_74 (c_X4_set hr4 (by omega)) rfl hr4.1 rfl rfl ⟨(Nat.le_of_ble_eq_true rfl), (Nat.le_of_ble_eq_true rfl)⟩ (Nat.le_of_ble_eq_true rfl) (Nat.le_of_ble_eq_true rfl) (Nat.le_of_ble_eq_true rfl) (fun v σ5 nx5 hx5 hq5 => ?_)
            obtain ⟨rfl, hr5, on5, rfl⟩ := hq5
            rw [zwr_nI (by omega) (by omega)] at hr5
            refine z_inc1 dX8_draw_80 rfl (by decide) ?_
            refine z_goto (tgt := 53) dX8_draw_83 (by decide) ?_
            rw [nI_1]
            obtain ⟨u4, o4, w4, hc4, hh4⟩ := id hp4
            refine ihd (n + 1) σ5 _ (by omega) (fun b hb => (on5 b (by omega)).trans ((on4 b (by omega)).trans (on3 b hb))) ⟨u4, o4, w4, (on5 p (by omega)).trans hc4, hh4⟩ hr5 (fun m q a => ?_) (fun q a => ?_)
            · rw [pk_un (by omega)]; exact j1 m q a
            · by_cases e : q = n
              · subst e; rw [pk_us, zread_sum lim nt (zcd L) 14 k q _ zt0]; rfl
              · rw [pk_un (by omega)]; exact j2 q (by omega)
        exact inner (zct lim nt k).length 0 σ2 rf1 (by omega) on1 hp1 hr1 (fun _ _ _ => rfl) (fun q a => absurd a (Nat.not_lt_zero _))
      · rw [if_neg hb] at hq
        rw [if_neg hb]
        refine z_if_eq (tgt := 86) dX8_draw_35 (by decide) (fun _ => ?_) (fun q => absurd (rfl) q)
        refine z_dec1 dX8_draw_86 rfl (by decide) ?_
        refine z_goto (tgt := 23) dX8_draw_89 (by decide) ?_
        refine ih σ2 t1 rf1 _ _ (by omega) on1 hp1 hr1 i1 (fun m q a b c1 => ?_) hq
        by_cases e : m = k
        · subst e; exact absurd b hb
        · exact i2 m q (by omega) b c1
  obtain ⟨u, o, w, hc0, -⟩ := hp
  refine z_aload_n dX8_draw_0 rfl ?_
  refine z_iconst (v := 0) dX8_draw_1 (by decide) ?_
  refine z_putf dX8_draw_2 fp_X8_32 hc0 rfl rfl (Nat.le_of_ble_eq_true rfl) ?_
  refine z_aload_n dX8_draw_5 rfl ?_
  refine z_iconst (v := 0) dX8_draw_6 (by decide) ?_
  refine z_putf dX8_draw_7 fp_X8_49 (zu_eq _ _ _) rfl rfl (Nat.le_of_ble_eq_true rfl) ?_
  refine z_aload_n dX8_draw_10 rfl ?_
  refine z_iconst (v := 0) dX8_draw_11 (by decide) ?_
  refine z_putf dX8_draw_12 fp_X8_52 (zu_eq _ _ _) rfl rfl (Nat.le_of_ble_eq_true rfl) ?_
  obtain ⟨σ1, e1⟩ : ∃ z, z = zu σ p (zPC p g h c 0 0 0) := ⟨_, rfl⟩
  have e2 : zu (zu (zu σ p (.inr (8, ([Value.ref g, .ref h, .ref c, .ref (p + 1), .int o, .int w, .int u].set 4 (.int 0))))) p (.inr (8, (([Value.ref g, .ref h, .ref c, .ref (p + 1), .int o, .int w, .int u].set 4 (.int 0)).set 5 (.int 0))))) p (.inr (8, ((([Value.ref g, .ref h, .ref c, .ref (p + 1), .int o, .int w, .int u].set 4 (.int 0)).set 5 (.int 0)).set 6 (.int 0)))) = σ1 := by rw [e1]; funext x; simp only [zu]; by_cases q : x = p <;> simp [q, zPC]
  rw [e2]
  have on1 : zOn p σ σ1 := by rw [e1]; exact fun x hx => zu_ne hx
  have hp1 : zPl G σ1 p g h c zt0 := ⟨0, 0, 0, by rw [e1]; exact zu_eq _ _ _, zbits_0, zbits_0, zbits_0⟩
  have he1 := he.on h1 h2 on1
  have hc1 : σ1 p = some (zPC p g h c 0 0 0) := by rw [e1]; exact zu_eq _ _ _
  refine z_aload_n dX8_draw_15 rfl ?_
  refine z_iload_n dX8_draw_16 rfl ?_
  refine z_callV dX8_draw_17 cv_X8_55 (c_X8_needWhole hp1 he1.2.1 (show i < 14 by omega)) rfl hc1 rfl rfl ⟨(Nat.le_of_ble_eq_true rfl), (Nat.le_of_ble_eq_true rfl)⟩ (Nat.le_of_ble_eq_true rfl) (Nat.le_of_ble_eq_true rfl) (Nat.le_of_ble_eq_true rfl) (fun v σ2 nx2 hx2 hq2 => ?_)
  obtain ⟨rfl, hp2, on2, rfl⟩ := hq2
  refine z_bipush (v := 13) dX8_draw_20 (by decide) ?_
  refine z_istore_n dX8_draw_22 (by decide) ?_
  rw [show (13 : Int32) = nI 14 + (-1) from rfl]
  refine loop 14 σ2 _ rf _ _ (Nat.le_refl _) ((zOn.tr on1 on2).fr 2) hp2 (hr.fr fun b a d => (on2 b (by omega)).trans (on1 b (by omega))) (fun m a => ?_) (fun m q a b => ?_) (fun σ' rf' a b d f => hQ _ _ _ ⟨rfl, b, ⟨rf', d, f⟩, a, rfl⟩)
  · rcases zneed_out a with a | ⟨a, -⟩
    · exact nomatch a
    · subst a; exact ⟨(zLin_lt hw hl14 m hil).2, hil⟩
  · rcases zneed_out b with b | ⟨b, -⟩
    · exact nomatch b
    · omega
set_option maxRecDepth 100000 in
theorem c_X8_countOfStages {G : zG} {σ : zH} {nx p g h c : Nat} {t : zT3} (hp : zPl G σ p g h c t) : zM G yX8_countOfStages kX8_countOfStages [.ref p] σ nx (fun v σ' nx' => v = some (.int (nI (zcn t.2.1 14))) ∧ σ' = σ ∧ nx' = nx) := by
  refine zM.of (ls := [some (.ref p)]) (by decide +kernel) ⟨rfl, rfl, rfl⟩ (Nat.le_of_ble_eq_true rfl) (fun _ h => h) ?_
  obtain ⟨u, o, w, h1, b1, b2, b3⟩ := hp
  refine z_aload_n dX8_countOfStages_0 rfl ?_
  refine z_getf dX8_countOfStages_1 fl_X8_32 h1 rfl ?_
  refine z_callS dX8_countOfStages_4 cv_X8_36 (c_bitCount b2) rfl rfl ⟨(Nat.le_of_ble_eq_true rfl), (Nat.le_of_ble_eq_true rfl)⟩ (Nat.le_of_ble_eq_true rfl) (Nat.le_of_ble_eq_true rfl) (Nat.le_of_ble_eq_true rfl) (fun v σ2 nx2 hx2 hq2 => ?_)
  obtain ⟨rfl, rfl, rfl⟩ := hq2
  exact z_iret dX8_countOfStages_7 rfl (Nat.le_of_ble_eq_true rfl) (Nat.le_of_ble_eq_true rfl) ⟨rfl, rfl, rfl⟩
set_option maxRecDepth 100000 in
theorem c_X8_readsOf {G : zG} {σ : zH} {nx p g h c i j : Nat} {t : zT3} {rf : Nat → Int32} (hp : zPl G σ p g h c t) (hr : zInts G σ (p + 1) 112 rf) (hi : i < 14) (hj : j < 8) : zM G yX8_readsOf kX8_readsOf [.ref p, .int (nI i), .int (nI j)] σ nx (fun v σ' nx' => v = some (.int (rf (8 * i + j))) ∧ σ' = σ ∧ nx' = nx) := by
  refine zM.of (ls := [some (.ref p), some (.int (nI i)), some (.int (nI j))]) (by decide +kernel) ⟨rfl, rfl, rfl⟩ (Nat.le_of_ble_eq_true rfl) (fun _ h => h) ?_
  obtain ⟨u, o, w, h1, -⟩ := hp
  refine z_aload_n dX8_readsOf_0 rfl ?_
  refine z_getf dX8_readsOf_1 fl_X8_14 h1 rfl ?_
  refine z_iload_n dX8_readsOf_4 rfl ?_
  refine z_bipush (v := 8) dX8_readsOf_5 (by decide) ?_
  refine z_imul dX8_readsOf_7 ?_
  refine z_iload_n dX8_readsOf_8 rfl ?_
  refine z_iadd dX8_readsOf_9 ?_
  rw [show (8 : Int32) = nI 8 from rfl, pk_mul, nI_add, Nat.mul_comm i 8]
  refine z_callV dX8_readsOf_10 cv_X8_46 (c_X4_at hr (by omega)) rfl hr.1 rfl rfl ⟨(Nat.le_of_ble_eq_true rfl), (Nat.le_of_ble_eq_true rfl)⟩ (Nat.le_of_ble_eq_true rfl) (Nat.le_of_ble_eq_true rfl) (Nat.le_of_ble_eq_true rfl) (fun v σ2 nx2 hx2 hq2 => ?_)
  obtain ⟨rfl, rfl, rfl⟩ := hq2
  rw [zrd_nI (by omega) (by omega)]
  exact z_iret dX8_readsOf_13 rfl (Nat.le_of_ble_eq_true rfl) (Nat.le_of_ble_eq_true rfl) ⟨rfl, rfl, rfl⟩
/-- the place of a set's member, counted from the least -/
def znth (s : Nat → Bool) (n : Nat) : Nat → Nat → Option Nat
  | _, 0 => none
  | m, d + 1 => if s m then (if zcn s m = n then some m else znth s n (m + 1) d) else znth s n (m + 1) d
set_option maxRecDepth 100000 in
theorem c_X8_outputOfStage {G : zG} {σ : zH} {nx p g h c n : Nat} {t : zT3} (hp : zPl G σ p g h c t) (hn : n < 2 ^ 31) : zM G yX8_outputOfStage kX8_outputOfStage [.ref p, .int (nI n)] σ nx (fun v σ' nx' => v = some (.int (match znth t.2.1 n 0 14 with | none => -1 | some j => nI j)) ∧ σ' = σ ∧ nx' = nx) := by
  refine zM.of2 (ls := [some (.ref p), some (.int (nI n)), none, none]) (by decide +kernel) ⟨rfl, rfl, rfl⟩ (Nat.le_of_ble_eq_true rfl) (fun _ h => h) (fun Q hQ => ?_)
  obtain ⟨u, o, w, h1, b1, b2, b3⟩ := hp
  have cn : ∀ m, zcn t.2.1 m ≤ m := by
    intro m
    induction m with
    | zero => exact Nat.le_refl _
    | succ m ih => rw [zcn]; split <;> omega
  obtain ⟨res, hres⟩ : ∃ z, z = znth t.2.1 n 0 14 := ⟨_, rfl⟩
  rw [← hres] at hQ
  have loop : ∀ (d m : Nat), m + d = 14 → res = znth t.2.1 n m d →
      zWP G kX8_outputOfStage (zFM G kX8_outputOfStage.2.2.2.1 Q) 4 [some (.ref p), some (.int (nI n)), some (.int (nI (zcn t.2.1 m))), some (.int (nI m))] [] σ nx 0 0 := by
    intro d
    induction d with
    | zero =>
      intro m hm e
      refine z_iload_n dX8_outputOfStage_4 rfl ?_
      refine z_bipush (v := 14) dX8_outputOfStage_5 (by decide) ?_
      refine z_icmp_ge (tgt := 37) dX8_outputOfStage_7 (by decide) (fun _ => ?_) (fun q => absurd ((show nI 14 ≤ nI m from nI_le (by omega) (by omega))) q)
      refine z_iconst (v := (-1)) dX8_outputOfStage_37 (by decide) ?_
      exact z_iret dX8_outputOfStage_38 rfl (Nat.le_of_ble_eq_true rfl) (Nat.le_of_ble_eq_true rfl) (hQ _ _ _ ⟨by rw [e]; rfl, rfl, rfl⟩)
    | succ d ih =>
      intro m hm e
      have nxt := ih (m + 1) (by omega)
      have hcm := cn m
      rw [zcn] at nxt
      rw [znth] at e
      refine z_iload_n dX8_outputOfStage_4 rfl ?_
      refine z_bipush (v := 14) dX8_outputOfStage_5 (by decide) ?_
      refine z_icmp_ge (tgt := 37) dX8_outputOfStage_7 (by decide) (fun q => absurd q ((show ¬ nI 14 ≤ nI m from nI_ge (by omega) (by omega)))) (fun _ => ?_)
      refine z_aload_n dX8_outputOfStage_10 rfl ?_
      refine z_getf dX8_outputOfStage_11 fl_X8_32 h1 rfl ?_
      refine z_iload_n dX8_outputOfStage_14 rfl ?_
      refine z_callS dX8_outputOfStage_15 cv_X8_42 (c_X11_has (show m < 14 by omega)) rfl rfl ⟨(Nat.le_of_ble_eq_true rfl), (Nat.le_of_ble_eq_true rfl)⟩ (Nat.le_of_ble_eq_true rfl) (Nat.le_of_ble_eq_true rfl) (Nat.le_of_ble_eq_true rfl) (fun v σ2 nx2 hx2 hq2 => ?_)
      obtain ⟨rfl, rfl, rfl⟩ := hq2
      rw [b2.1 m (by omega)]
      by_cases hb : t.2.1 m = true
      · rw [if_pos hb] at e nxt
        rw [if_pos hb]
        refine z_if_eq (tgt := 31) dX8_outputOfStage_18 (by decide) (fun q => absurd q ((by decide))) (fun _ => ?_)
        refine z_iload_n dX8_outputOfStage_21 rfl ?_
        refine z_iload_n dX8_outputOfStage_22 rfl ?_
        by_cases hc : zcn t.2.1 m = n
        · rw [if_pos hc] at e
          refine z_icmp_ne (tgt := 28) dX8_outputOfStage_23 (by decide) (fun q => absurd ((by rw [hc])) q) (fun _ => ?_)
          refine z_iload_n dX8_outputOfStage_26 rfl ?_
          exact z_iret dX8_outputOfStage_27 rfl (Nat.le_of_ble_eq_true rfl) (Nat.le_of_ble_eq_true rfl) (hQ _ _ _ ⟨by rw [e], rfl, rfl⟩)
        · rw [if_neg hc] at e
          refine z_icmp_ne (tgt := 28) dX8_outputOfStage_23 (by decide) (fun _ => ?_) (fun q => absurd q ((fun q => hc ((nI_eq (by omega) hn).mp q))))
          refine z_inc1 dX8_outputOfStage_28 rfl (by decide) ?_
          refine z_inc1 dX8_outputOfStage_31 rfl (by decide) ?_
          refine z_goto (tgt := 4) dX8_outputOfStage_34 (by decide) ?_
          rw [nI_1, nI_1]
          exact nxt e
      · rw [if_neg hb] at e nxt
        rw [if_neg hb]
        refine z_if_eq (tgt := 31) dX8_outputOfStage_18 (by decide) (fun _ => ?_) (fun q => absurd (rfl) q)
        refine z_inc1 dX8_outputOfStage_31 rfl (by decide) ?_
        refine z_goto (tgt := 4) dX8_outputOfStage_34 (by decide) ?_
        rw [nI_1]
        exact nxt e
  refine z_iconst (v := 0) dX8_outputOfStage_0 (by decide) ?_
  refine z_istore_n dX8_outputOfStage_1 (by decide) ?_
  refine z_iconst (v := 0) dX8_outputOfStage_2 (by decide) ?_
  refine z_istore_n dX8_outputOfStage_3 (by decide) ?_
  exact loop 14 0 rfl hres
