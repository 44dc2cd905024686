/-! Plan: which nodes are needed whole, worked out or used, and what a task reads -/
def zkd (nt : zNT) (i : Nat) : Nat := (nt.getD i zdf).2.1
def zf1 (nt : zNT) (i : Nat) : Nat := ((nt.getD i zdf).2.2.1 1).toNatClampNeg
def zf2 (nt : zNT) (i : Nat) : Nat := ((nt.getD i zdf).2.2.1 2).toNatClampNeg
def ztd (nt : zNT) (i : Nat) : Nat := ((nt.getD i zdf).2.2.1 6).toNatClampNeg
noncomputable def zct (lim : Nat) (nt : zNT) (i : Nat) : List zP2 := zcon false lim nt i
noncomputable def zbr (lim : Nat) (nt : zNT) (i : Nat) : Bool := decide (zkd nt i = 5) && decide ((zct lim nt (zf2 nt i)).flatten.length ≤ lim)
theorem zbr_iff {lim : Nat} {nt : zNT} {i : Nat} : zbr lim nt i = true ↔ zbrd lim nt i := by
  rw [zbr, Bool.and_eq_true, decide_eq_true_eq, decide_eq_true_eq]; exact Iff.rfl
def zsz (P : List zP2) (j : Nat) : Nat := (P.getD j []).length
abbrev zT3 : Type := (Nat → Bool) × (Nat → Bool) × (Nat → Bool)
def zcd (L : zNS) (j : Nat) : Bool := L.any fun q => decide (q.1 = j)
theorem zcd_iff {L : zNS} {j : Nat} : zcd L j = true ↔ zmem L j := by
  rw [zcd, List.any_eq_true]
  constructor
  · rintro ⟨q, hq, e⟩
    obtain ⟨i, hi⟩ := List.mem_iff_getElem?.mp hq
    exact ⟨i, q, hi, of_decide_eq_true e⟩
  · rintro ⟨i, q, hi, e⟩
    exact ⟨q, List.mem_of_getElem? hi, decide_eq_true e⟩
def zneed (C : Nat → Bool) (j : Nat) (t : zT3) : zT3 := if C j then (zor t.1 j, t.2.1, t.2.2) else (t.1, zor t.2.1 j, t.2.2)
def zshr (P : List zP2) (p j : Nat) : Nat := (zpart p P.flatten j).length
noncomputable def zread (lim : Nat) (nt : zNT) (C : Nat → Bool) : Nat → Nat → Nat → zT3 → zT3 × Nat
  | 0, _, _, t => (t, 0)
  | d + 1, i, j, t =>
    if C i then ((zor t.1 i, t.2.1, t.2.2), zsz (zct lim nt i) j)
    else if zkd nt i = 0 then ((t.1, t.2.1, zor t.2.2 i), zsz (zct lim nt i) j)
    else if zkd nt i = 4 then (zneed C (zf1 nt i) (t.1, t.2.1, zor t.2.2 i), zshr (zct lim nt (zf1 nt i)) (ztd nt i) j)
    else if zkd nt i = 5 then
      if zbr lim nt i then ((zread lim nt C d (zf1 nt i) j (zneed C (zf2 nt i) (t.1, t.2.1, zor t.2.2 i))).1, (zct lim nt (zf2 nt i)).flatten.length + (zread lim nt C d (zf1 nt i) j (zneed C (zf2 nt i) (t.1, t.2.1, zor t.2.2 i))).2)
      else (zneed C (zf2 nt i) (zneed C (zf1 nt i) (t.1, t.2.1, zor t.2.2 i)), zshr (zct lim nt (zf1 nt i)) (ztd nt i) j + zshr (zct lim nt (zf2 nt i)) (ztd nt i) j)
    else if zkd nt i = 3 ∧ (zct lim nt (zf1 nt i)).length ≤ j then zread lim nt C d (zf2 nt i) (j - (zct lim nt (zf1 nt i)).length) (t.1, t.2.1, zor t.2.2 i)
    else zread lim nt C d (zf1 nt i) j (t.1, t.2.1, zor t.2.2 i)
-- the heap
theorem zGH.fr {G : zG} {σ σ' : zH} {g h hi lim : Nat} {ip : Bool} {nt : zNT} {fr : Int32} (hh : zGH G σ g h hi ip lim nt fr) (hf : ∀ b, (g ≤ b ∧ b < g + 10) ∨ (h ≤ b ∧ b < h + 114) ∨ hi ≤ b → σ' b = σ b) : zGH G σ' g h hi ip lim nt fr := by
  obtain ⟨h1, h2, h3, h4⟩ := hh
  refine ⟨h1.fr (fun b a c => hf b (Or.inl ⟨a, c⟩)) (fun b a _ => hf b (Or.inr (Or.inr a))), ⟨h2.1.fr fun b a c => hf b (Or.inr (Or.inl ⟨a, c⟩)), fun i a c => ⟨(h2.2 i a c).1, (h2.2 i a c).2.fr fun b d e => hf b (Or.inr (Or.inl ?_))⟩⟩, h3, h4⟩
  unfold zhr at d e
  omega
theorem c_has_sizeOf {G : zG} {σ : zH} {nx r j : Nat} {P : List zP2} (h : zHas G σ r P) (hj : j < P.length) : zM G yX9_sizeOf kX9_sizeOf [.ref r, .int (nI j)] σ nx (fun v σ' nx' => v = some (.int (nI (zsz P j))) ∧ σ' = σ ∧ nx' = nx) := by
  have hg : P[j]? = some (P[j]'hj) := List.getElem?_eq_getElem _
  generalize P[j]'hj = q at hg
  have e : zbeg (zcum 0 P) j = (P.take j).flatten.length := zbeg_at (by omega)
  have := c_X9_sizeOf (nx := nx) h (zcum_at hg) (by rw [e]; omega)
  rw [e, show (P.take j).flatten.length + q.length - (P.take j).flatten.length = zsz P j by rw [zsz, List.getD_eq_getElem?_getD, hg]; simp] at this
  exact this
def zPC (p g h c : Nat) (u o w : Int32) : va_E := .inr (8, [.ref g, .ref h, .ref c, .ref (p + 1), .int o, .int w, .int u])
def zPl (G : zG) (σ : zH) (p g h c : Nat) (t : zT3) : Prop := ∃ u o w, σ p = some (zPC p g h c u o w) ∧ zbits u t.1 ∧ zbits o t.2.1 ∧ zbits w t.2.2
set_option maxRecDepth 100000 in
theorem c_X8_needWhole {G : zG} {σ : zH} {nx p g h c r j : Nat} {t : zT3} {L : zNS} (hp : zPl G σ p g h c t) (hc : zCa G σ c L r) (hj : j < 14) : zM G yX8_needWhole kX8_needWhole [.ref p, .int (nI j)] σ nx (fun v σ' nx' => v = none ∧ zPl G σ' p g h c (zneed (zcd L) j t) ∧ (∀ x, x ≠ p → σ' x = σ x) ∧ nx' = nx) := by
  refine zM.of (ls := [some (.ref p), some (.int (nI j))]) (by decide +kernel) ⟨rfl, rfl, rfl⟩ (Nat.le_of_ble_eq_true rfl) (fun _ h => h) ?_
  obtain ⟨u, o, w, h1, h2, h3, h4⟩ := hp
  obtain ⟨mem, hcc⟩ := hc.c
  refine z_aload_n dX8_needWhole_0 rfl ?_
  refine z_getf dX8_needWhole_1 fl_X8_28 h1 rfl ?_
  refine z_iload_n dX8_needWhole_4 rfl ?_
  refine z_callV dX8_needWhole_5 cv_X8_78 (c_X0_holds hc hj) rfl hcc rfl rfl ⟨(Nat.le_of_ble_eq_true rfl), (Nat.le_of_ble_eq_true rfl)⟩ (Nat.le_of_ble_eq_true rfl) (Nat.le_of_ble_eq_true rfl) (Nat.le_of_ble_eq_true rfl) (fun v σ1 nx1 hx1 hq1 => ?_)
  obtain ⟨⟨b, rfl, hb⟩, rfl, rfl⟩ := hq1
  rw [← zcd_iff] at hb
  cases b with
  | true =>
    refine z_if_eq (tgt := 26) dX8_needWhole_8 (by decide) (fun q => absurd q ((by decide))) (fun _ => ?_)
    refine z_aload_n dX8_needWhole_11 rfl ?_
    refine z_aload_n dX8_needWhole_12 rfl ?_
    refine z_getf dX8_needWhole_13 fl_X8_52 h1 rfl ?_
    refine z_iload_n dX8_needWhole_16 rfl ?_
    refine z_callS dX8_needWhole_17 cv_X8_84 (c_X11_with hj) rfl rfl ⟨(Nat.le_of_ble_eq_true rfl), (Nat.le_of_ble_eq_true rfl)⟩ (Nat.le_of_ble_eq_true rfl) (Nat.le_of_ble_eq_true rfl) (Nat.le_of_ble_eq_true rfl) (fun v σ2 nx2 hx2 hq2 => ?_)
    obtain ⟨rfl, rfl, rfl⟩ := hq2
    refine z_putf dX8_needWhole_20 fp_X8_52 h1 rfl rfl (Nat.le_of_ble_eq_true rfl) ?_
    refine z_goto (tgt := 38) dX8_needWhole_23 (by decide) ?_
    exact z_vret dX8_needWhole_38 rfl (Nat.le_of_ble_eq_true rfl) (Nat.le_of_ble_eq_true rfl) ⟨rfl, by rw [zneed, if_pos (hb.mp rfl)]; exact ⟨_, _, _, zu_eq _ _ _, zbits_with h2 hj, h3, h4⟩, fun x hx => zu_ne hx, rfl⟩
  | false =>
    have hb2 : ¬ zcd L j = true := fun q => nomatch hb.mpr q
    refine z_if_eq (tgt := 26) dX8_needWhole_8 (by decide) (fun _ => ?_) (fun q => absurd (rfl) q)
    refine z_aload_n dX8_needWhole_26 rfl ?_
    refine z_aload_n dX8_needWhole_27 rfl ?_
    refine z_getf dX8_needWhole_28 fl_X8_32 h1 rfl ?_
    refine z_iload_n dX8_needWhole_31 rfl ?_
    refine z_callS dX8_needWhole_32 cv_X8_84 (c_X11_with hj) rfl rfl ⟨(Nat.le_of_ble_eq_true rfl), (Nat.le_of_ble_eq_true rfl)⟩ (Nat.le_of_ble_eq_true rfl) (Nat.le_of_ble_eq_true rfl) (Nat.le_of_ble_eq_true rfl) (fun v σ2 nx2 hx2 hq2 => ?_)
    obtain ⟨rfl, rfl, rfl⟩ := hq2
    refine z_putf dX8_needWhole_35 fp_X8_32 h1 rfl rfl (Nat.le_of_ble_eq_true rfl) ?_
    exact z_vret dX8_needWhole_38 rfl (Nat.le_of_ble_eq_true rfl) (Nat.le_of_ble_eq_true rfl) ⟨rfl, by rw [zneed, if_neg hb2]; exact ⟨_, _, _, zu_eq _ _ _, h2, zbits_with h3 hj, h4⟩, fun x hx => zu_ne hx, rfl⟩
set_option maxRecDepth 100000 in
theorem c_X8_sizeOfShare {G : zG} {σ : zH} {nx r p j : Nat} {P : List zP2} (h : zHas G σ r P) (h0 : 0 < p) (h8 : p ≤ 8) : zM G yX8_sizeOfShare kX8_sizeOfShare [.ref r, .int (nI p), .int (nI j)] σ nx (fun v σ' nx' => v = some (.int (nI (zshr P p j))) ∧ σ' = σ ∧ nx' = nx) := by
  refine zM.of (ls := [some (.ref r), some (.int (nI p)), some (.int (nI j)), none, none]) (by decide +kernel) ⟨rfl, rfl, rfl⟩ (Nat.le_of_ble_eq_true rfl) (fun _ h => h) ?_
  have hl := h.len
  have hd : (0 : Int32) < nI p := nI_lt h0 (by omega)
  have loop : ∀ d m : Nat, m + d = P.flatten.length →
      zWP G kX8_sizeOfShare (zFM G kX8_sizeOfShare.2.2.2.1 (fun v σ' nx' => v = some (.int (nI (zshr P p j))) ∧ σ' = σ ∧ nx' = nx)) 5 [some (.ref r), some (.int (nI p)), some (.int (nI j)), some (.int (nI (zpart p (P.flatten.take m) j).length)), some (.int (nI m))] [] σ nx 0 0 := by
    intro d
    induction d with
    | zero =>
      intro m hm
      have e : zpart p (P.flatten.take m) j = zpart p P.flatten j := by rw [List.take_of_length_le (by omega)]
      rw [e]
      refine z_iload dX8_sizeOfShare_5 rfl ?_
      refine z_aload_n dX8_sizeOfShare_7 rfl ?_
      refine z_callV dX8_sizeOfShare_8 cv_X8_122 (c_X9_size h) rfl h.c rfl rfl ⟨(Nat.le_of_ble_eq_true rfl), (Nat.le_of_ble_eq_true rfl)⟩ (Nat.le_of_ble_eq_true rfl) (Nat.le_of_ble_eq_true rfl) (Nat.le_of_ble_eq_true rfl) (fun v σ2 nx2 hx2 hq2 => ?_)
      obtain ⟨rfl, rfl, rfl⟩ := hq2
      refine z_icmp_ge (tgt := 37) dX8_sizeOfShare_11 (by decide) (fun _ => ?_) (fun q => absurd (nI_le (by omega) (by omega)) q)
      refine z_iload_n dX8_sizeOfShare_37 rfl ?_
      exact z_iret dX8_sizeOfShare_38 rfl (Nat.le_of_ble_eq_true rfl) (Nat.le_of_ble_eq_true rfl) ⟨rfl, rfl, rfl⟩
    | succ d ih =>
      intro m hm
      have hg : P.flatten[m]? = some (P.flatten[m]'(by omega)) := List.getElem?_eq_getElem _
      generalize P.flatten[m]'(by omega) = q at hg
      have nxt := ih (m + 1) (by omega)
      rw [ztake hg, zpart_snoc] at nxt
      refine z_iload dX8_sizeOfShare_5 rfl ?_
      refine z_aload_n dX8_sizeOfShare_7 rfl ?_
      refine z_callV dX8_sizeOfShare_8 cv_X8_122 (c_X9_size h) rfl h.c rfl rfl ⟨(Nat.le_of_ble_eq_true rfl), (Nat.le_of_ble_eq_true rfl)⟩ (Nat.le_of_ble_eq_true rfl) (Nat.le_of_ble_eq_true rfl) (Nat.le_of_ble_eq_true rfl) (fun v σ2 nx2 hx2 hq2 => ?_)
      obtain ⟨rfl, rfl, rfl⟩ := hq2
      refine z_icmp_ge (tgt := 37) dX8_sizeOfShare_11 (by decide) (fun q => absurd q (nI_ge (show m < P.flatten.length by omega) (by omega))) (fun _ => ?_)
      refine z_aload_n dX8_sizeOfShare_14 rfl ?_
      refine z_iload dX8_sizeOfShare_15 rfl ?_
      refine z_callV dX8_sizeOfShare_17 cv_X8_138 (c_X9_key h hg) rfl h.c rfl rfl ⟨(Nat.le_of_ble_eq_true rfl), (Nat.le_of_ble_eq_true rfl)⟩ (Nat.le_of_ble_eq_true rfl) (Nat.le_of_ble_eq_true rfl) (Nat.le_of_ble_eq_true rfl) (fun v σ2 nx2 hx2 hq2 => ?_)
      obtain ⟨rfl, rfl, rfl⟩ := hq2
      refine z_iload_n dX8_sizeOfShare_20 rfl ?_
      refine z_callS dX8_sizeOfShare_21 cv_X8_141 (c_X11_modulo hd) rfl rfl ⟨(Nat.le_of_ble_eq_true rfl), (Nat.le_of_ble_eq_true rfl)⟩ (Nat.le_of_ble_eq_true rfl) (Nat.le_of_ble_eq_true rfl) (Nat.le_of_ble_eq_true rfl) (fun v σ2 nx2 hx2 hq2 => ?_)
      obtain ⟨rfl, rfl, rfl⟩ := hq2
      refine z_iload_n dX8_sizeOfShare_24 rfl ?_
      by_cases e : zmd q.1 (nI p) = nI j
      · rw [if_pos e, List.length_append, List.length_singleton] at nxt
        refine z_icmp_ne (tgt := 31) dX8_sizeOfShare_25 (by decide) (fun q => absurd (e) q) (fun _ => ?_)
        refine z_inc1 dX8_sizeOfShare_28 rfl (by decide) ?_
        refine z_inc1 dX8_sizeOfShare_31 rfl (by decide) ?_
        refine z_goto (tgt := 5) dX8_sizeOfShare_34 (by decide) ?_
        rw [nI_1, nI_1]
        exact nxt
      · rw [if_neg e, List.append_nil] at nxt
        refine z_icmp_ne (tgt := 31) dX8_sizeOfShare_25 (by decide) (fun _ => ?_) (fun q => absurd q (e))
        refine z_inc1 dX8_sizeOfShare_31 rfl (by decide) ?_
        refine z_goto (tgt := 5) dX8_sizeOfShare_34 (by decide) ?_
        rw [nI_1]
        exact nxt
  refine z_iconst (v := 0) dX8_sizeOfShare_0 (by decide) ?_
  refine z_istore_n dX8_sizeOfShare_1 (by decide) ?_
  refine z_iconst (v := 0) dX8_sizeOfShare_2 (by decide) ?_
  refine z_istore dX8_sizeOfShare_3 (by decide) ?_
  exact loop P.flatten.length 0 (by omega)
