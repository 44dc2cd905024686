theorem zRows.kp {G : zG} {σ σ' : zH} {r m : Nat} {R : zP2} {E : List Nat} (h : zRows G σ r m R E) (hf : ∀ x e, σ x = some e → (∀ cap f, e ≠ zE G cap f) → r ≤ x → x < r + 7 → σ' x = σ x) : zRows G σ' r m R E := by
  obtain ⟨kf, vf, ef, h1, ⟨h2, h3⟩, ⟨h4, h5⟩, ⟨h6, h7⟩, h8⟩ := h
  have q : ∀ x e, σ x = some e → (∀ cap f, e ≠ zE G cap f) → r ≤ x → x < r + 7 → σ' x = some e := fun x e a b c d => (hf x e a b c d).trans a
  exact ⟨kf, vf, ef, q _ _ h1 (fun _ _ z => by cases z) (by omega) (by omega), ⟨q _ _ h2 (fun _ _ z => by simp at z) (by omega) (by omega), q _ _ h3 (fun _ _ z => by simp at z) (by omega) (by omega)⟩, ⟨q _ _ h4 (fun _ _ z => by simp at z) (by omega) (by omega), q _ _ h5 (fun _ _ z => by simp at z) (by omega) (by omega)⟩, ⟨q _ _ h6 (fun _ _ z => by simp at z) (by omega) (by omega), q _ _ h7 (fun _ _ z => by simp at z) (by omega) (by omega)⟩, h8⟩
theorem zNode.kp {G : zG} {σ σ' : zH} {n k : Nat} {D : Nat → Int32} {R : zP2} (h : zNode G σ n k D R) (hf : ∀ x e, σ x = some e → (∀ cap f, e ≠ zE G cap f) → n ≤ x → x < n + 8 → σ' x = σ x) : zNode G σ' n k D R := ⟨(hf n _ h.1 (fun _ _ z => by cases z) (by omega) (by omega)).trans h.1, h.2.kp fun x e a b c d => hf x e a b (by omega) (by omega)⟩
/-! Graph: g is the object; its list lies behind it, then the node that there is not; the nodes made lie above hi, twenty-two cells each: its object, what it was told, its two rows -/
abbrev zNX : Type := Nat × Nat × (Nat → Int32) × zP2
abbrev zNT : Type := List zNX
def znn : Nat → Int32 := zD0 (-1) (-1) 0 0
def zGr (G : zG) (σ : zH) (g hi : Nat) (nt : zNT) (lim : Int32) : Prop := σ g = some (.inr (3, [.ref (g + 1), .ref (g + 2), .int lim])) ∧ zList G σ (g + 1) hi (nt.map (fun e => e.1)) ∧ zNode G σ (g + 2) 0 znn [] ∧
  (∀ (i : Nat) (e : zNX), nt[i]? = some e → zNode G σ e.1 e.2.1 e.2.2.1 e.2.2.2 ∧ hi ≤ e.1) ∧ (∀ (i j : Nat) (x y : zNX), i < j → nt[i]? = some x → nt[j]? = some y → x.1 + 22 ≤ y.1) ∧ nt.length ≤ 14 ∧ g + 24 ≤ hi
theorem zGr.fr {G : zG} {σ σ' : zH} {g hi : Nat} {nt : zNT} {lim : Int32} (h : zGr G σ g hi nt lim) (hf : ∀ b, g ≤ b → b < g + 10 → σ' b = σ b) (hn : ∀ b, hi ≤ b → (∃ e, σ b = some e) → σ' b = σ b) : zGr G σ' g hi nt lim := by
  obtain ⟨h1, h2, h3, h4, h5, h6, h7⟩ := h
  refine ⟨(hf g (by omega) (by omega)).trans h1, h2.fr2 (hf (g + 1) (by omega) (by omega)) hn, h3.fr fun b a c => hf b (by omega) (by omega), fun i e he => ⟨?_, (h4 i e he).2⟩, h5, h6, h7⟩
  obtain ⟨⟨a1, kf, vf, ef, a2, ⟨a3, a4⟩, ⟨a5, a6⟩, ⟨a7, a8⟩, a9⟩, hh⟩ := h4 i e he
  exact ⟨(hn _ (by omega) ⟨_, a1⟩).trans a1, kf, vf, ef, (hn _ (by omega) ⟨_, a2⟩).trans a2, ⟨(hn _ (by omega) ⟨_, a3⟩).trans a3, (hn _ (by omega) ⟨_, a4⟩).trans a4⟩, ⟨(hn _ (by omega) ⟨_, a5⟩).trans a5, (hn _ (by omega) ⟨_, a6⟩).trans a6⟩, ⟨(hn _ (by omega) ⟨_, a7⟩).trans a7, (hn _ (by omega) ⟨_, a8⟩).trans a8⟩, a9⟩
set_option maxRecDepth 100000 in
theorem c_X2_size {G : zG} {σ : zH} {nx g hi : Nat} {nt : zNT} {lim : Int32} (h : zGr G σ g hi nt lim) : zM G yX2_size kX2_size [.ref g] σ nx (fun v σ' nx' => v = some (.int (nI nt.length)) ∧ σ' = σ ∧ nx' = nx) := by
  refine zM.of (ls := [some (.ref g)]) (by decide +kernel) ⟨rfl, rfl, rfl⟩ (Nat.le_of_ble_eq_true rfl) (fun _ h => h) ?_
  obtain ⟨md, ed, h1, -⟩ := id h.2.1
  refine z_aload_n dX2_size_0 rfl ?_
  refine z_getf dX2_size_1 fl_X2_12 h.1 rfl ?_
  refine z_callV dX2_size_4 cv_X2_37 (c_list_size h.2.1) rfl h1 rfl rfl ⟨(Nat.le_of_ble_eq_true rfl), (Nat.le_of_ble_eq_true rfl)⟩ (Nat.le_of_ble_eq_true rfl) (Nat.le_of_ble_eq_true rfl) (Nat.le_of_ble_eq_true rfl) (fun v σ1 nx1 hx1 hq1 => ?_)
  obtain ⟨rfl, rfl, rfl⟩ := hq1
  exact z_iret dX2_size_7 rfl (Nat.le_of_ble_eq_true rfl) (Nat.le_of_ble_eq_true rfl) ⟨by rw [List.length_map], rfl, rfl⟩
/-- the node of a number, if there is one -/
def znat (nt : zNT) (g : Nat) (x : Int32) : Nat × Nat × (Nat → Int32) × zP2 := if x < 0 then (g + 2, 0, znn, []) else nt.getD x.toNatClampNeg (g + 2, 0, znn, [])
theorem znat_in {nt : zNT} {g i : Nat} {e : Nat × Nat × (Nat → Int32) × zP2} (h : nt[i]? = some e) (hl : nt.length ≤ 14) : znat nt g (nI i) = e := by
  have := zR_lt h
  rw [znat, if_neg (nI_pos (by omega)), nI_clamp (by omega), List.getD_eq_getElem?_getD, h]
  rfl
theorem znat_node {G : zG} {σ : zH} {g hi : Nat} {nt : zNT} {lim x : Int32} (h : zGr G σ g hi nt lim) : zNode G σ (znat nt g x).1 (znat nt g x).2.1 (znat nt g x).2.2.1 (znat nt g x).2.2.2 := by
  unfold znat
  by_cases hx : x < 0
  · rw [if_pos hx]; exact h.2.2.1
  · rw [if_neg hx, List.getD_eq_getElem?_getD]
    cases he : nt[x.toNatClampNeg]? with
    | none => exact h.2.2.1
    | some e => exact (h.2.2.2.1 _ e he).1
set_option maxRecDepth 100000 in
theorem c_X2_at {G : zG} {σ : zH} {nx g hi : Nat} {nt : zNT} {lim x : Int32} (h : zGr G σ g hi nt lim) : zM G yX2_at kX2_at [.ref g, .int x] σ nx (fun v σ' nx' => v = some (.ref (znat nt g x).1) ∧ σ' = σ ∧ nx' = nx) := by
  refine zM.of (ls := [some (.ref g), some (.int x)]) (by decide +kernel) ⟨rfl, rfl, rfl⟩ (Nat.le_of_ble_eq_true rfl) (fun _ h => h) ?_
  obtain ⟨md, ed, h1, -⟩ := id h.2.1
  have hN : (nt.map (fun e => e.1)).length = nt.length := List.length_map _
  have h14 := h.2.2.2.2.2.1
  refine z_iload_n dX2_at_0 rfl ?_
  refine z_if_lt (tgt := 29) dX2_at_1 (by decide) (fun h1_1 => ?_) (fun h1_1 => ?_)
  · refine z_aload_n dX2_at_29 rfl ?_
    refine z_getf dX2_at_30 fl_X2_29 h.1 rfl ?_
    exact z_aret dX2_at_33 rfl (Or.inl ⟨_, rfl⟩) (Nat.le_of_ble_eq_true rfl) (Nat.le_of_ble_eq_true rfl) ⟨by rw [znat, if_pos h1_1], rfl, rfl⟩
  · refine z_iload_n dX2_at_4 rfl ?_
    refine z_aload_n dX2_at_5 rfl ?_
    refine z_getf dX2_at_6 fl_X2_12 h.1 rfl ?_
    refine z_callV dX2_at_9 cv_X2_37 (c_list_size h.2.1) rfl h1 rfl rfl ⟨(Nat.le_of_ble_eq_true rfl), (Nat.le_of_ble_eq_true rfl)⟩ (Nat.le_of_ble_eq_true rfl) (Nat.le_of_ble_eq_true rfl) (Nat.le_of_ble_eq_true rfl) (fun v σ1 nx1 hx1 hq1 => ?_)
    obtain ⟨rfl, rfl, rfl⟩ := hq1
    rw [hN]
    obtain ⟨i, hi31, rfl⟩ := nI_of h1_1
    refine z_icmp_ge (tgt := 29) dX2_at_12 (by decide) (fun h12 => ?_) (fun h12 => ?_)
    · refine z_aload_n dX2_at_29 rfl ?_
      refine z_getf dX2_at_30 fl_X2_29 h.1 rfl ?_
      have hle := (nI_leI (by omega) hi31).mp h12
      refine z_aret dX2_at_33 rfl (Or.inl ⟨_, rfl⟩) (Nat.le_of_ble_eq_true rfl) (Nat.le_of_ble_eq_true rfl) ⟨by rw [znat, if_neg h1_1, nI_clamp hi31, List.getD_eq_getElem?_getD, List.getElem?_eq_none hle]; rfl, rfl, rfl⟩
    · have hlt : i < nt.length := by
        rcases Nat.lt_or_ge i nt.length with q | q
        · exact q
        · exact absurd (nI_le q hi31) h12
      have he : nt[i]? = some (nt[i]'hlt) := List.getElem?_eq_getElem _
      have he2 : (nt.map (fun e => e.1))[i]? = some (nt[i]'hlt).1 := by rw [List.getElem?_map, he]; rfl
      refine z_aload_n dX2_at_15 rfl ?_
      refine z_getf dX2_at_16 fl_X2_12 h.1 rfl ?_
      refine z_iload_n dX2_at_19 rfl ?_
      refine z_callV dX2_at_20 cv_X2_41 (c_list_get h.2.1 he2 (by omega)) rfl h1 rfl rfl ⟨(Nat.le_of_ble_eq_true rfl), (Nat.le_of_ble_eq_true rfl)⟩ (Nat.le_of_ble_eq_true rfl) (Nat.le_of_ble_eq_true rfl) (Nat.le_of_ble_eq_true rfl) (fun v σ1 nx1 hx1 hq1 => ?_)
      obtain ⟨rfl, rfl, rfl⟩ := hq1
      refine z_cast dX2_at_23 w_70 (h.2.2.2.1 i _ he).1.1 rfl ?_
      refine z_goto (tgt := 33) dX2_at_26 (by decide) ?_
      exact z_aret dX2_at_33 rfl (Or.inl ⟨_, rfl⟩) (Nat.le_of_ble_eq_true rfl) (Nat.le_of_ble_eq_true rfl) ⟨by rw [znat_in he h14], rfl, rfl⟩
set_option maxRecDepth 100000 in
/-- Graph.add -/
theorem c_X2_add {G : zG} {σ : zH} {nx g hi n k : Nat} {D : Nat → Int32} {nt : zNT} {lim : Int32} (h : zGr G σ g hi nt lim) (hn : zNode G σ n k D []) (hhi : hi ≤ n) (hab : ∀ (i : Nat) (e : zNX), nt[i]? = some e → e.1 + 22 ≤ n) (hnx : n + 8 ≤ nx) (hlen : nt.length < 14) : zM G yX2_add kX2_add [.ref g, .ref n] σ nx
    (fun v σ' nx' => v = some (.int (nI nt.length)) ∧ zGr G σ' g hi (nt ++ [(n, k, upd D 12 (zwith ((znat nt g (D 1)).2.2.1 12 ||| (znat nt g (D 2)).2.2.1 12) nt.length), [])]) lim ∧ (∀ x, x ≠ g + 1 → x ≠ n → x < nx → ((∀ cap f, σ x ≠ some (zE G cap f)) ∨ x < hi) → σ' x = σ x)) := by
  refine zM.of (ls := [some (.ref g), some (.ref n), none, none]) (by decide +kernel) ⟨rfl, rfl, rfl⟩ (Nat.le_of_ble_eq_true rfl) (fun _ h => h) ?_
  obtain ⟨md, ed, h1, -⟩ := id h.2.1
  have hN : (nt.map (fun e => e.1)).length = nt.length := List.length_map _
  have hg10 := h.2.2.2.2.2.2
  refine z_dom (fun hdom => ?_)
  refine z_aload_n dX2_add_0 rfl ?_
  refine z_getf dX2_add_1 fl_X2_12 h.1 rfl ?_
  refine z_callV dX2_add_4 cv_X2_37 (c_list_size h.2.1) rfl h1 rfl rfl ⟨(Nat.le_of_ble_eq_true rfl), (Nat.le_of_ble_eq_true rfl)⟩ (Nat.le_of_ble_eq_true rfl) (Nat.le_of_ble_eq_true rfl) (Nat.le_of_ble_eq_true rfl) (fun v σ1 nx1 hx1 hq1 => ?_)
  obtain ⟨rfl, rfl, rfl⟩ := hq1
  rw [hN]
  refine z_istore_n dX2_add_7 (by decide) ?_
  refine z_aload_n dX2_add_8 rfl ?_
  refine z_aload_n dX2_add_9 rfl ?_
  refine z_getf dX2_add_10 fl_X2_45 hn.1 rfl ?_
  refine z_callV dX2_add_13 cv_X2_48 (c_X2_at h) rfl h.1 rfl rfl ⟨(Nat.le_of_ble_eq_true rfl), (Nat.le_of_ble_eq_true rfl)⟩ (Nat.le_of_ble_eq_true rfl) (Nat.le_of_ble_eq_true rfl) (Nat.le_of_ble_eq_true rfl) (fun v σ1 nx1 hx1 hq1 => ?_)
  obtain ⟨rfl, rfl, rfl⟩ := hq1
  refine z_getf dX2_add_16 fl_X2_52 (znat_node h).1 rfl ?_
  refine z_aload_n dX2_add_19 rfl ?_
  refine z_aload_n dX2_add_20 rfl ?_
  refine z_getf dX2_add_21 fl_X2_55 hn.1 rfl ?_
  refine z_callV dX2_add_24 cv_X2_48 (c_X2_at h) rfl h.1 rfl rfl ⟨(Nat.le_of_ble_eq_true rfl), (Nat.le_of_ble_eq_true rfl)⟩ (Nat.le_of_ble_eq_true rfl) (Nat.le_of_ble_eq_true rfl) (Nat.le_of_ble_eq_true rfl) (fun v σ1 nx1 hx1 hq1 => ?_)
  obtain ⟨rfl, rfl, rfl⟩ := hq1
  refine z_getf dX2_add_27 fl_X2_52 (znat_node h).1 rfl ?_
  refine z_ior dX2_add_30 ?_
  refine z_istore_n dX2_add_31 (by decide) ?_
  refine z_aload_n dX2_add_32 rfl ?_
  refine z_iload_n dX2_add_33 rfl ?_
  refine z_iload_n dX2_add_34 rfl ?_
  refine z_callS dX2_add_35 cv_X2_58 (c_X11_with hlen) rfl rfl ⟨(Nat.le_of_ble_eq_true rfl), (Nat.le_of_ble_eq_true rfl)⟩ (Nat.le_of_ble_eq_true rfl) (Nat.le_of_ble_eq_true rfl) (Nat.le_of_ble_eq_true rfl) (fun v σ1 nx1 hx1 hq1 => ?_)
  obtain ⟨rfl, rfl, rfl⟩ := hq1
  refine z_putf dX2_add_38 fp_X2_52 hn.1 rfl rfl (Nat.le_of_ble_eq_true rfl) ?_
  generalize zwith ((znat nt g (D 1)).2.2.1 12 ||| (znat nt g (D 2)).2.2.1 12) nt.length = W
  have e1 : (zNF G n k D).set 14 (.int W) = zNF G n k (upd D 12 W) := rfl
  rw [e1]
  obtain ⟨σ2, hσ2⟩ : ∃ z, z = zu σ1 n (.inr (7, zNF G n k (upd D 12 W))) := ⟨_, rfl⟩
  rw [← hσ2]
  have f2 : ∀ x, x ≠ n → σ2 x = σ1 x := fun x hx => by rw [hσ2]; exact zu_ne hx
  have n2 : σ2 n = some (.inr (7, zNF G n k (upd D 12 W))) := by rw [hσ2]; exact zu_eq _ _ _
  have hE2 : zKE G σ1 σ2 := fun x cap f q => f2 x (fun e => by rw [e, hn.1] at q; cases q)
  have l2 : zList G σ2 (g + 1) hi (nt.map (fun e => e.1)) := h.2.1.fr (f2 _ (by omega)) hE2
  obtain ⟨md2, ed2, k1, -⟩ := id l2
  have hd2 : ∀ a e, σ2 a = some e → a < nx1 := fun a e q => by
    by_cases z : a = n
    · omega
    · rw [f2 a z] at q; exact hdom a e q
  have hN7 : ∀ (i b : Nat), (nt.map (fun e => e.1))[i]? = some b → ∃ fs, σ2 b = some (.inr (7, fs)) := fun i b q => by
    rw [List.getElem?_map] at q
    obtain ⟨e, he, rfl⟩ := Option.map_eq_some_iff.mp q
    have := hab i e he
    exact ⟨_, (f2 _ (by omega)).trans (h.2.2.2.1 i e he).1.1⟩
  refine z_aload_n dX2_add_41 rfl ?_
  refine z_getf dX2_add_42 fl_X2_12 ((f2 g (by omega)).trans h.1) rfl ?_
  refine z_aload_n dX2_add_45 rfl ?_
  refine z_callV dX2_add_46 cv_X2_62 (c_list_add l2 n2 (by omega) (by omega) hN7 hd2) rfl k1 rfl rfl ⟨(Nat.le_of_ble_eq_true rfl), (Nat.le_of_ble_eq_true rfl)⟩ (Nat.le_of_ble_eq_true rfl) (Nat.le_of_ble_eq_true rfl) (Nat.le_of_ble_eq_true rfl) (fun v σ3 nx3 hx3 hq3 => ?_)
  obtain ⟨rfl, l3, f3, hx4⟩ := hq3
  refine z_pop dX2_add_49 rfl ?_
  refine z_iload_n dX2_add_50 rfl ?_
  have kp : ∀ x e, σ1 x = some e → (∀ cap f, e ≠ zE G cap f) → x ≠ g + 1 → x ≠ n → σ3 x = σ1 x := fun x e hx hE q1 q2 => (f3 x q1 (hdom x e hx) (Or.inl fun cap f z => hE cap f (by rw [f2 x q2, hx] at z; exact Option.some.inj z))).trans (f2 x q2)
  refine z_iret dX2_add_51 rfl (Nat.le_of_ble_eq_true rfl) (Nat.le_of_ble_eq_true rfl) ⟨rfl, ⟨(kp g _ h.1 (fun cap f q => by cases q) (by omega) (by omega)).trans h.1, by rw [List.map_append]; exact l3, h.2.2.1.kp fun x e hx hE a b => kp x e hx hE (by omega) (by omega), fun i e he => ?_, fun i j x y hij hx hy => ?_, by rw [List.length_append]; exact hlen, hg10⟩, fun x q1 q2 q3 q4 => ?_⟩
  · by_cases hi2 : i < nt.length
    · rw [List.getElem?_append_left hi2] at he
      have h8 := hab i e he
      have hh := h.2.2.2.1 i e he
      exact ⟨hh.1.kp fun x e2 hx hE a b => kp x e2 hx hE (by omega) (by omega), hh.2⟩
    · have hl := zR_lt he
      rw [List.length_append] at hl
      have hi3 : i = nt.length := by simp at hl; omega
      subst hi3
      rw [List.getElem?_append_right (Nat.le_refl _), Nat.sub_self] at he
      cases he
      refine ⟨⟨(f3 n (by omega) (by omega) (Or.inl fun cap f q => by rw [n2] at q; cases q)).trans n2, ?_⟩, hhi⟩
      exact hn.2.kp fun x e2 hx hE a b => kp x e2 hx hE (by omega) (by omega)
  · have hl := zR_lt hy
    rw [List.length_append] at hl
    by_cases hj2 : j < nt.length
    · rw [List.getElem?_append_left hj2] at hy
      rw [List.getElem?_append_left (by omega)] at hx
      exact h.2.2.2.2.1 i j x y hij hx hy
    · have hj3 : j = nt.length := by simp at hl; omega
      subst hj3
      rw [List.getElem?_append_right (Nat.le_refl _), Nat.sub_self] at hy
      cases hy
      rw [List.getElem?_append_left hij] at hx
      exact hab i x hx
  · exact (f3 x q1 q3 (q4.imp (fun q4 cap f z => q4 cap f (by rw [f2 x q2] at z; exact z)) id)).trans (f2 x q2)
