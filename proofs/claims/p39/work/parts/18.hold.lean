/-! Holding: its cells, and where a node's rows lie; fill -/
def zdf : zNX := (0, 0, znn, [])
def zb (e : zNX) : Nat := (e.2.2.1 3).toNatClampNeg
def zHC (g h : Nat) (ip : Bool) (fr : Int32) : va_E := .inr (4, [.ref g, .int (if ip then 1 else 0), .ref (h + 1), .int fr])
/-- where a node's rows lie: spread, or in one place -/
def zrr (ip : Bool) (n : Nat) : Nat := if ip then n + 15 else n + 8
theorem zrr_b (ip : Bool) (n : Nat) : n + 8 ≤ zrr ip n ∧ zrr ip n + 7 ≤ n + 22 := by cases ip <;> simp [zrr]
theorem zrr_o (ip : Bool) (n : Nat) : zrr ip n + 7 ≤ zrr (!ip) n ∨ zrr (!ip) n + 7 ≤ zrr ip n := by cases ip <;> simp [zrr]
/-- the same by a number, and how many rows there is room for -/
def zhr (nt : zNT) (ip : Bool) (i : Nat) : Nat := zrr ip (nt.getD i zdf).1
def zhc (nt : zNT) (i : Nat) : Nat := zb (nt.getD i zdf)
theorem zgD {nt : zNT} {i : Nat} {e : zNX} (h : nt[i]? = some e) : nt.getD i zdf = e := by rw [List.getD_eq_getElem?_getD, h]; rfl
theorem zhr_at {nt : zNT} {ip : Bool} {i : Nat} {e : zNX} (h : nt[i]? = some e) : zhr nt ip i = zrr ip e.1 := by rw [zhr, zgD h]
theorem zhc_at {nt : zNT} {i : Nat} {e : zNX} (h : nt[i]? = some e) : zhc nt i = zb e := by rw [zhc, zgD h]
/-- how the nodes lie -/
def zLy (nt : zNT) (lo : Nat) : Prop := (∀ (i : Nat) (e : zNX), nt[i]? = some e → lo ≤ e.1) ∧ ∀ (i j : Nat) (x y : zNX), i < j → nt[i]? = some x → nt[j]? = some y → x.1 + 22 ≤ y.1
theorem zGr.ly {G : zG} {σ : zH} {g hi : Nat} {nt : zNT} {lim : Int32} (h : zGr G σ g hi nt lim) : zLy nt hi := ⟨fun i e q => (h.2.2.2.1 i e q).2, h.2.2.2.2.1⟩
theorem zLy.ap {nt : zNT} {lo i j : Nat} {x y : zNX} (h : zLy nt lo) (hij : i ≠ j) (hx : nt[i]? = some x) (hy : nt[j]? = some y) : x.1 + 22 ≤ y.1 ∨ y.1 + 22 ≤ x.1 := by
  rcases Nat.lt_or_gt_of_ne hij with q | q
  · exact Or.inl (h.2 i j x y q hx hy)
  · exact Or.inr (h.2 j i y x q hy hx)
/-- the cells of a holding: its object, the rows by keys, and the rows of the nodes -/
def zHB (G : zG) (σ : zH) (g h : Nat) (ip : Bool) (nt : zNT) (fr : Int32) : Prop := σ h = some (zHC g h ip fr) ∧ (∃ R E, zRows G σ (h + 1) 300 R E) ∧ ∀ (i : Nat) (e : zNX), nt[i]? = some e → ∃ R E, zRows G σ (zrr ip e.1) (zb e) R E
set_option maxRecDepth 100000 in
theorem c_X3_of {G : zG} {σ : zH} {nx g h hi : Nat} {ip : Bool} {nt : zNT} {fr lim x : Int32} (hh : zHB G σ g h ip nt fr) (hg : zGr G σ g hi nt lim) : zM G yX3_of kX3_of [.ref h, .int x] σ nx (fun v σ' nx' => v = some (.ref (zrr ip (znat nt g x).1)) ∧ σ' = σ ∧ nx' = nx) := by
  refine zM.of (ls := [some (.ref h), some (.int x), none]) (by decide +kernel) ⟨rfl, rfl, rfl⟩ (Nat.le_of_ble_eq_true rfl) (fun _ h => h) ?_
  refine z_aload_n dX3_of_0 rfl ?_
  refine z_getf dX3_of_1 fl_X3_20 hh.1 rfl ?_
  refine z_iload_n dX3_of_4 rfl ?_
  refine z_callV dX3_of_5 cv_X3_28 (c_X2_at hg) rfl hg.1 rfl rfl ⟨(Nat.le_of_ble_eq_true rfl), (Nat.le_of_ble_eq_true rfl)⟩ (Nat.le_of_ble_eq_true rfl) (Nat.le_of_ble_eq_true rfl) (Nat.le_of_ble_eq_true rfl) (fun v σ1 nx1 hx1 hq1 => ?_)
  obtain ⟨rfl, rfl, rfl⟩ := hq1
  refine z_astore_n dX3_of_8 (by decide) ?_
  refine z_aload_n dX3_of_9 rfl ?_
  refine z_getf dX3_of_10 fl_X3_24 hh.1 rfl ?_
  cases ip with
  | true =>
    refine z_if_eq (tgt := 23) dX3_of_13 (by decide) (fun q => absurd q ((show ¬ (if true = true then (1 : Int32) else 0) = 0 from by decide))) (fun _ => ?_)
    refine z_aload_n dX3_of_16 rfl ?_
    refine z_getf dX3_of_17 fl_X3_34 (znat_node hg).1 rfl ?_
    refine z_goto (tgt := 27) dX3_of_20 (by decide) ?_
    exact z_aret dX3_of_27 rfl (Or.inl ⟨_, rfl⟩) (Nat.le_of_ble_eq_true rfl) (Nat.le_of_ble_eq_true rfl) ⟨rfl, rfl, rfl⟩
  | false =>
    refine z_if_eq (tgt := 23) dX3_of_13 (by decide) (fun _ => ?_) (fun q => absurd ((by decide)) q)
    refine z_aload_n dX3_of_23 rfl ?_
    refine z_getf dX3_of_24 fl_X3_39 (znat_node hg).1 rfl ?_
    exact z_aret dX3_of_27 rfl (Or.inl ⟨_, rfl⟩) (Nat.le_of_ble_eq_true rfl) (Nat.le_of_ble_eq_true rfl) ⟨rfl, rfl, rfl⟩
theorem c_X3_ofn {G : zG} {σ : zH} {nx g h hi i : Nat} {ip : Bool} {nt : zNT} {fr lim : Int32} (hh : zHB G σ g h ip nt fr) (hg : zGr G σ g hi nt lim) (hi : i < nt.length) : zM G yX3_of kX3_of [.ref h, .int (nI i)] σ nx (fun v σ' nx' => v = some (.ref (zhr nt ip i)) ∧ σ' = σ ∧ nx' = nx) := by
  have he : nt[i]? = some (nt[i]'hi) := List.getElem?_eq_getElem _
  have := c_X3_of (nx := nx) (x := nI i) hh hg
  rw [znat_in he hg.2.2.2.2.2.1, ← zhr_at he] at this
  exact this
/-- how many partitions a node was told -/
def ztp (ip : Bool) (D : Nat → Int32) : Nat := if ip then 1 else (D 6).toNatClampNeg
/-- what a node holds, by what its inputs hold -/
noncomputable def zcont (ip : Bool) (lim k : Nat) (D : Nat → Int32) (R : zP2) (P S : List zP2) : List zP2 :=
  if k = 0 then zdeal R (ztp ip D) else if k = 1 then P.map (zmapP D) else if k = 2 then P.map (zsifP D) else if k = 3 then zuni ip P S else if k = 4 then zrng (ztp ip D) (zpart (ztp ip D) (zgrp D P.flatten))
  else if ip = false ∧ S.flatten.length ≤ lim then P.map (zfmP S.flatten) else zrng (ztp ip D) (zjp (ztp ip D) (zsrt P.flatten) S.flatten)
theorem zHB.fr {G : zG} {σ σ' : zH} {g h hi : Nat} {ip : Bool} {nt : zNT} {fr : Int32} (hh : zHB G σ g h ip nt fr) (hl : zLy nt hi) (hf : ∀ b, (h ≤ b ∧ b < h + 8) ∨ hi ≤ b → σ' b = σ b) : zHB G σ' g h ip nt fr := by
  obtain ⟨h1, ⟨R, E, h2⟩, h3⟩ := hh
  refine ⟨(hf h (by omega)).trans h1, ⟨R, E, h2.fr fun b a c => hf b (by omega)⟩, fun i e he => ?_⟩
  obtain ⟨R, E, h6⟩ := h3 i e he
  have := hl.1 i e he
  have := zrr_b ip e.1
  exact ⟨R, E, h6.fr fun b a c => hf b (by omega)⟩
/-- after the rows of a node were written -/
theorem zHB.wr {G : zG} {σ σ' : zH} {g h hi j : Nat} {ip : Bool} {nt : zNT} {fr : Int32} {R : zP2} {E : List Nat} {x : zNX} (hh : zHB G σ g h ip nt fr) (hl : zLy nt hi) (l2 : h + 8 ≤ hi) (hj : nt[j]? = some x) (ht : zRows G σ' (zrr ip x.1) (zb x) R E) (hf : zFr σ σ' (zrr ip x.1) 7) : zHB G σ' g h ip nt fr := by
  obtain ⟨h1, ⟨R1, E1, h2⟩, h3⟩ := hh
  have q1 := hl.1 j x hj
  have q2 := zrr_b ip x.1
  refine ⟨(hf h (by omega)).trans h1, ⟨R1, E1, h2.fr fun b a c => hf b (by omega)⟩, fun i e he => ?_⟩
  by_cases ij : i = j
  · subst ij
    rw [hj] at he
    cases he
    exact ⟨R, E, ht⟩
  · obtain ⟨R2, E2, h6⟩ := h3 i e he
    have := hl.ap ij he hj
    have := zrr_b ip e.1
    exact ⟨R2, E2, h6.fr fun b a c => hf b (by omega)⟩
theorem zHB.by {G : zG} {σ σ' : zH} {g h hi : Nat} {ip : Bool} {nt : zNT} {fr : Int32} {R : zP2} {E : List Nat} (hh : zHB G σ g h ip nt fr) (hl : zLy nt hi) (l2 : h + 8 ≤ hi) (ht : zRows G σ' (h + 1) 300 R E) (hf : zFr σ σ' (h + 1) 7) : zHB G σ' g h ip nt fr := by
  obtain ⟨h1, ⟨R1, E1, h4⟩, h5⟩ := hh
  refine ⟨(hf h (by omega)).trans h1, ⟨R, E, ht⟩, fun i e he => ?_⟩
  obtain ⟨R2, E2, h6⟩ := h5 i e he
  have := hl.1 i e he
  have := zrr_b ip e.1
  exact ⟨R2, E2, h6.fr fun b a c => hf b (by omega)⟩
/-- what fill may change: the rows of the node, and those by keys -/
def zFf2 (σ σ' : zH) (h r : Nat) : Prop := ∀ b, (b < h + 1 ∨ h + 8 ≤ b) → (b < r ∨ r + 7 ≤ b) → σ' b = σ b
set_option maxRecDepth 100000 in
set_option maxHeartbeats 4000000 in
theorem c_X3_fill {G : zG} {σ : zH} {nx g h hi n k j lim : Nat} {ip : Bool} {nt : zNT} {fr : Int32} {D : Nat → Int32} {R : zP2} {P S : List zP2} (hG : zKap G) (hh : zHB G σ g h ip nt fr) (hgr : zGr G σ g hi nt (nI lim)) (hj : nt[j]? = some (n, k, D, R)) (hk : k < 6) (l1 : g + 24 ≤ h) (l2 : h + 8 ≤ hi) (hlim : lim ≤ 1000)
    (hP : 1 ≤ k → ∃ (i m : Nat) (x : zNX), nt[i]? = some x ∧ i ≠ j ∧ D 1 = nI i ∧ zHas G σ (zrr ip x.1) m P) (hS : k = 3 ∨ k = 5 → ∃ (i m : Nat) (x : zNX), nt[i]? = some x ∧ i ≠ j ∧ D 2 = nI i ∧ zHas G σ (zrr ip x.1) m S)
    (hp : k = 0 ∨ k = 4 ∨ k = 5 → ∃ p, 0 < p ∧ p ≤ 8 ∧ D 6 = nI p) (hc : k = 1 → D 7 = 3 → 0 < D 8) (hcap : (zcont ip lim k D R P S).flatten.length ≤ zb (n, k, D, R)) (hw : (zcont ip lim k D R P S).length ≤ 8) (hu : k = 3 → P.length + S.length ≤ 8 ∧ P.flatten.length + S.flatten.length ≤ zb (n, k, D, R)) :
    zM G yX3_fill kX3_fill [.ref h, .ref n, .ref (zrr ip n)] σ nx (fun v σ' nx' => v = none ∧ zHas G σ' (zrr ip n) (zb (n, k, D, R)) (zcont ip lim k D R P S) ∧ zHB G σ' g h ip nt fr ∧ zFf2 σ σ' h (zrr ip n) ∧ nx' = nx) := by
  refine zM.of2 (ls := [some (.ref h), some (.ref n), some (.ref (zrr ip n)), none, none, none]) (by decide +kernel) ⟨rfl, rfl, rfl⟩ (Nat.le_of_ble_eq_true rfl) (fun _ h => h) (fun Q hQ => ?_)
  have ly := hgr.ly
  have h14 := hgr.2.2.2.2.2.1
  have hn : zNode G σ n k D R := (hgr.2.2.2.1 j _ hj).1
  have hin : hi ≤ n := ly.1 j _ hj
  have hg := hgr.1
  obtain ⟨Rj, Ej, hto⟩ : ∃ R0 E0, zRows G σ (zrr ip n) (zb (n, k, D, R)) R0 E0 := hh.2.2 j _ hj
  obtain ⟨jb, jc⟩ := zrr_b ip n
  obtain ⟨mj, capM⟩ : ∃ z, zb (n, k, D, R) = z := ⟨_, rfl⟩
  rw [capM] at hto hcap hu hQ
  have pv : k = 0 ∨ k = 4 ∨ k = 5 → (if ip then (1 : Int32) else D 6) = nI (ztp ip D) ∧ 0 < ztp ip D ∧ ztp ip D ≤ 8 := by
    intro q
    obtain ⟨p, p1, p2, p3⟩ := hp q
    cases ip with
    | true => exact ⟨rfl, Nat.one_pos, (by show 1 ≤ 8; omega)⟩
    | false => exact ⟨by simp only [ztp, Bool.false_eq_true, if_false, p3]; rw [nI_clamp (by omega)], by simp only [ztp, Bool.false_eq_true, if_false, p3]; rw [nI_clamp (by omega)]; exact p1, by simp only [ztp, Bool.false_eq_true, if_false, p3]; rw [nI_clamp (by omega)]; exact p2⟩
  obtain ⟨r1, hr1⟩ : ∃ z, z = zrr ip (znat nt g (D 1)).1 := ⟨_, rfl⟩
  obtain ⟨r2, hr2⟩ : ∃ z, z = zrr ip (znat nt g (D 2)).1 := ⟨_, rfl⟩
  have inp0 : 1 ≤ k → ∃ m1, zHas G σ r1 m1 P ∧ zAp r1 (zrr ip n) ∧ zAp r1 (h + 1) := by
    intro q
    obtain ⟨i, m, x, i1, i2, i3, i4⟩ := hP q
    have e : r1 = zrr ip x.1 := by rw [hr1, i3, znat_in i1 h14]
    have a1 := ly.ap i2 i1 hj
    have a2 := ly.1 i x i1
    have a3 := zrr_b ip x.1
    rw [e]
    exact ⟨m, i4, by unfold zAp; simp only at a1; omega, by unfold zAp; omega⟩
  have ins0 : k = 3 ∨ k = 5 → ∃ m2, zHas G σ r2 m2 S ∧ zAp r2 (zrr ip n) ∧ zAp r2 (h + 1) := by
    intro q
    obtain ⟨i, m, x, i1, i2, i3, i4⟩ := hS q
    have e : r2 = zrr ip x.1 := by rw [hr2, i3, znat_in i1 h14]
    have a1 := ly.ap i2 i1 hj
    have a2 := ly.1 i x i1
    have a3 := zrr_b ip x.1
    rw [e]
    exact ⟨m, i4, by unfold zAp; simp only at a1; omega, by unfold zAp; omega⟩
  clear hp hP hS
  refine z_aload_n dX3_fill_0 rfl ?_
  refine z_aload_n dX3_fill_1 rfl ?_
  refine z_getf dX3_fill_2 fl_X3_84 hn.1 rfl ?_
  refine z_callV dX3_fill_5 cv_X3_57 (c_X3_of hh hgr) rfl hh.1 rfl rfl ⟨(Nat.le_of_ble_eq_true rfl), (Nat.le_of_ble_eq_true rfl)⟩ (Nat.le_of_ble_eq_true rfl) (Nat.le_of_ble_eq_true rfl) (Nat.le_of_ble_eq_true rfl) (fun v σ1 nx1 hx1 hq1 => ?_)
  obtain ⟨rfl, rfl, rfl⟩ := hq1
  rw [← hr1]
  refine z_astore_n dX3_fill_8 (by decide) ?_
  refine z_aload_n dX3_fill_9 rfl ?_
  refine z_aload_n dX3_fill_10 rfl ?_
  refine z_getf dX3_fill_11 fl_X3_74 hn.1 rfl ?_
  refine z_callV dX3_fill_14 cv_X3_57 (c_X3_of hh hgr) rfl hh.1 rfl rfl ⟨(Nat.le_of_ble_eq_true rfl), (Nat.le_of_ble_eq_true rfl)⟩ (Nat.le_of_ble_eq_true rfl) (Nat.le_of_ble_eq_true rfl) (Nat.le_of_ble_eq_true rfl) (fun v σ1 nx1 hx1 hq1 => ?_)
  obtain ⟨rfl, rfl, rfl⟩ := hq1
  rw [← hr2]
  refine z_astore dX3_fill_17 (by decide) ?_
  refine z_aload_n dX3_fill_19 rfl ?_
  refine z_getf dX3_fill_20 fl_X3_24 hh.1 rfl ?_
  have rest : ∀ x5 : Option Value, zWP G kX3_fill (zFM G kX3_fill.2.2.2.1 Q) 36 [some (.ref h), some (.ref n), some (.ref (zrr ip n)), some (.ref r1), some (.ref r2), some (.int (if ip then (1 : Int32) else D 6))] [] σ1 nx1 0 0 := by
    intro _
    refine z_aload_n dX3_fill_36 rfl ?_
    refine z_callV dX3_fill_37 cv_X3_90 (c_X9_clear hto) rfl hto.c rfl rfl ⟨(Nat.le_of_ble_eq_true rfl), (Nat.le_of_ble_eq_true rfl)⟩ (Nat.le_of_ble_eq_true rfl) (Nat.le_of_ble_eq_true rfl) (Nat.le_of_ble_eq_true rfl) (fun v σ2 nx2 hx2 hq2 => ?_)
    obtain ⟨rfl, t2, f2, rfl⟩ := hq2
    have t2' := t2
    rw [← capM] at t2'
    have hh2 : zHB G σ2 g h ip nt fr := hh.wr ly l2 hj t2' f2
    have hn2 : zNode G σ2 n k D R := hn.fr fun b a c => f2 b (by omega)
    have hg2 := (f2 g (by omega)).trans hg
    have apn : n + 8 ≤ zrr ip n ∨ zrr ip n + 7 ≤ n := by omega
    have aph : h < zrr ip n ∨ zrr ip n + 7 ≤ h := by omega
    have apb : zAp (h + 1) (zrr ip n) := Or.inl (by omega)
    have fin : ∀ (σ3 : zH), zHas G σ3 (zrr ip n) mj (zcont ip lim k D R P S) → zHB G σ3 g h ip nt fr → zFf2 σ2 σ3 h (zrr ip n) → ∀ ls : zL, zWP G kX3_fill (zFM G kX3_fill.2.2.2.1 Q) 198 ls [] σ3 nx2 0 0 := by
      intro σ3 a1 a2 a3 ls
      exact z_vret dX3_fill_198 rfl (Nat.le_of_ble_eq_true rfl) (Nat.le_of_ble_eq_true rfl) (hQ _ _ _ ⟨rfl, a1, a2, fun b hb hc => (a3 b hb hc).trans (f2 b (by omega)), rfl⟩)
    have ff : ∀ σ3, zFr σ2 σ3 (zrr ip n) 7 → zFf2 σ2 σ3 h (zrr ip n) := fun σ3 q b _ hb => q b (by omega)
    have KK : ∀ a b : Nat, a < 6 → b < 6 → a ≠ b → ¬ G.2.2 a = G.2.2 b := fun a b qa qb qn e => qn (hG a b qa qb e)
    have inp : 1 ≤ k → ∃ m1, zHas G σ2 r1 m1 P ∧ zAp r1 (zrr ip n) ∧ zAp r1 (h + 1) := fun q => by
      obtain ⟨m1, q1, q2, q3⟩ := inp0 q
      exact ⟨m1, q1.ap f2 q2, q2, q3⟩
    have ins : k = 3 ∨ k = 5 → ∃ m2, zHas G σ2 r2 m2 S ∧ zAp r2 (zrr ip n) ∧ zAp r2 (h + 1) := fun q => by
      obtain ⟨m2, q1, q2, q3⟩ := ins0 q
      exact ⟨m2, q1.ap f2 q2, q2, q3⟩
    refine z_aload_n dX3_fill_40 rfl ?_
    refine z_getf dX3_fill_41 fl_X3_65 hn2.1 rfl ?_
    refine z_kind dX3_fill_44 (by decide) fs_X3_93 ?_
    rcases (show k = 0 ∨ k = 1 ∨ k = 2 ∨ k = 3 ∨ k = 4 ∨ k = 5 by omega) with rfl | rfl | rfl | rfl | rfl | rfl
    · obtain ⟨p1, p2, p3⟩ := pv (Or.inl rfl)
      rw [p1]
      refine z_racmp_ne (tgt := 64) dX3_fill_47 (by decide) (fun q => absurd (rfl) q) (fun _ => ?_)
      refine z_aload_n dX3_fill_50 rfl ?_
      refine z_aload_n dX3_fill_51 rfl ?_
      refine z_getf dX3_fill_52 fl_X3_96 hn2.1 rfl ?_
      refine z_iload dX3_fill_55 rfl ?_
      refine z_aload_n dX3_fill_57 rfl ?_
      have tr : zRows G σ2 (n + 1) 12 R [] := hn2.2
      refine z_callV dX3_fill_58 cv_X3_99 (c_X3_deal tr t2 (by unfold zAp; omega) p2 p3 hcap) rfl hh2.1 rfl rfl ⟨(Nat.le_of_ble_eq_true rfl), (Nat.le_of_ble_eq_true rfl)⟩ (Nat.le_of_ble_eq_true rfl) (Nat.le_of_ble_eq_true rfl) (Nat.le_of_ble_eq_true rfl) (fun v σ3 nx3 hx3 hq3 => ?_)
      obtain ⟨rfl, t3, f3, rfl⟩ := hq3
      refine z_goto (tgt := 198) dX3_fill_61 (by decide) ?_
      exact fin σ3 t3 (hh2.wr ly l2 hj (by rw [capM]; exact t3) f3) (ff σ3 f3) _
    · obtain ⟨m1, i1, i2, i3⟩ := inp (by omega)
      refine z_racmp_ne (tgt := 64) dX3_fill_47 (by decide) (fun _ => ?_) (fun q => absurd q ((KK 1 0 (by omega) (by omega) (by omega))))
      refine z_aload_n dX3_fill_64 rfl ?_
      refine z_getf dX3_fill_65 fl_X3_65 hn2.1 rfl ?_
      refine z_kind dX3_fill_68 (by decide) fs_X3_103 ?_
      refine z_racmp_ne (tgt := 84) dX3_fill_71 (by decide) (fun q => absurd (rfl) q) (fun _ => ?_)
      refine z_aload_n dX3_fill_74 rfl ?_
      refine z_aload_n dX3_fill_75 rfl ?_
      refine z_aload_n dX3_fill_76 rfl ?_
      refine z_aload_n dX3_fill_77 rfl ?_
      refine z_callV dX3_fill_78 cv_X3_106 (c_X3_change i1 hn2 (hc rfl) t2 i2 apn hcap) rfl hh2.1 rfl rfl ⟨(Nat.le_of_ble_eq_true rfl), (Nat.le_of_ble_eq_true rfl)⟩ (Nat.le_of_ble_eq_true rfl) (Nat.le_of_ble_eq_true rfl) (Nat.le_of_ble_eq_true rfl) (fun v σ3 nx3 hx3 hq3 => ?_)
      obtain ⟨rfl, t3, f3, rfl⟩ := hq3
      refine z_goto (tgt := 198) dX3_fill_81 (by decide) ?_
      exact fin σ3 t3 (hh2.wr ly l2 hj (by rw [capM]; exact t3) f3) (ff σ3 f3) _
    · obtain ⟨m1, i1, i2, i3⟩ := inp (by omega)
      refine z_racmp_ne (tgt := 64) dX3_fill_47 (by decide) (fun _ => ?_) (fun q => absurd q ((KK 2 0 (by omega) (by omega) (by omega))))
      refine z_aload_n dX3_fill_64 rfl ?_
      refine z_getf dX3_fill_65 fl_X3_65 hn2.1 rfl ?_
      refine z_kind dX3_fill_68 (by decide) fs_X3_103 ?_
      refine z_racmp_ne (tgt := 84) dX3_fill_71 (by decide) (fun _ => ?_) (fun q => absurd q ((KK 2 1 (by omega) (by omega) (by omega))))
      refine z_aload_n dX3_fill_84 rfl ?_
      refine z_getf dX3_fill_85 fl_X3_65 hn2.1 rfl ?_
      refine z_kind dX3_fill_88 (by decide) fs_X3_110 ?_
      refine z_racmp_ne (tgt := 104) dX3_fill_91 (by decide) (fun q => absurd (rfl) q) (fun _ => ?_)
      refine z_aload_n dX3_fill_94 rfl ?_
      refine z_aload_n dX3_fill_95 rfl ?_
      refine z_aload_n dX3_fill_96 rfl ?_
      refine z_aload_n dX3_fill_97 rfl ?_
      refine z_callV dX3_fill_98 cv_X3_113 (c_X3_sift i1 hn2 t2 i2 apn hcap) rfl hh2.1 rfl rfl ⟨(Nat.le_of_ble_eq_true rfl), (Nat.le_of_ble_eq_true rfl)⟩ (Nat.le_of_ble_eq_true rfl) (Nat.le_of_ble_eq_true rfl) (Nat.le_of_ble_eq_true rfl) (fun v σ3 nx3 hx3 hq3 => ?_)
      obtain ⟨rfl, t3, f3, rfl⟩ := hq3
      refine z_goto (tgt := 198) dX3_fill_101 (by decide) ?_
      exact fin σ3 t3 (hh2.wr ly l2 hj (by rw [capM]; exact t3) f3) (ff σ3 f3) _
    · obtain ⟨m1, i1, i2, i3⟩ := inp (by omega)
      obtain ⟨m2, s1, s2, s3⟩ := ins (Or.inl rfl)
      obtain ⟨u1, u2⟩ := hu rfl
      refine z_racmp_ne (tgt := 64) dX3_fill_47 (by decide) (fun _ => ?_) (fun q => absurd q ((KK 3 0 (by omega) (by omega) (by omega))))
      refine z_aload_n dX3_fill_64 rfl ?_
      refine z_getf dX3_fill_65 fl_X3_65 hn2.1 rfl ?_
      refine z_kind dX3_fill_68 (by decide) fs_X3_103 ?_
      refine z_racmp_ne (tgt := 84) dX3_fill_71 (by decide) (fun _ => ?_) (fun q => absurd q ((KK 3 1 (by omega) (by omega) (by omega))))
      refine z_aload_n dX3_fill_84 rfl ?_
      refine z_getf dX3_fill_85 fl_X3_65 hn2.1 rfl ?_
      refine z_kind dX3_fill_88 (by decide) fs_X3_110 ?_
      refine z_racmp_ne (tgt := 104) dX3_fill_91 (by decide) (fun _ => ?_) (fun q => absurd q ((KK 3 2 (by omega) (by omega) (by omega))))
      refine z_aload_n dX3_fill_104 rfl ?_
      refine z_getf dX3_fill_105 fl_X3_65 hn2.1 rfl ?_
      refine z_kind dX3_fill_108 (by decide) fs_X3_116 ?_
      refine z_racmp_ne (tgt := 125) dX3_fill_111 (by decide) (fun q => absurd (rfl) q) (fun _ => ?_)
      refine z_aload_n dX3_fill_114 rfl ?_
      refine z_aload_n dX3_fill_115 rfl ?_
      refine z_aload dX3_fill_116 rfl ?_
      refine z_aload_n dX3_fill_118 rfl ?_
      refine z_callV dX3_fill_119 cv_X3_119 (c_X3_unite hh2.1 i1 s1 t2 i2 s2 aph u2 u1) rfl hh2.1 rfl rfl ⟨(Nat.le_of_ble_eq_true rfl), (Nat.le_of_ble_eq_true rfl)⟩ (Nat.le_of_ble_eq_true rfl) (Nat.le_of_ble_eq_true rfl) (Nat.le_of_ble_eq_true rfl) (fun v σ3 nx3 hx3 hq3 => ?_)
      obtain ⟨rfl, t3, f3, rfl⟩ := hq3
      refine z_goto (tgt := 198) dX3_fill_122 (by decide) ?_
      exact fin σ3 t3 (hh2.wr ly l2 hj (by rw [capM]; exact t3) f3) (ff σ3 f3) _
    · obtain ⟨m1, i1, i2, i3⟩ := inp (by omega)
      obtain ⟨p1, p2, p3⟩ := pv (Or.inr (Or.inl rfl))
      rw [p1]
      obtain ⟨Rb, Eb, hb⟩ := hh2.2.1
      refine z_racmp_ne (tgt := 64) dX3_fill_47 (by decide) (fun _ => ?_) (fun q => absurd q ((KK 4 0 (by omega) (by omega) (by omega))))
      refine z_aload_n dX3_fill_64 rfl ?_
      refine z_getf dX3_fill_65 fl_X3_65 hn2.1 rfl ?_
      refine z_kind dX3_fill_68 (by decide) fs_X3_103 ?_
      refine z_racmp_ne (tgt := 84) dX3_fill_71 (by decide) (fun _ => ?_) (fun q => absurd q ((KK 4 1 (by omega) (by omega) (by omega))))
      refine z_aload_n dX3_fill_84 rfl ?_
      refine z_getf dX3_fill_85 fl_X3_65 hn2.1 rfl ?_
      refine z_kind dX3_fill_88 (by decide) fs_X3_110 ?_
      refine z_racmp_ne (tgt := 104) dX3_fill_91 (by decide) (fun _ => ?_) (fun q => absurd q ((KK 4 2 (by omega) (by omega) (by omega))))
      refine z_aload_n dX3_fill_104 rfl ?_
      refine z_getf dX3_fill_105 fl_X3_65 hn2.1 rfl ?_
      refine z_kind dX3_fill_108 (by decide) fs_X3_116 ?_
      refine z_racmp_ne (tgt := 125) dX3_fill_111 (by decide) (fun _ => ?_) (fun q => absurd q ((KK 4 3 (by omega) (by omega) (by omega))))
      refine z_aload_n dX3_fill_125 rfl ?_
      refine z_getf dX3_fill_126 fl_X3_65 hn2.1 rfl ?_
      refine z_kind dX3_fill_129 (by decide) fs_X3_123 ?_
      refine z_racmp_ne (tgt := 151) dX3_fill_132 (by decide) (fun q => absurd (rfl) q) (fun _ => ?_)
      refine z_aload_n dX3_fill_135 rfl ?_
      refine z_aload_n dX3_fill_136 rfl ?_
      refine z_aload_n dX3_fill_137 rfl ?_
      refine z_callV dX3_fill_138 cv_X3_126 (c_X3_groupByKey hh2.1 i1 hn2 hb i3 (by omega) (by omega)) rfl hh2.1 rfl rfl ⟨(Nat.le_of_ble_eq_true rfl), (Nat.le_of_ble_eq_true rfl)⟩ (Nat.le_of_ble_eq_true rfl) (Nat.le_of_ble_eq_true rfl) (Nat.le_of_ble_eq_true rfl) (fun v σ3 nx3 hx3 hq3 => ?_)
      obtain ⟨rfl, t3, f3, rfl⟩ := hq3
      have hh3 := hh2.by ly l2 t3 f3
      have t4 : zRows G σ3 (zrr ip n) mj [] [] := t2.ap f3 (by unfold zAp; omega)
      refine z_aload_n dX3_fill_141 rfl ?_
      refine z_iload dX3_fill_142 rfl ?_
      refine z_aload_n dX3_fill_144 rfl ?_
      refine z_callV dX3_fill_145 cv_X3_130 (c_X3_dealByKey hh3.1 t3 t4 apb aph p2 p3 hcap) rfl hh3.1 rfl rfl ⟨(Nat.le_of_ble_eq_true rfl), (Nat.le_of_ble_eq_true rfl)⟩ (Nat.le_of_ble_eq_true rfl) (Nat.le_of_ble_eq_true rfl) (Nat.le_of_ble_eq_true rfl) (fun v σ4 nx4 hx4 hq4 => ?_)
      obtain ⟨rfl, t5, f5, rfl⟩ := hq4
      refine z_goto (tgt := 198) dX3_fill_148 (by decide) ?_
      exact fin σ4 t5 (hh3.wr ly l2 hj (by rw [capM]; exact t5) f5) (fun b hb hc => (f5 b (by omega)).trans (f3 b (by omega))) _
    · obtain ⟨m1, i1, i2, i3⟩ := inp (by omega)
      obtain ⟨m2, s1, s2, s3⟩ := ins (Or.inr rfl)
      obtain ⟨p1, p2, p3⟩ := pv (Or.inr (Or.inr rfl))
      rw [p1]
      obtain ⟨Rb, Eb, hb⟩ := hh2.2.1
      have hSl := s1.len
      have keyed : ¬ (ip = false ∧ S.flatten.length ≤ lim) → zWP G kX3_fill (zFM G kX3_fill.2.2.2.1 Q) 184 [some (.ref h), some (.ref n), some (.ref (zrr ip n)), some (.ref r1), some (.ref r2), some (.int (nI (ztp ip D)))] [] σ2 nx2 0 0 := by
        intro hno
        have ec : zcont ip lim 5 D R P S = zrng (ztp ip D) (zjp (ztp ip D) (zsrt P.flatten) S.flatten) := by unfold zcont; rw [if_neg (by decide), if_neg (by decide), if_neg (by decide), if_neg (by decide), if_neg (by decide), if_neg hno]
        refine z_aload_n dX3_fill_184 rfl ?_
        refine z_aload_n dX3_fill_185 rfl ?_
        refine z_callV dX3_fill_186 cv_X3_137 (c_X3_sortByKey hh2.1 i1 hb i3 (by omega)) rfl hh2.1 rfl rfl ⟨(Nat.le_of_ble_eq_true rfl), (Nat.le_of_ble_eq_true rfl)⟩ (Nat.le_of_ble_eq_true rfl) (Nat.le_of_ble_eq_true rfl) (Nat.le_of_ble_eq_true rfl) (fun v σ3 nx3 hx3 hq3 => ?_)
        obtain ⟨rfl, t3, f3, rfl⟩ := hq3
        have hh3 := hh2.by ly l2 t3 f3
        have t4 : zRows G σ3 (zrr ip n) mj [] [] := t2.ap f3 (by unfold zAp; omega)
        have s4 : zHas G σ3 r2 m2 S := s1.ap f3 s3
        refine z_aload_n dX3_fill_189 rfl ?_
        refine z_aload dX3_fill_190 rfl ?_
        refine z_iload dX3_fill_192 rfl ?_
        refine z_aload_n dX3_fill_194 rfl ?_
        refine z_callV dX3_fill_195 cv_X3_141 (c_X3_joinByKey hh3.1 t3 s4 t4 apb s2 aph p2 p3 (by rw [← ec]; exact hcap)) rfl hh3.1 rfl rfl ⟨(Nat.le_of_ble_eq_true rfl), (Nat.le_of_ble_eq_true rfl)⟩ (Nat.le_of_ble_eq_true rfl) (Nat.le_of_ble_eq_true rfl) (Nat.le_of_ble_eq_true rfl) (fun v σ4 nx4 hx4 hq4 => ?_)
        obtain ⟨rfl, t5, f5, rfl⟩ := hq4
        exact fin σ4 (by rw [ec]; exact t5) (hh3.wr ly l2 hj (by rw [capM]; exact t5) f5) (fun b hb hc => (f5 b (by omega)).trans (f3 b (by omega))) _
      refine z_racmp_ne (tgt := 64) dX3_fill_47 (by decide) (fun _ => ?_) (fun q => absurd q ((KK 5 0 (by omega) (by omega) (by omega))))
      refine z_aload_n dX3_fill_64 rfl ?_
      refine z_getf dX3_fill_65 fl_X3_65 hn2.1 rfl ?_
      refine z_kind dX3_fill_68 (by decide) fs_X3_103 ?_
      refine z_racmp_ne (tgt := 84) dX3_fill_71 (by decide) (fun _ => ?_) (fun q => absurd q ((KK 5 1 (by omega) (by omega) (by omega))))
      refine z_aload_n dX3_fill_84 rfl ?_
      refine z_getf dX3_fill_85 fl_X3_65 hn2.1 rfl ?_
      refine z_kind dX3_fill_88 (by decide) fs_X3_110 ?_
      refine z_racmp_ne (tgt := 104) dX3_fill_91 (by decide) (fun _ => ?_) (fun q => absurd q ((KK 5 2 (by omega) (by omega) (by omega))))
      refine z_aload_n dX3_fill_104 rfl ?_
      refine z_getf dX3_fill_105 fl_X3_65 hn2.1 rfl ?_
      refine z_kind dX3_fill_108 (by decide) fs_X3_116 ?_
      refine z_racmp_ne (tgt := 125) dX3_fill_111 (by decide) (fun _ => ?_) (fun q => absurd q ((KK 5 3 (by omega) (by omega) (by omega))))
      refine z_aload_n dX3_fill_125 rfl ?_
      refine z_getf dX3_fill_126 fl_X3_65 hn2.1 rfl ?_
      refine z_kind dX3_fill_129 (by decide) fs_X3_123 ?_
      refine z_racmp_ne (tgt := 151) dX3_fill_132 (by decide) (fun _ => ?_) (fun q => absurd q ((KK 5 4 (by omega) (by omega) (by omega))))
      refine z_aload_n dX3_fill_151 rfl ?_
      refine z_getf dX3_fill_152 fl_X3_24 hh2.1 rfl ?_
      cases ip with
      | true =>
        refine z_if_ne (tgt := 184) dX3_fill_155 (by decide) (fun _ => ?_) (fun q => absurd q ((show ¬ (if true = true then (1 : Int32) else 0) = 0 from by decide)))
        exact keyed (by simp)
      | false =>
        refine z_if_ne (tgt := 184) dX3_fill_155 (by decide) (fun q => absurd ((by decide)) q) (fun _ => ?_)
        refine z_aload dX3_fill_158 rfl ?_
        refine z_callV dX3_fill_160 cv_X3_77 (c_X9_size s1) rfl s1.c rfl rfl ⟨(Nat.le_of_ble_eq_true rfl), (Nat.le_of_ble_eq_true rfl)⟩ (Nat.le_of_ble_eq_true rfl) (Nat.le_of_ble_eq_true rfl) (Nat.le_of_ble_eq_true rfl) (fun v σ3 nx3 hx3 hq3 => ?_)
        obtain ⟨rfl, rfl, rfl⟩ := hq3
        refine z_aload_n dX3_fill_163 rfl ?_
        refine z_getf dX3_fill_164 fl_X3_20 hh2.1 rfl ?_
        refine z_getf dX3_fill_167 fl_X3_81 hg2 rfl ?_
        refine z_icmp_gt (tgt := 184) dX3_fill_170 (by decide) (fun h170 => ?_) (fun h170 => ?_)
        · exact keyed (fun q => absurd (nI_le q.2 (by omega)) (Int32.not_le.mpr h170))
        · have hle : S.flatten.length ≤ lim := (nI_leI (by omega) (by omega)).mp (Int32.not_lt.mp h170)
          have ec : zcont false lim 5 D R P S = P.map (zfmP S.flatten) := by unfold zcont; rw [if_neg (by decide), if_neg (by decide), if_neg (by decide), if_neg (by decide), if_neg (by decide), if_pos ⟨rfl, hle⟩]
          refine z_aload_n dX3_fill_173 rfl ?_
          refine z_aload_n dX3_fill_174 rfl ?_
          refine z_aload dX3_fill_175 rfl ?_
          refine z_aload_n dX3_fill_177 rfl ?_
          refine z_callV dX3_fill_178 cv_X3_134 (c_X3_joinInOrder hh2.1 i1 s1 t2 i2 s2 aph (by rw [← ec]; exact hcap)) rfl hh2.1 rfl rfl ⟨(Nat.le_of_ble_eq_true rfl), (Nat.le_of_ble_eq_true rfl)⟩ (Nat.le_of_ble_eq_true rfl) (Nat.le_of_ble_eq_true rfl) (Nat.le_of_ble_eq_true rfl) (fun v σ4 nx4 hx4 hq4 => ?_)
          obtain ⟨rfl, t5, f5, rfl⟩ := hq4
          refine z_goto (tgt := 198) dX3_fill_181 (by decide) ?_
          exact fin σ4 (by rw [ec]; exact t5) (hh2.wr ly l2 hj (by rw [capM]; exact t5) f5) (ff σ4 f5) _
  cases ip with
  | true =>
    refine z_if_eq (tgt := 30) dX3_fill_23 (by decide) (fun q => absurd q ((show ¬ (if true = true then (1 : Int32) else 0) = 0 from by decide))) (fun _ => ?_)
    refine z_iconst (v := 1) dX3_fill_26 (by decide) ?_
    refine z_goto (tgt := 34) dX3_fill_27 (by decide) ?_
    refine z_istore dX3_fill_34 (by decide) ?_
    exact rest none
  | false =>
    refine z_if_eq (tgt := 30) dX3_fill_23 (by decide) (fun _ => ?_) (fun q => absurd ((by decide)) q)
    refine z_aload_n dX3_fill_30 rfl ?_
    refine z_getf dX3_fill_31 fl_X3_87 hn.1 rfl ?_
    refine z_istore dX3_fill_34 (by decide) ?_
    exact rest none
