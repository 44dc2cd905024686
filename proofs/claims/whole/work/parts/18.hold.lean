/-! Holding: its cells; fill -/
def zHC (g h : Nat) (ip : Bool) (fr : Int32) : va_E := .inr (4, [.ref g, .int (if ip then 1 else 0), .ref (h + 1), .ref (h + 2), .ref (h + 9), .int fr])
/-- where the rows of a number lie -/
def zhr (h i : Nat) : Nat := h + 16 + 7 * i
def zHB (G : zG) (σ : zH) (g h : Nat) (ip : Bool) (fr : Int32) : Prop := σ h = some (zHC g h ip fr) ∧ σ (h + 1) = some (zR G 14 (fun i => if i < 14 then some (zhr h i) else none)) ∧ zRows G σ (h + 2) 0 [] [] ∧ (∃ R E, zRows G σ (h + 9) 300 R E) ∧ ∀ i, i < 14 → ∃ R E, zRows G σ (zhr h i) 300 R E
set_option maxRecDepth 100000 in
theorem c_X3_of {G : zG} {σ : zH} {nx g h i : Nat} {ip : Bool} {fr : Int32} (hh : zHB G σ g h ip fr) (hi : i < 14) : zM G yX3_of kX3_of [.ref h, .int (nI i)] σ nx (fun v σ' nx' => v = some (.ref (zhr h i)) ∧ σ' = σ ∧ nx' = nx) := by
  refine zM.of (ls := [some (.ref h), some (.int (nI i))]) (by decide +kernel) ⟨rfl, rfl, rfl⟩ (Nat.le_of_ble_eq_true rfl) (fun _ h => h) ?_
  obtain ⟨h1, h2, -⟩ := hh
  refine z_iload_n dX3_of_0 rfl ?_
  refine z_if_lt (tgt := 22) dX3_of_1 (by decide) (fun q => absurd q (nI_pos (show i < 2 ^ 31 by omega))) (fun _ => ?_)
  refine z_iload_n dX3_of_4 rfl ?_
  refine z_aload_n dX3_of_5 rfl ?_
  refine z_getf dX3_of_6 fl_X3_11 h1 rfl ?_
  refine z_alen (t0 := 3) dX3_of_9 h2 rfl rfl ?_
  refine z_icmp_ge (tgt := 22) dX3_of_10 (by decide) (fun q => absurd q ((show ¬ nI 14 ≤ nI i from nI_ge hi (by omega)))) (fun _ => ?_)
  refine z_aload_n dX3_of_13 rfl ?_
  refine z_getf dX3_of_14 fl_X3_11 h1 rfl ?_
  refine z_iload_n dX3_of_17 rfl ?_
  refine z_raq dX3_of_18 h2 (vp_in_nI hi (by omega)) (by rw [nI_clamp (by omega), if_pos hi]) ?_
  refine z_goto (tgt := 26) dX3_of_19 (by decide) ?_
  exact z_aret dX3_of_26 rfl (Or.inl ⟨_, rfl⟩) (Nat.le_of_ble_eq_true rfl) (Nat.le_of_ble_eq_true rfl) ⟨rfl, rfl, rfl⟩
set_option maxRecDepth 100000 in
theorem c_X3_of_none {G : zG} {σ : zH} {nx g h : Nat} {ip : Bool} {fr : Int32} (hh : zHB G σ g h ip fr) : zM G yX3_of kX3_of [.ref h, .int (-1)] σ nx (fun v σ' nx' => v = some (.ref (h + 2)) ∧ σ' = σ ∧ nx' = nx) := by
  refine zM.of (ls := [some (.ref h), some (.int (-1))]) (by decide +kernel) ⟨rfl, rfl, rfl⟩ (Nat.le_of_ble_eq_true rfl) (fun _ h => h) ?_
  refine z_iload_n dX3_of_0 rfl ?_
  refine z_if_lt (tgt := 22) dX3_of_1 (by decide) (fun _ => ?_) (fun q => absurd ((by decide)) q)
  refine z_aload_n dX3_of_22 rfl ?_
  refine z_getf dX3_of_23 fl_X3_20 hh.1 rfl ?_
  exact z_aret dX3_of_26 rfl (Or.inl ⟨_, rfl⟩) (Nat.le_of_ble_eq_true rfl) (Nat.le_of_ble_eq_true rfl) ⟨rfl, rfl, rfl⟩
/-- the rows of an input: of a number, or of none -/
def zin1 (h : Nat) (x : Int32) : Nat := if x < 0 then h + 2 else zhr h x.toNatClampNeg
theorem c_X3_of' {G : zG} {σ : zH} {nx g h : Nat} {ip : Bool} {fr x : Int32} (hh : zHB G σ g h ip fr) (hx : x = -1 ∨ ∃ i, i < 14 ∧ x = nI i) : zM G yX3_of kX3_of [.ref h, .int x] σ nx (fun v σ' nx' => v = some (.ref (zin1 h x)) ∧ σ' = σ ∧ nx' = nx) := by
  rcases hx with rfl | ⟨i, hi, rfl⟩
  · exact c_X3_of_none hh
  · rw [zin1, if_neg (nI_pos (by omega)), nI_clamp (by omega)]
    exact c_X3_of hh hi
/-- how many partitions a node was told -/
def ztp (ip : Bool) (D : Nat → Int32) : Nat := if ip then 1 else (D 6).toNatClampNeg
/-- what a node holds, by what its inputs hold -/
noncomputable def zcont (ip : Bool) (lim k : Nat) (D : Nat → Int32) (R : zP2) (P S : List zP2) : List zP2 :=
  if k = 0 then zdeal R (ztp ip D) else if k = 1 then P.map (zmapP D) else if k = 2 then P.map (zsifP D) else if k = 3 then zuni ip P S else if k = 4 then zrng (ztp ip D) (zpart (ztp ip D) (zgrp D P.flatten))
  else if ip = false ∧ S.flatten.length ≤ lim then P.map (zfmP S.flatten) else zrng (ztp ip D) (zjp (ztp ip D) (zsrt P.flatten) S.flatten)
theorem zHB.fr {G : zG} {σ σ' : zH} {g h : Nat} {ip : Bool} {fr : Int32} (hh : zHB G σ g h ip fr) (hf : ∀ b, h ≤ b → b < h + 114 → σ' b = σ b) : zHB G σ' g h ip fr := by
  obtain ⟨h1, h2, h3, ⟨R, E, h4⟩, h5⟩ := hh
  refine ⟨(hf h (by omega) (by omega)).trans h1, (hf _ (by omega) (by omega)).trans h2, h3.fr fun b a c => hf b (by omega) (by omega), ⟨R, E, h4.fr fun b a c => hf b (by omega) (by omega)⟩, fun i hi => ?_⟩
  obtain ⟨R, E, h6⟩ := h5 i hi
  exact ⟨R, E, h6.fr fun b a c => hf b (by unfold zhr at a; omega) (by unfold zhr at c; omega)⟩
/-- after the rows of a number were written -/
theorem zHB.wr {G : zG} {σ σ' : zH} {g h j : Nat} {ip : Bool} {fr : Int32} {R : zP2} {E : List Nat} (hh : zHB G σ g h ip fr) (hj : j < 14) (ht : zRows G σ' (zhr h j) 300 R E) (hf : zFr σ σ' (zhr h j) 7) : zHB G σ' g h ip fr := by
  obtain ⟨h1, h2, h3, ⟨R1, E1, h4⟩, h5⟩ := hh
  unfold zhr at *
  refine ⟨(hf h (by omega)).trans h1, (hf _ (by omega)).trans h2, h3.fr fun b a c => hf b (by omega), ⟨R1, E1, h4.fr fun b a c => hf b (by omega)⟩, fun i hi => ?_⟩
  by_cases e : i = j
  · subst e; exact ⟨R, E, ht⟩
  · obtain ⟨R2, E2, h6⟩ := h5 i hi
    exact ⟨R2, E2, h6.fr fun b a c => hf b (by omega)⟩
theorem zHB.by {G : zG} {σ σ' : zH} {g h : Nat} {ip : Bool} {fr : Int32} {R : zP2} {E : List Nat} (hh : zHB G σ g h ip fr) (ht : zRows G σ' (h + 9) 300 R E) (hf : zFr σ σ' (h + 9) 7) : zHB G σ' g h ip fr := by
  obtain ⟨h1, h2, h3, ⟨R1, E1, h4⟩, h5⟩ := hh
  refine ⟨(hf h (by omega)).trans h1, (hf _ (by omega)).trans h2, h3.fr fun b a c => hf b (by omega), ⟨R, E, ht⟩, fun i hi => ?_⟩
  obtain ⟨R2, E2, h6⟩ := h5 i hi
  exact ⟨R2, E2, h6.fr fun b a c => hf b (by unfold zhr at *; omega)⟩
/-- what fill may change: the rows of the number, and those by keys -/
def zFf2 (σ σ' : zH) (h j : Nat) : Prop := ∀ b, (b < h + 9 ∨ (h + 16 ≤ b ∧ b < zhr h j) ∨ zhr h j + 7 ≤ b) → σ' b = σ b
set_option maxRecDepth 100000 in
set_option maxHeartbeats 4000000 in
theorem c_X3_fill {G : zG} {σ : zH} {nx g h n k j lim : Nat} {v1 v2 : Value} {ip : Bool} {fr : Int32} {D : Nat → Int32} {R : zP2} {P S : List zP2} (hG : zKap G) (hh : zHB G σ g h ip fr) (hg : σ g = some (.inr (3, [v1, v2, .int (nI lim)]))) (hn : zNode G σ n k D R) (hk : k < 6) (hj : j < 14) (hgh : g < h ∨ h + 114 ≤ g) (hnh : n + 8 ≤ h ∨ h + 114 ≤ n) (hlim : lim ≤ 1000)
    (h1 : D 1 = -1 ∨ ∃ i, i < 14 ∧ D 1 = nI i) (h2 : D 2 = -1 ∨ ∃ i, i < 14 ∧ D 2 = nI i) (hP : 1 ≤ k → ∃ i, i < 14 ∧ i ≠ j ∧ D 1 = nI i ∧ zHas G σ (zhr h i) P) (hS : k = 3 ∨ k = 5 → ∃ i, i < 14 ∧ i ≠ j ∧ D 2 = nI i ∧ zHas G σ (zhr h i) S)
    (hp : k = 0 ∨ k = 4 ∨ k = 5 → ∃ p, 0 < p ∧ p ≤ 8 ∧ D 6 = nI p) (hc : k = 1 → D 7 = 3 → 0 < D 8) (hcap : (zcont ip lim k D R P S).flatten.length ≤ 300) (hw : (zcont ip lim k D R P S).length ≤ 8) (hR : k = 0 → R.length ≤ 12) (hu : k = 3 → P.length + S.length ≤ 8 ∧ P.flatten.length + S.flatten.length ≤ 300) :
    zM G yX3_fill kX3_fill [.ref h, .ref n, .ref (zhr h j)] σ nx (fun v σ' nx' => v = none ∧ zHas G σ' (zhr h j) (zcont ip lim k D R P S) ∧ zHB G σ' g h ip fr ∧ zFf2 σ σ' h j ∧ nx' = nx) := by
  refine zM.of2 (ls := [some (.ref h), some (.ref n), some (.ref (zhr h j)), none, none, none]) (by decide +kernel) ⟨rfl, rfl, rfl⟩ (Nat.le_of_ble_eq_true rfl) (fun _ h => h) (fun Q hQ => ?_)
  obtain ⟨Rj, Ej, hto⟩ := hh.2.2.2.2 j hj
  have jb : h + 16 ≤ zhr h j ∧ zhr h j + 7 ≤ h + 114 := by unfold zhr; omega
  have pv : k = 0 ∨ k = 4 ∨ k = 5 → (if ip then (1 : Int32) else D 6) = nI (ztp ip D) ∧ 0 < ztp ip D ∧ ztp ip D ≤ 8 := by
    intro q
    obtain ⟨p, p1, p2, p3⟩ := hp q
    cases ip with
    | true => exact ⟨rfl, Nat.one_pos, (by show 1 ≤ 8; omega)⟩
    | false => exact ⟨by simp only [ztp, Bool.false_eq_true, if_false, p3]; rw [nI_clamp (by omega)], by simp only [ztp, Bool.false_eq_true, if_false, p3]; rw [nI_clamp (by omega)]; exact p1, by simp only [ztp, Bool.false_eq_true, if_false, p3]; rw [nI_clamp (by omega)]; exact p2⟩
  have inp0 : 1 ≤ k → zHas G σ (zin1 h (D 1)) P ∧ zAp (zin1 h (D 1)) (zhr h j) ∧ zAp (zin1 h (D 1)) (h + 9) := by
    intro q
    obtain ⟨i, i1, i2, i3, i4⟩ := hP q
    have e : zin1 h (D 1) = zhr h i := by rw [zin1, i3, if_neg (nI_pos (by omega)), nI_clamp (by omega)]
    rw [e]
    have a : zAp (zhr h i) (zhr h j) := by unfold zAp zhr; omega
    exact ⟨i4, a, by unfold zAp zhr; omega⟩
  have ins0 : k = 3 ∨ k = 5 → zHas G σ (zin1 h (D 2)) S ∧ zAp (zin1 h (D 2)) (zhr h j) ∧ zAp (zin1 h (D 2)) (h + 9) := by
    intro q
    obtain ⟨i, i1, i2, i3, i4⟩ := hS q
    have e : zin1 h (D 2) = zhr h i := by rw [zin1, i3, if_neg (nI_pos (by omega)), nI_clamp (by omega)]
    rw [e]
    have a : zAp (zhr h i) (zhr h j) := by unfold zAp zhr; omega
    exact ⟨i4, a, by unfold zAp zhr; omega⟩
  clear hp hP hS
  refine z_aload_n dX3_fill_0 rfl ?_
  refine z_aload_n dX3_fill_1 rfl ?_
  refine z_getf dX3_fill_2 fl_X3_85 hn.1 rfl ?_
  refine z_callV dX3_fill_5 cv_X3_58 (c_X3_of' hh h1) rfl hh.1 rfl rfl ⟨(Nat.le_of_ble_eq_true rfl), (Nat.le_of_ble_eq_true rfl)⟩ (Nat.le_of_ble_eq_true rfl) (Nat.le_of_ble_eq_true rfl) (Nat.le_of_ble_eq_true rfl) (fun v σ1 nx1 hx1 hq1 => ?_)
  obtain ⟨rfl, rfl, rfl⟩ := hq1
  refine z_astore_n dX3_fill_8 (by decide) ?_
  refine z_aload_n dX3_fill_9 rfl ?_
  refine z_aload_n dX3_fill_10 rfl ?_
  refine z_getf dX3_fill_11 fl_X3_75 hn.1 rfl ?_
  refine z_callV dX3_fill_14 cv_X3_58 (c_X3_of' hh h2) rfl hh.1 rfl rfl ⟨(Nat.le_of_ble_eq_true rfl), (Nat.le_of_ble_eq_true rfl)⟩ (Nat.le_of_ble_eq_true rfl) (Nat.le_of_ble_eq_true rfl) (Nat.le_of_ble_eq_true rfl) (fun v σ1 nx1 hx1 hq1 => ?_)
  obtain ⟨rfl, rfl, rfl⟩ := hq1
  refine z_astore dX3_fill_17 (by decide) ?_
  refine z_aload_n dX3_fill_19 rfl ?_
  refine z_getf dX3_fill_20 fl_X3_31 hh.1 rfl ?_
  clear h1 h2
  have rest : ∀ x5 : Option Value, zWP G kX3_fill (zFM G kX3_fill.2.2.2.1 Q) 36 [some (.ref h), some (.ref n), some (.ref (zhr h j)), some (.ref (zin1 h (D 1))), some (.ref (zin1 h (D 2))), some (.int (if ip then (1 : Int32) else D 6))] [] σ1 nx1 0 0 := by
    intro _
    refine z_aload_n dX3_fill_36 rfl ?_
    refine z_callV dX3_fill_37 cv_X3_91 (c_X9_clear hto) rfl hto.c rfl rfl ⟨(Nat.le_of_ble_eq_true rfl), (Nat.le_of_ble_eq_true rfl)⟩ (Nat.le_of_ble_eq_true rfl) (Nat.le_of_ble_eq_true rfl) (Nat.le_of_ble_eq_true rfl) (fun v σ2 nx2 hx2 hq2 => ?_)
    obtain ⟨rfl, t2, f2, rfl⟩ := hq2
    have hh2 : zHB G σ2 g h ip fr := hh.wr hj t2 f2
    have hn2 : zNode G σ2 n k D R := hn.fr fun b a c => f2 b (by omega)
    have hg2 : σ2 g = some (.inr (3, [v1, v2, .int (nI lim)])) := (f2 g (by omega)).trans hg
    have apn : n + 8 ≤ zhr h j ∨ zhr h j + 7 ≤ n := by omega
    have aph : h < zhr h j ∨ zhr h j + 7 ≤ h := by omega
    have apb : zAp (h + 9) (zhr h j) := Or.inl (by omega)
    have fin : ∀ (σ3 : zH), zHas G σ3 (zhr h j) (zcont ip lim k D R P S) → zHB G σ3 g h ip fr → zFf2 σ2 σ3 h j → ∀ ls : zL, zWP G kX3_fill (zFM G kX3_fill.2.2.2.1 Q) 198 ls [] σ3 nx2 0 0 := by
      intro σ3 a1 a2 a3 ls
      exact z_vret dX3_fill_198 rfl (Nat.le_of_ble_eq_true rfl) (Nat.le_of_ble_eq_true rfl) (hQ _ _ _ ⟨rfl, a1, a2, fun b hb => (a3 b hb).trans (f2 b (by omega)), rfl⟩)
    have ff : ∀ σ3, zFr σ2 σ3 (zhr h j) 7 → zFf2 σ2 σ3 h j := fun σ3 q b hb => q b (by omega)
    have KK : ∀ a b : Nat, a < 6 → b < 6 → a ≠ b → ¬ G.2.2 a = G.2.2 b := fun a b qa qb qn e => qn (hG a b qa qb e)
    have inp : 1 ≤ k → zHas G σ2 (zin1 h (D 1)) P ∧ zAp (zin1 h (D 1)) (zhr h j) ∧ zAp (zin1 h (D 1)) (h + 9) := fun q => ⟨(inp0 q).1.ap f2 (inp0 q).2.1, (inp0 q).2⟩
    have ins : k = 3 ∨ k = 5 → zHas G σ2 (zin1 h (D 2)) S ∧ zAp (zin1 h (D 2)) (zhr h j) ∧ zAp (zin1 h (D 2)) (h + 9) := fun q => ⟨(ins0 q).1.ap f2 (ins0 q).2.1, (ins0 q).2⟩
    refine z_aload_n dX3_fill_40 rfl ?_
    refine z_getf dX3_fill_41 fl_X3_66 hn2.1 rfl ?_
    refine z_kind dX3_fill_44 (by decide) fs_X3_94 ?_
    rcases (show k = 0 ∨ k = 1 ∨ k = 2 ∨ k = 3 ∨ k = 4 ∨ k = 5 by omega) with rfl | rfl | rfl | rfl | rfl | rfl
    · obtain ⟨p1, p2, p3⟩ := pv (Or.inl rfl)
      rw [p1]
      refine z_racmp_ne (tgt := 64) dX3_fill_47 (by decide) (fun q => absurd (rfl) q) (fun _ => ?_)
      refine z_aload_n dX3_fill_50 rfl ?_
      refine z_aload_n dX3_fill_51 rfl ?_
      refine z_getf dX3_fill_52 fl_X3_97 hn2.1 rfl ?_
      refine z_iload dX3_fill_55 rfl ?_
      refine z_aload_n dX3_fill_57 rfl ?_
      have tr : zRows G σ2 (n + 1) 12 R [] := hn2.2
      refine z_callV dX3_fill_58 cv_X3_100 (c_X3_deal tr t2 (by unfold zAp; omega) p2 p3) rfl hh2.1 rfl rfl ⟨(Nat.le_of_ble_eq_true rfl), (Nat.le_of_ble_eq_true rfl)⟩ (Nat.le_of_ble_eq_true rfl) (Nat.le_of_ble_eq_true rfl) (Nat.le_of_ble_eq_true rfl) (fun v σ3 nx3 hx3 hq3 => ?_)
      obtain ⟨rfl, t3, f3, rfl⟩ := hq3
      refine z_goto (tgt := 198) dX3_fill_61 (by decide) ?_
      exact fin σ3 t3 (hh2.wr hj t3 f3) (ff σ3 f3) _
    · obtain ⟨i1, i2, i3⟩ := inp (by omega)
      refine z_racmp_ne (tgt := 64) dX3_fill_47 (by decide) (fun _ => ?_) (fun q => absurd q ((KK 1 0 (by omega) (by omega) (by omega))))
      refine z_aload_n dX3_fill_64 rfl ?_
      refine z_getf dX3_fill_65 fl_X3_66 hn2.1 rfl ?_
      refine z_kind dX3_fill_68 (by decide) fs_X3_104 ?_
      refine z_racmp_ne (tgt := 84) dX3_fill_71 (by decide) (fun q => absurd (rfl) q) (fun _ => ?_)
      refine z_aload_n dX3_fill_74 rfl ?_
      refine z_aload_n dX3_fill_75 rfl ?_
      refine z_aload_n dX3_fill_76 rfl ?_
      refine z_aload_n dX3_fill_77 rfl ?_
      refine z_callV dX3_fill_78 cv_X3_107 (c_X3_change i1 hn2 (hc rfl) t2 i2 apn) rfl hh2.1 rfl rfl ⟨(Nat.le_of_ble_eq_true rfl), (Nat.le_of_ble_eq_true rfl)⟩ (Nat.le_of_ble_eq_true rfl) (Nat.le_of_ble_eq_true rfl) (Nat.le_of_ble_eq_true rfl) (fun v σ3 nx3 hx3 hq3 => ?_)
      obtain ⟨rfl, t3, f3, rfl⟩ := hq3
      refine z_goto (tgt := 198) dX3_fill_81 (by decide) ?_
      exact fin σ3 t3 (hh2.wr hj t3 f3) (ff σ3 f3) _
    · obtain ⟨i1, i2, i3⟩ := inp (by omega)
      refine z_racmp_ne (tgt := 64) dX3_fill_47 (by decide) (fun _ => ?_) (fun q => absurd q ((KK 2 0 (by omega) (by omega) (by omega))))
      refine z_aload_n dX3_fill_64 rfl ?_
      refine z_getf dX3_fill_65 fl_X3_66 hn2.1 rfl ?_
      refine z_kind dX3_fill_68 (by decide) fs_X3_104 ?_
      refine z_racmp_ne (tgt := 84) dX3_fill_71 (by decide) (fun _ => ?_) (fun q => absurd q ((KK 2 1 (by omega) (by omega) (by omega))))
      refine z_aload_n dX3_fill_84 rfl ?_
      refine z_getf dX3_fill_85 fl_X3_66 hn2.1 rfl ?_
      refine z_kind dX3_fill_88 (by decide) fs_X3_111 ?_
      refine z_racmp_ne (tgt := 104) dX3_fill_91 (by decide) (fun q => absurd (rfl) q) (fun _ => ?_)
      refine z_aload_n dX3_fill_94 rfl ?_
      refine z_aload_n dX3_fill_95 rfl ?_
      refine z_aload_n dX3_fill_96 rfl ?_
      refine z_aload_n dX3_fill_97 rfl ?_
      refine z_callV dX3_fill_98 cv_X3_114 (c_X3_sift i1 hn2 t2 i2 apn) rfl hh2.1 rfl rfl ⟨(Nat.le_of_ble_eq_true rfl), (Nat.le_of_ble_eq_true rfl)⟩ (Nat.le_of_ble_eq_true rfl) (Nat.le_of_ble_eq_true rfl) (Nat.le_of_ble_eq_true rfl) (fun v σ3 nx3 hx3 hq3 => ?_)
      obtain ⟨rfl, t3, f3, rfl⟩ := hq3
      refine z_goto (tgt := 198) dX3_fill_101 (by decide) ?_
      exact fin σ3 t3 (hh2.wr hj t3 f3) (ff σ3 f3) _
    · obtain ⟨i1, i2, i3⟩ := inp (by omega)
      obtain ⟨s1, s2, s3⟩ := ins (Or.inl rfl)
      obtain ⟨u1, u2⟩ := hu rfl
      refine z_racmp_ne (tgt := 64) dX3_fill_47 (by decide) (fun _ => ?_) (fun q => absurd q ((KK 3 0 (by omega) (by omega) (by omega))))
      refine z_aload_n dX3_fill_64 rfl ?_
      refine z_getf dX3_fill_65 fl_X3_66 hn2.1 rfl ?_
      refine z_kind dX3_fill_68 (by decide) fs_X3_104 ?_
      refine z_racmp_ne (tgt := 84) dX3_fill_71 (by decide) (fun _ => ?_) (fun q => absurd q ((KK 3 1 (by omega) (by omega) (by omega))))
      refine z_aload_n dX3_fill_84 rfl ?_
      refine z_getf dX3_fill_85 fl_X3_66 hn2.1 rfl ?_
      refine z_kind dX3_fill_88 (by decide) fs_X3_111 ?_
      refine z_racmp_ne (tgt := 104) dX3_fill_91 (by decide) (fun _ => ?_) (fun q => absurd q ((KK 3 2 (by omega) (by omega) (by omega))))
      refine z_aload_n dX3_fill_104 rfl ?_
      refine z_getf dX3_fill_105 fl_X3_66 hn2.1 rfl ?_
      refine z_kind dX3_fill_108 (by decide) fs_X3_117 ?_
      refine z_racmp_ne (tgt := 125) dX3_fill_111 (by decide) (fun q => absurd (rfl) q) (fun _ => ?_)
      refine z_aload_n dX3_fill_114 rfl ?_
      refine z_aload_n dX3_fill_115 rfl ?_
      refine z_aload dX3_fill_116 rfl ?_
      refine z_aload_n dX3_fill_118 rfl ?_
      refine z_callV dX3_fill_119 cv_X3_120 (c_X3_unite hh2.1 i1 s1 t2 i2 s2 aph u2 u1) rfl hh2.1 rfl rfl ⟨(Nat.le_of_ble_eq_true rfl), (Nat.le_of_ble_eq_true rfl)⟩ (Nat.le_of_ble_eq_true rfl) (Nat.le_of_ble_eq_true rfl) (Nat.le_of_ble_eq_true rfl) (fun v σ3 nx3 hx3 hq3 => ?_)
      obtain ⟨rfl, t3, f3, rfl⟩ := hq3
      refine z_goto (tgt := 198) dX3_fill_122 (by decide) ?_
      exact fin σ3 t3 (hh2.wr hj t3 f3) (ff σ3 f3) _
    · obtain ⟨i1, i2, i3⟩ := inp (by omega)
      obtain ⟨p1, p2, p3⟩ := pv (Or.inr (Or.inl rfl))
      rw [p1]
      obtain ⟨Rb, Eb, hb⟩ := hh2.2.2.2.1
      refine z_racmp_ne (tgt := 64) dX3_fill_47 (by decide) (fun _ => ?_) (fun q => absurd q ((KK 4 0 (by omega) (by omega) (by omega))))
      refine z_aload_n dX3_fill_64 rfl ?_
      refine z_getf dX3_fill_65 fl_X3_66 hn2.1 rfl ?_
      refine z_kind dX3_fill_68 (by decide) fs_X3_104 ?_
      refine z_racmp_ne (tgt := 84) dX3_fill_71 (by decide) (fun _ => ?_) (fun q => absurd q ((KK 4 1 (by omega) (by omega) (by omega))))
      refine z_aload_n dX3_fill_84 rfl ?_
      refine z_getf dX3_fill_85 fl_X3_66 hn2.1 rfl ?_
      refine z_kind dX3_fill_88 (by decide) fs_X3_111 ?_
      refine z_racmp_ne (tgt := 104) dX3_fill_91 (by decide) (fun _ => ?_) (fun q => absurd q ((KK 4 2 (by omega) (by omega) (by omega))))
      refine z_aload_n dX3_fill_104 rfl ?_
      refine z_getf dX3_fill_105 fl_X3_66 hn2.1 rfl ?_
      refine z_kind dX3_fill_108 (by decide) fs_X3_117 ?_
      refine z_racmp_ne (tgt := 125) dX3_fill_111 (by decide) (fun _ => ?_) (fun q => absurd q ((KK 4 3 (by omega) (by omega) (by omega))))
      refine z_aload_n dX3_fill_125 rfl ?_
      refine z_getf dX3_fill_126 fl_X3_66 hn2.1 rfl ?_
      refine z_kind dX3_fill_129 (by decide) fs_X3_124 ?_
      refine z_racmp_ne (tgt := 151) dX3_fill_132 (by decide) (fun q => absurd (rfl) q) (fun _ => ?_)
      refine z_aload_n dX3_fill_135 rfl ?_
      refine z_aload_n dX3_fill_136 rfl ?_
      refine z_aload_n dX3_fill_137 rfl ?_
      refine z_callV dX3_fill_138 cv_X3_127 (c_X3_groupByKey hh2.1 i1 hn2 hb i3 (by omega) (by omega)) rfl hh2.1 rfl rfl ⟨(Nat.le_of_ble_eq_true rfl), (Nat.le_of_ble_eq_true rfl)⟩ (Nat.le_of_ble_eq_true rfl) (Nat.le_of_ble_eq_true rfl) (Nat.le_of_ble_eq_true rfl) (fun v σ3 nx3 hx3 hq3 => ?_)
      obtain ⟨rfl, t3, f3, rfl⟩ := hq3
      have hh3 := hh2.by t3 f3
      have t4 : zRows G σ3 (zhr h j) 300 [] [] := t2.ap f3 (by unfold zAp; omega)
      refine z_aload_n dX3_fill_141 rfl ?_
      refine z_iload dX3_fill_142 rfl ?_
      refine z_aload_n dX3_fill_144 rfl ?_
      refine z_callV dX3_fill_145 cv_X3_131 (c_X3_dealByKey hh3.1 t3 t4 apb aph p2 p3 hcap) rfl hh3.1 rfl rfl ⟨(Nat.le_of_ble_eq_true rfl), (Nat.le_of_ble_eq_true rfl)⟩ (Nat.le_of_ble_eq_true rfl) (Nat.le_of_ble_eq_true rfl) (Nat.le_of_ble_eq_true rfl) (fun v σ4 nx4 hx4 hq4 => ?_)
      obtain ⟨rfl, t5, f5, rfl⟩ := hq4
      refine z_goto (tgt := 198) dX3_fill_148 (by decide) ?_
      exact fin σ4 t5 (hh3.wr hj t5 f5) (fun b hb => (f5 b (by omega)).trans (f3 b (by omega))) _
    · obtain ⟨i1, i2, i3⟩ := inp (by omega)
      obtain ⟨s1, s2, s3⟩ := ins (Or.inr rfl)
      obtain ⟨p1, p2, p3⟩ := pv (Or.inr (Or.inr rfl))
      rw [p1]
      obtain ⟨Rb, Eb, hb⟩ := hh2.2.2.2.1
      have hSl := s1.len
      have keyed : ¬ (ip = false ∧ S.flatten.length ≤ lim) → zWP G kX3_fill (zFM G kX3_fill.2.2.2.1 Q) 184 [some (.ref h), some (.ref n), some (.ref (zhr h j)), some (.ref (zin1 h (D 1))), some (.ref (zin1 h (D 2))), some (.int (nI (ztp ip D)))] [] σ2 nx2 0 0 := by
        intro hno
        have ec : zcont ip lim 5 D R P S = zrng (ztp ip D) (zjp (ztp ip D) (zsrt P.flatten) S.flatten) := by unfold zcont; rw [if_neg (by decide), if_neg (by decide), if_neg (by decide), if_neg (by decide), if_neg (by decide), if_neg hno]
        refine z_aload_n dX3_fill_184 rfl ?_
        refine z_aload_n dX3_fill_185 rfl ?_
        refine z_callV dX3_fill_186 cv_X3_138 (c_X3_sortByKey hh2.1 i1 hb i3 (by omega)) rfl hh2.1 rfl rfl ⟨(Nat.le_of_ble_eq_true rfl), (Nat.le_of_ble_eq_true rfl)⟩ (Nat.le_of_ble_eq_true rfl) (Nat.le_of_ble_eq_true rfl) (Nat.le_of_ble_eq_true rfl) (fun v σ3 nx3 hx3 hq3 => ?_)
        obtain ⟨rfl, t3, f3, rfl⟩ := hq3
        have hh3 := hh2.by t3 f3
        have t4 : zRows G σ3 (zhr h j) 300 [] [] := t2.ap f3 (by unfold zAp; omega)
        have s4 : zHas G σ3 (zin1 h (D 2)) S := s1.ap f3 s3
        refine z_aload_n dX3_fill_189 rfl ?_
        refine z_aload dX3_fill_190 rfl ?_
        refine z_iload dX3_fill_192 rfl ?_
        refine z_aload_n dX3_fill_194 rfl ?_
        refine z_callV dX3_fill_195 cv_X3_142 (c_X3_joinByKey hh3.1 t3 s4 t4 apb s2 aph p2 p3 (by rw [← ec]; exact hcap)) rfl hh3.1 rfl rfl ⟨(Nat.le_of_ble_eq_true rfl), (Nat.le_of_ble_eq_true rfl)⟩ (Nat.le_of_ble_eq_true rfl) (Nat.le_of_ble_eq_true rfl) (Nat.le_of_ble_eq_true rfl) (fun v σ4 nx4 hx4 hq4 => ?_)
        obtain ⟨rfl, t5, f5, rfl⟩ := hq4
        exact fin σ4 (by rw [ec]; exact t5) (hh3.wr hj t5 f5) (fun b hb => (f5 b (by omega)).trans (f3 b (by omega))) _
      refine z_racmp_ne (tgt := 64) dX3_fill_47 (by decide) (fun _ => ?_) (fun q => absurd q ((KK 5 0 (by omega) (by omega) (by omega))))
      refine z_aload_n dX3_fill_64 rfl ?_
      refine z_getf dX3_fill_65 fl_X3_66 hn2.1 rfl ?_
      refine z_kind dX3_fill_68 (by decide) fs_X3_104 ?_
      refine z_racmp_ne (tgt := 84) dX3_fill_71 (by decide) (fun _ => ?_) (fun q => absurd q ((KK 5 1 (by omega) (by omega) (by omega))))
      refine z_aload_n dX3_fill_84 rfl ?_
      refine z_getf dX3_fill_85 fl_X3_66 hn2.1 rfl ?_
      refine z_kind dX3_fill_88 (by decide) fs_X3_111 ?_
      refine z_racmp_ne (tgt := 104) dX3_fill_91 (by decide) (fun _ => ?_) (fun q => absurd q ((KK 5 2 (by omega) (by omega) (by omega))))
      refine z_aload_n dX3_fill_104 rfl ?_
      refine z_getf dX3_fill_105 fl_X3_66 hn2.1 rfl ?_
      refine z_kind dX3_fill_108 (by decide) fs_X3_117 ?_
      refine z_racmp_ne (tgt := 125) dX3_fill_111 (by decide) (fun _ => ?_) (fun q => absurd q ((KK 5 3 (by omega) (by omega) (by omega))))
      refine z_aload_n dX3_fill_125 rfl ?_
      refine z_getf dX3_fill_126 fl_X3_66 hn2.1 rfl ?_
      refine z_kind dX3_fill_129 (by decide) fs_X3_124 ?_
      refine z_racmp_ne (tgt := 151) dX3_fill_132 (by decide) (fun _ => ?_) (fun q => absurd q ((KK 5 4 (by omega) (by omega) (by omega))))
      refine z_aload_n dX3_fill_151 rfl ?_
      refine z_getf dX3_fill_152 fl_X3_31 hh2.1 rfl ?_
      cases ip with
      | true =>
        refine z_if_ne (tgt := 184) dX3_fill_155 (by decide) (fun _ => ?_) (fun q => absurd q ((show ¬ (if true = true then (1 : Int32) else 0) = 0 from by decide)))
        exact keyed (by simp)
      | false =>
        refine z_if_ne (tgt := 184) dX3_fill_155 (by decide) (fun q => absurd ((by decide)) q) (fun _ => ?_)
        refine z_aload dX3_fill_158 rfl ?_
        refine z_callV dX3_fill_160 cv_X3_78 (c_X9_size s1) rfl s1.c rfl rfl ⟨(Nat.le_of_ble_eq_true rfl), (Nat.le_of_ble_eq_true rfl)⟩ (Nat.le_of_ble_eq_true rfl) (Nat.le_of_ble_eq_true rfl) (Nat.le_of_ble_eq_true rfl) (fun v σ3 nx3 hx3 hq3 => ?_)
        obtain ⟨rfl, rfl, rfl⟩ := hq3
        refine z_aload_n dX3_fill_163 rfl ?_
        refine z_getf dX3_fill_164 fl_X3_27 hh2.1 rfl ?_
        refine z_getf dX3_fill_167 fl_X3_82 hg2 rfl ?_
        refine z_icmp_gt (tgt := 184) dX3_fill_170 (by decide) (fun h170 => ?_) (fun h170 => ?_)
        · exact keyed (fun q => absurd (nI_le q.2 (by omega)) (Int32.not_le.mpr h170))
        · have hle : S.flatten.length ≤ lim := (nI_leI (by omega) (by omega)).mp (Int32.not_lt.mp h170)
          have ec : zcont false lim 5 D R P S = P.map (zfmP S.flatten) := by unfold zcont; rw [if_neg (by decide), if_neg (by decide), if_neg (by decide), if_neg (by decide), if_neg (by decide), if_pos ⟨rfl, hle⟩]
          refine z_aload_n dX3_fill_173 rfl ?_
          refine z_aload_n dX3_fill_174 rfl ?_
          refine z_aload dX3_fill_175 rfl ?_
          refine z_aload_n dX3_fill_177 rfl ?_
          refine z_callV dX3_fill_178 cv_X3_135 (c_X3_joinInOrder hh2.1 i1 s1 t2 i2 s2 aph (by rw [← ec]; exact hcap)) rfl hh2.1 rfl rfl ⟨(Nat.le_of_ble_eq_true rfl), (Nat.le_of_ble_eq_true rfl)⟩ (Nat.le_of_ble_eq_true rfl) (Nat.le_of_ble_eq_true rfl) (Nat.le_of_ble_eq_true rfl) (fun v σ4 nx4 hx4 hq4 => ?_)
          obtain ⟨rfl, t5, f5, rfl⟩ := hq4
          refine z_goto (tgt := 198) dX3_fill_181 (by decide) ?_
          exact fin σ4 (by rw [ec]; exact t5) (hh2.wr hj t5 f5) (ff σ4 f5) _
  cases ip with
  | true =>
    refine z_if_eq (tgt := 30) dX3_fill_23 (by decide) (fun q => absurd q ((show ¬ (if true = true then (1 : Int32) else 0) = 0 from by decide))) (fun _ => ?_)
    refine z_iconst (v := 1) dX3_fill_26 (by decide) ?_
    refine z_goto (tgt := 34) dX3_fill_27 (by decide) ?_
    refine z_istore dX3_fill_34 (by decide) ?_
    exact rest none
  | false =>
    refine z_if_eq (tgt := 30) dX3_fill_23 (by decide) (fun _ => ?_) (fun q => absurd ((by decide)) q)
    refine z_aload_n dX3_fill_30 rfl ?_
    refine z_getf dX3_fill_31 fl_X3_88 hn.1 rfl ?_
    refine z_istore dX3_fill_34 (by decide) ?_
    exact rest none
