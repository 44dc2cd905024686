/-! Taskgraphic: mark -/
section
variable {G : zG} {σ σ' : zH} {b hi lim mem wk r tk sp cs : Nat} {nt : zNT} {slow : Nat → Nat} {L : zNS} {A : List zAE}
theorem zGr.apart {g i j : Nat} {e e' : zNX} {l : Int32} (h : zGr G σ g hi nt l) (hi' : nt[i]? = some e) (hj : nt[j]? = some e') (hne : i ≠ j) : e.1 + 22 ≤ e'.1 ∨ e'.1 + 22 ≤ e.1 := by
  rcases Nat.lt_or_gt_of_ne hne with w | w
  · exact Or.inl (h.2.2.2.2.1 i j e e' w hi' hj)
  · exact Or.inr (h.2.2.2.2.1 j i e' e w hj hi')
theorem zset_get {α : Type} {l : List α} {i j : Nat} {x y : α} (h : (l.set i x)[j]? = some y) (hi : i < l.length) : (j = i ∧ y = x) ∨ (j ≠ i ∧ l[j]? = some y) := by
  by_cases e : j = i
  · subst e
    rw [List.getElem?_set_self hi] at h
    exact Or.inl ⟨rfl, (Option.some.inj h).symm⟩
  · rw [List.getElem?_set_ne (fun w => e w.symm)] at h
    exact Or.inr ⟨e, h⟩
/-- one node is another -/
theorem zGr.onNode {g i : Nat} {e e' : zNX} {l : Int32} (h : zGr G σ g hi nt l) (he : nt[i]? = some e) (e1 : e'.1 = e.1) (hn : zNode G σ' e.1 e'.2.1 e'.2.2.1 e'.2.2.2) (hf : ∀ x, (x < e.1 ∨ e.1 + 8 ≤ x) → σ' x = σ x) (hK : zKE G σ σ') : zGr G σ' g hi (nt.set i e') l := by
  have ap := fun (j : Nat) (y : zNX) (hj : nt[j]? = some y) (hne : i ≠ j) => h.apart he hj hne
  obtain ⟨h1, h2, h3, h4, h5, h6, h7⟩ := h
  have hil := zR_lt he
  have hhi := (h4 i e he).2
  have hmap : (nt.set i e').map (fun e => e.1) = nt.map (fun e => e.1) := by
    refine List.ext_getElem? fun j => ?_
    rw [List.getElem?_map, List.getElem?_map]
    by_cases c : j = i
    · subst c
      rw [List.getElem?_set_self hil, he]
      simp [e1]
    · rw [List.getElem?_set_ne (fun w => c w.symm)]
  refine ⟨(hf g (by omega)).trans h1, by rw [hmap]; exact h2.fr (hf (g + 1) (by omega)) hK, h3.fr fun x a c => hf x (by omega), fun j y hj => ?_, fun j k y z hjk hj hk => ?_, by rw [List.length_set]; exact h6, h7⟩
  · rcases zset_get hj hil with ⟨c, rfl⟩ | ⟨c, hj⟩
    · rw [e1]; exact ⟨hn, hhi⟩
    · have := ap j y hj (fun w => c w.symm)
      exact ⟨(h4 j y hj).1.fr fun x a c => hf x (by omega), (h4 j y hj).2⟩
  · rcases zset_get hj hil with ⟨c1, d1⟩ | ⟨c1, hj⟩
    · rcases zset_get hk hil with ⟨c2, d2⟩ | ⟨c2, hk⟩
      · omega
      · rw [d1, e1]; exact h5 j k e z hjk (by rw [c1]; exact he) hk
    · rcases zset_get hk hil with ⟨c2, d2⟩ | ⟨c2, hk⟩
      · rw [d2, e1]; exact h5 j k y e hjk hj (by rw [c2]; exact he)
      · exact h5 j k y z hjk hj hk
theorem zold_set {i : Nat} {e e' : zNX} (he : nt[i]? = some e) (e1 : e'.1 = e.1) (e2 : zb e' = zb e) : ∀ (j : Nat) (y : zNX), nt[j]? = some y → ∃ y', (nt.set i e')[j]? = some y' ∧ y'.1 = y.1 ∧ zb y' = zb y := fun j y hy => by
  by_cases q : j = i
  · subst q
    rw [he] at hy
    cases hy
    exact ⟨e', List.getElem?_set_self (zR_lt he), e1, e2⟩
  · exact ⟨y, by rw [List.getElem?_set_ne (fun w => q w.symm)]; exact hy, rfl, rfl⟩
theorem zNF_mark {n k : Nat} {D : Nat → Int32} {x : Int32} : (zNF G n k D).set 13 (.int x) = zNF G n k (upd D 11 x) := rfl
set_option maxRecDepth 100000 in
theorem c_mark {nx : Nat} {x y : Int32} (hy : y = 0 ∨ y = 1) (h01 : ∀ (i : Nat) (e : zNX), nt[i]? = some e → e.2.2.1 11 = 0 ∨ e.2.2.1 11 = 1) (h : zTG G σ b hi nt lim mem wk slow r L A tk sp cs) : zMX G yX11_mark kX11_mark [.ref b, .int x, .int y] σ nx (fun v σ' nx' => (∃ i, i < nt.length ∧ x = nI i ∧ v = some (.int ((nt.getD i zdf).2.2.1 11)) ∧ zTG G σ' b hi (zmark nt i y) lim mem wk slow r L A tk sp cs) ∧ zFh σ σ' b hi ∧ nx' = nx) (fun E σ' nx' => E = zEI ∧ σ' = σ ∧ (x < 0 ∨ nI nt.length ≤ x)) := by
  refine zMX.of (ls := [some (.ref b), some (.int x), some (.int y), none]) (by decide +kernel) ⟨rfl, rfl, rfl⟩ (Nat.le_of_ble_eq_true rfl) (fun _ h => h) ?_
  have hgr := h.gr
  have h14 := hgr.2.2.2.2.2.1
  refine z_aload_n dX11_mark_0 rfl ?_
  refine z_iload_n dX11_mark_1 rfl ?_
  refine z_callVX dX11_mark_2 cv_X11_96 (c_X11_checkNode h.1 hgr) rfl h.1 rfl rfl ⟨(Nat.le_of_ble_eq_true rfl), (Nat.le_of_ble_eq_true rfl)⟩ (Nat.le_of_ble_eq_true rfl) (Nat.le_of_ble_eq_true rfl) (Nat.le_of_ble_eq_true rfl) rfl (fun E σ' nx' _ q => q) (fun v σ1 nx1 hx1 hq1 => ?_)
  obtain ⟨rfl, rfl, rfl, i, hil, rfl⟩ := hq1
  have hg : nt[i]? = some (nt[i]'hil) := List.getElem?_eq_getElem _
  generalize nt[i]'hil = e at hg
  have eD : nt.getD i zdf = e := by rw [List.getD_eq_getElem?_getD, hg]; rfl
  obtain ⟨hnode, hhi⟩ := hgr.2.2.2.1 i e hg
  refine z_aload_n dX11_mark_5 rfl ?_
  refine z_getf dX11_mark_6 fl_X11_16 h.1 rfl ?_
  refine z_iload_n dX11_mark_9 rfl ?_
  refine z_callV dX11_mark_10 cv_X11_99 (c_X2_at hgr) rfl hgr.1 rfl rfl ⟨(Nat.le_of_ble_eq_true rfl), (Nat.le_of_ble_eq_true rfl)⟩ (Nat.le_of_ble_eq_true rfl) (Nat.le_of_ble_eq_true rfl) (Nat.le_of_ble_eq_true rfl) (fun v σ2 nx2 hx2 hq2 => ?_)
  obtain ⟨rfl, rfl, rfl⟩ := hq2
  rw [znat_in hg h14]
  refine z_getf dX11_mark_13 fl_X11_261 hnode.1 rfl ?_
  refine z_istore_n dX11_mark_16 (by decide) ?_
  refine z_aload_n dX11_mark_17 rfl ?_
  refine z_getf dX11_mark_18 fl_X11_16 h.1 rfl ?_
  refine z_iload_n dX11_mark_21 rfl ?_
  refine z_callV dX11_mark_22 cv_X11_99 (c_X2_at hgr) rfl hgr.1 rfl rfl ⟨(Nat.le_of_ble_eq_true rfl), (Nat.le_of_ble_eq_true rfl)⟩ (Nat.le_of_ble_eq_true rfl) (Nat.le_of_ble_eq_true rfl) (Nat.le_of_ble_eq_true rfl) (fun v σ3 nx3 hx3 hq3 => ?_)
  obtain ⟨rfl, rfl, rfl⟩ := hq3
  rw [znat_in hg h14]
  refine z_iload_n dX11_mark_25 rfl ?_
  have hny : narrow .boolean (.int y) = .int y := by rcases hy with q | q <;> rw [q] <;> rfl
  have hfy : fits .boolean (.int y) = true := by rcases hy with q | q <;> rw [q] <;> rfl
  refine z_putf dX11_mark_26 fp_X11_261 hnode.1 hny hfy (Nat.le_of_ble_eq_true rfl) ?_
  obtain ⟨σ4, e4⟩ : ∃ z, z = zu σ3 e.1 (.inr (7, zNF G e.1 e.2.1 (upd e.2.2.1 11 y))) := ⟨_, rfl⟩
  have e4' : zu σ3 e.1 (.inr (7, (zNF G e.1 e.2.1 e.2.2.1).set 13 (.int y))) = σ4 := e4.symm
  rw [e4']
  have k : ∀ x, x ≠ e.1 → σ4 x = σ3 x := fun x hx => by rw [e4]; exact zu_ne hx
  have hK : zKE G σ3 σ4 := fun z cap f hz => k z fun w => by rw [w, hnode.1] at hz; exact nomatch hz
  have em : zmark nt i y = nt.set i (e.1, e.2.1, upd e.2.2.1 11 y, e.2.2.2) := by unfold zmark; rw [eD]
  have gr4 : zGr G σ4 (b + 1) hi (zmark nt i y) (nI lim) := by
    rw [em]
    exact hgr.onNode hg rfl ⟨by rw [e4]; exact zu_eq _ _ _, hnode.2.fr fun x a c => k x (by omega)⟩ (fun x hx => k x (by omega)) hK
  have hh := h.2.2.2.2.2.2.2.2
  have len : (zmark nt i y).length = nt.length := by rw [em]; exact List.length_set
  have ly := hgr.ly
  have hold : ∀ (a : Nat) (ip : Bool) (f : Int32), a + 8 ≤ hi → zHo G σ3 (b + 1) a ip lim nt f → zHo G σ4 (b + 1) a ip lim (zmark nt i y) f := fun a ip f ha ho => ho.to ((k _ (by omega)).trans ho.1.1) (fun x q1 q2 => k x (by omega)) (fun j z hz x q1 q2 => by
      have := zrr_b ip z.1
      by_cases q : j = i
      · subst q
        rw [hg] at hz
        cases hz
        exact k x (by omega)
      · have := ly.ap q hz hg
        exact k x (by omega)) (by rw [em]; exact zold_set hg rfl rfl) (fun j z hz q => absurd (zR_lt q) (by omega)) (fun j _ q => q) (fun j _ _ _ => by rw [zcon_mark])
  refine z_iload_n dX11_mark_29 rfl ?_
  refine zX ?_
  obtain ⟨h1, ⟨f1, h2⟩, ⟨f2, h3⟩, h4, ⟨t, rf, ⟨u, o, w, q1, q2⟩, h6⟩, h7, h8, ⟨idle, h9⟩, h10⟩ := h
  refine z_zret dX11_mark_30 rfl (by rcases h01 i e hg with q | q <;> rw [q] <;> rfl) (Nat.le_of_ble_eq_true rfl) (Nat.le_of_ble_eq_true rfl) ⟨⟨i, hil, rfl, by rw [eD], (k b (by omega)).trans h1, ⟨f1, gr4, hold _ _ _ (by omega) h2.2.1, by omega, by omega⟩, ⟨f2, gr4, hold _ _ _ (by omega) h3.2.1, by omega, by omega⟩, h4.fr fun x a c => k x (by omega), ⟨t, rf, ⟨u, o, w, (k _ (by omega)).trans q1, q2⟩, h6.fr fun x a c => k x (by omega)⟩, h7.fr fun x a c => k x (by omega), h8.fr fun x a c => k x (by omega), ⟨idle, h9.fr fun x a c => k x (by omega)⟩, h10⟩, fun x hx => k x (by omega), rfl⟩
end
