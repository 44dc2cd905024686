/-! Taskgraphic: source -/
section
variable {G : zG} {σ σ' : zH} {b hi lim mem wk r tk sp cs : Nat} {nt : zNT} {slow : Nat → Nat} {L : zNS} {A : List zAE}
set_option maxRecDepth 100000 in
set_option maxHeartbeats 1000000 in
theorem c_source {nx : Nat} {x : Int32} (hG : zKap G) (hnx : hi ≤ nx) (h : zTG G σ b hi nt lim mem wk slow r L A tk sp cs) : zMX G yX11_source kX11_source [.ref b, .int x] σ nx (fun v σ' nx' => v = some (.int (nI nt.length)) ∧ (∃ p, 1 ≤ p ∧ p ≤ 4 ∧ x = nI p) ∧ nt.length < 14 ∧ (∃ (e : zNX), e.2.1 = 0 ∧ e.2.2.1 = upd (upd (zD0 (-1) (-1) 12 x) 6 x) 12 (zLW nt b (-1) (-1)) ∧ e.2.2.2 = [] ∧ zTG G σ' b hi (nt ++ [e]) lim mem wk slow r L A tk sp cs) ∧ ∀ y, y < hi → (y < b ∨ b + 74 ≤ y) → σ' y = σ y) (fun E σ' nx' => σ' = σ ∧ (E = zEA ∧ (x < 1 ∨ 4 < x) ∨ E = zES ∧ nt.length = 14 ∧ ∃ p, 1 ≤ p ∧ p ≤ 4 ∧ x = nI p)) := by
  refine zMX.of (ls := [some (.ref b), some (.int x), none]) (by decide +kernel) ⟨rfl, rfl, rfl⟩ (Nat.le_of_ble_eq_true rfl) (fun _ h => h) ?_
  have hgr := h.gr
  have hb := h.2.2.2.2.2.2.2.2
  refine z_iload_n dX11_source_0 rfl ?_
  refine z_callSX dX11_source_1 cv_X11_71 c_X11_checkToldPartitions rfl rfl ⟨(Nat.le_of_ble_eq_true rfl), (Nat.le_of_ble_eq_true rfl)⟩ (Nat.le_of_ble_eq_true rfl) (Nat.le_of_ble_eq_true rfl) (Nat.le_of_ble_eq_true rfl) rfl w_464 (fun E σ' nx' _ q => ⟨q.2.1, Or.inl ⟨q.1, q.2.2⟩⟩) (fun v σ1 nx1 hx1 hq1 => ?_)
  obtain ⟨rfl, rfl, rfl, hp⟩ := hq1
  refine z_aload_n dX11_source_4 rfl ?_
  refine z_callVX dX11_source_5 cv_X11_75 (c_X11_checkAnotherNode h.1 hgr) rfl h.1 rfl rfl ⟨(Nat.le_of_ble_eq_true rfl), (Nat.le_of_ble_eq_true rfl)⟩ (Nat.le_of_ble_eq_true rfl) (Nat.le_of_ble_eq_true rfl) (Nat.le_of_ble_eq_true rfl) rfl (fun E σ' nx' _ q => ⟨q.2.1, Or.inr ⟨q.1, q.2.2, hp⟩⟩) (fun v σ2 nx2 hx2 hq2 => ?_)
  obtain ⟨rfl, rfl, rfl, hlen⟩ := hq2
  refine z_dom (fun hdom => ?_)
  have low := h.below hdom
  refine z_new dX11_source_8 nw_X11_78 (Nat.le_of_ble_eq_true rfl) (Nat.le_of_ble_eq_true rfl) ?_
  refine z_dup dX11_source_11 rfl ?_
  refine z_kind dX11_source_12 (by decide) fs_X11_80 ?_
  refine z_iconst (v := (-1)) dX11_source_15 (by decide) ?_
  refine z_iconst (v := (-1)) dX11_source_16 (by decide) ?_
  refine z_bipush (v := 12) dX11_source_17 (by decide) ?_
  refine z_iload_n dX11_source_19 rfl ?_
  refine z_callI dX11_source_20 cv_X11_86 (c_X7_initI (k := 0) (bd := 12) (x3 := 12) hG (by decide) rfl (by decide) (zu_eq _ _ _)) rfl rfl ⟨(Nat.le_of_ble_eq_true rfl), (Nat.le_of_ble_eq_true rfl)⟩ (Nat.le_of_ble_eq_true rfl) (Nat.le_of_ble_eq_true rfl) (Nat.le_of_ble_eq_true rfl) (fun v σ3 nx3 hx3 hq3 => ?_)
  obtain ⟨rfl, n3, r3, i3, k3, rfl⟩ := hq3
  refine z_astore_n dX11_source_23 (by decide) ?_
  refine z_aload_n dX11_source_24 rfl ?_
  refine z_iload_n dX11_source_25 rfl ?_
  refine z_putf dX11_source_26 fp_X11_89 n3.1 rfl rfl (Nat.le_of_ble_eq_true rfl) ?_
  obtain ⟨σ4, e4⟩ : ∃ z, z = zu σ3 nx2 (.inr (7, zNF G nx2 0 (upd (zD0 (-1) (-1) 12 x) 6 x))) := ⟨_, rfl⟩
  have e4' : zu σ3 nx2 (.inr (7, (zNF G nx2 0 (zD0 (-1) (-1) 12 x)).set 8 (.int x))) = σ4 := e4.symm
  rw [e4']
  have k4 : ∀ y, y < nx2 → σ4 y = σ2 y := fun y hy => by rw [e4, zu_ne (by omega), k3 y (by omega), zu_ne (by omega)]
  have n4 : zNode G σ4 nx2 0 (upd (zD0 (-1) (-1) 12 x) 6 x) [] := ⟨by rw [e4]; exact zu_eq _ _ _, n3.2.fr fun y a c => by rw [e4]; exact zu_ne (by omega)⟩
  have r4 : zRows G σ4 (nx2 + 8) 12 [] [] := r3.fr fun y a c => by rw [e4]; exact zu_ne (by omega)
  have i4 : zRows G σ4 (nx2 + 15) 12 [] [] := i3.fr fun y a c => by rw [e4]; exact zu_ne (by omega)
  have gr4 : zGr G σ4 (b + 1) hi nt (nI lim) := hgr.fr (fun y a c => k4 y (by omega)) fun y a ⟨e, he⟩ => k4 y (hdom y e he)
  refine z_aload_n dX11_source_29 rfl ?_
  refine z_getf dX11_source_30 fl_X11_16 ((k4 b (by omega)).trans h.1) rfl ?_
  refine z_aload_n dX11_source_33 rfl ?_
  refine z_callV dX11_source_34 cv_X11_92 (c_X2_add gr4 n4 hnx low (by omega) hlen) rfl gr4.1 rfl rfl ⟨(Nat.le_of_ble_eq_true rfl), (Nat.le_of_ble_eq_true rfl)⟩ (Nat.le_of_ble_eq_true rfl) (Nat.le_of_ble_eq_true rfl) (Nat.le_of_ble_eq_true rfl) (fun v σ5 nx5 hx5 hq5 => ?_)
  obtain ⟨rfl, gr5, k5⟩ := hq5
  have k : ∀ y, y < hi → y ≠ b + 1 + 1 → σ5 y = σ2 y := fun y a c => (k5 y c (by omega) (by omega) (Or.inr a)).trans (k4 y (by omega))
  refine zX ?_
  exact z_iret dX11_source_37 rfl (Nat.le_of_ble_eq_true rfl) (Nat.le_of_ble_eq_true rfl) ⟨rfl, hp, hlen, ⟨_, rfl, rfl, rfl, h.onNew (bd := 12) hnx low k4 gr5 rfl (by decide) r4 i4 k5 (Nat.le_refl _)⟩, fun y a c => k y a (by omega)⟩
end
