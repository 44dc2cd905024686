/-! Taskgraphic: filter -/
section
variable {G : zG} {σ σ' : zH} {b hi lim mem wk r tk sp cs : Nat} {nt : zNT} {slow : Nat → Nat} {L : zNS} {A : List zAE}
set_option maxRecDepth 100000 in
set_option maxHeartbeats 1000000 in
theorem c_filter {nx : Nat} {x y z : Int32} (hG : zKap G) (hw : zWf nt) (hnx : hi ≤ nx) (h : zTG G σ b hi nt lim mem wk slow r L A tk sp cs) : zMX G yX11_filter kX11_filter [.ref b, .int x, .int y, .int z] σ nx (fun v σ' nx' => v = some (.int (nI nt.length)) ∧ nt.length < 14 ∧ (∃ (i : Nat) (f e : zNX), x = nI i ∧ nt[i]? = some f ∧ e.2.1 = 2 ∧ e.2.2.1 = upd (upd (upd (zD0 x (-1) (f.2.2.1 3) (f.2.2.1 4)) 9 y) 10 z) 12 (zLW nt b x (-1)) ∧ e.2.2.2 = [] ∧ zTG G σ' b hi (nt ++ [e]) lim mem wk slow r L A tk sp cs) ∧ ∀ y, y < hi → (y < b ∨ b + 74 ≤ y) → σ' y = σ y) (fun E σ' nx' => σ' = σ ∧ (E = zEI ∧ (x < 0 ∨ nI nt.length ≤ x) ∨ E = zES ∧ nt.length = 14 ∧ ∃ i, i < nt.length ∧ x = nI i)) := by
  refine zMX.of (ls := [some (.ref b), some (.int x), some (.int y), some (.int z), none]) (by decide +kernel) ⟨rfl, rfl, rfl⟩ (Nat.le_of_ble_eq_true rfl) (fun _ h => h) ?_
  have hgr := h.gr
  have hb := h.2.2.2.2.2.2.2.2
  refine z_aload_n dX11_filter_0 rfl ?_
  refine z_iload_n dX11_filter_1 rfl ?_
  refine z_callVX dX11_filter_2 cv_X11_96 (c_X11_checkNode h.1 hgr) rfl h.1 rfl rfl ⟨(Nat.le_of_ble_eq_true rfl), (Nat.le_of_ble_eq_true rfl)⟩ (Nat.le_of_ble_eq_true rfl) (Nat.le_of_ble_eq_true rfl) (Nat.le_of_ble_eq_true rfl) rfl (fun E σ' nx' _ q => ⟨q.2.1, Or.inl ⟨q.1, q.2.2⟩⟩) (fun v σ1 nx1 hx1 hq1 => ?_)
  obtain ⟨rfl, rfl, rfl, i, hil, rfl⟩ := hq1
  have hg : nt[i]? = some (nt[i]'hil) := List.getElem?_eq_getElem _
  generalize nt[i]'hil = f at hg
  refine z_aload_n dX11_filter_5 rfl ?_
  refine z_callVX dX11_filter_6 cv_X11_75 (c_X11_checkAnotherNode h.1 hgr) rfl h.1 rfl rfl ⟨(Nat.le_of_ble_eq_true rfl), (Nat.le_of_ble_eq_true rfl)⟩ (Nat.le_of_ble_eq_true rfl) (Nat.le_of_ble_eq_true rfl) (Nat.le_of_ble_eq_true rfl) rfl (fun E σ' nx' _ q => ⟨q.2.1, Or.inr ⟨q.1, q.2.2, i, hil, rfl⟩⟩) (fun v σ2 nx2 hx2 hq2 => ?_)
  obtain ⟨rfl, rfl, rfl, hlen⟩ := hq2
  refine z_aload_n dX11_filter_9 rfl ?_
  refine z_kind dX11_filter_10 (by decide) fs_X11_150 ?_
  refine z_iload_n dX11_filter_13 rfl ?_
  refine z_callV dX11_filter_14 cv_X11_140 (c_changeOf (k := 2) hG (by decide) hg (hw.bd hg) h) rfl h.1 rfl rfl ⟨(Nat.le_of_ble_eq_true rfl), (Nat.le_of_ble_eq_true rfl)⟩ (Nat.le_of_ble_eq_true rfl) (Nat.le_of_ble_eq_true rfl) (Nat.le_of_ble_eq_true rfl) (fun v σ3 nx3 hx3 hq3 => ?_)
  obtain ⟨rfl, n3, ⟨r3, i3⟩, k3, rfl, low, hdom⟩ := hq3
  refine z_astore dX11_filter_17 (by decide) ?_
  refine z_aload dX11_filter_19 rfl ?_
  refine z_iload_n dX11_filter_21 rfl ?_
  refine z_putf dX11_filter_22 fp_X11_153 n3.1 rfl rfl (Nat.le_of_ble_eq_true rfl) ?_
  refine z_aload dX11_filter_25 rfl ?_
  refine z_iload_n dX11_filter_27 rfl ?_
  refine z_putf dX11_filter_28 fp_X11_156 (zu_eq _ _ _) rfl rfl (Nat.le_of_ble_eq_true rfl) ?_
  obtain ⟨σ4, e4⟩ : ∃ z', z' = zu (zu σ3 nx2 (.inr (7, (zNF G nx2 2 (zD0 (nI i) (-1) (f.2.2.1 3) (f.2.2.1 4))).set 11 (.int y)))) nx2 (.inr (7, ((zNF G nx2 2 (zD0 (nI i) (-1) (f.2.2.1 3) (f.2.2.1 4))).set 11 (.int y)).set 12 (.int z))) := ⟨_, rfl⟩
  rw [← e4]
  have k4 : ∀ y, y < nx2 → σ4 y = σ2 y := fun y hy => by rw [e4, zu_ne (by omega), zu_ne (by omega), k3 y (by omega)]
  have n4 : zNode G σ4 nx2 2 (upd (upd (zD0 (nI i) (-1) (f.2.2.1 3) (f.2.2.1 4)) 9 y) 10 z) [] := ⟨by rw [e4]; exact zu_eq _ _ _, n3.2.fr fun y a c => by rw [e4, zu_ne (by omega), zu_ne (by omega)]⟩
  have r4 : zRows G σ4 (nx2 + 8) (zb f) [] [] := r3.fr fun y a c => by rw [e4, zu_ne (by omega), zu_ne (by omega)]
  have i4 : zRows G σ4 (nx2 + 15) (zb f) [] [] := i3.fr fun y a c => by rw [e4, zu_ne (by omega), zu_ne (by omega)]
  have gr4 : zGr G σ4 (b + 1) hi nt (nI lim) := hgr.fr (fun y a c => k4 y (by omega)) fun y a ⟨e, he⟩ => k4 y (hdom y e he)
  refine z_aload_n dX11_filter_31 rfl ?_
  refine z_getf dX11_filter_32 fl_X11_16 ((k4 b (by omega)).trans h.1) rfl ?_
  refine z_aload dX11_filter_35 rfl ?_
  refine z_callV dX11_filter_37 cv_X11_92 (c_X2_add gr4 n4 hnx low (by omega) hlen) rfl gr4.1 rfl rfl ⟨(Nat.le_of_ble_eq_true rfl), (Nat.le_of_ble_eq_true rfl)⟩ (Nat.le_of_ble_eq_true rfl) (Nat.le_of_ble_eq_true rfl) (Nat.le_of_ble_eq_true rfl) (fun v σ5 nx5 hx5 hq5 => ?_)
  obtain ⟨rfl, gr5, k5⟩ := hq5
  have k : ∀ y, y < hi → y ≠ b + 1 + 1 → σ5 y = σ2 y := fun y a c => (k5 y c (by omega) (by omega) (Or.inr a)).trans (k4 y (by omega))
  refine zX ?_
  exact z_iret dX11_filter_40 rfl (Nat.le_of_ble_eq_true rfl) (Nat.le_of_ble_eq_true rfl) ⟨rfl, hlen, ⟨i, f, _, rfl, hg, rfl, rfl, rfl, h.onNew hnx low k4 gr5 (hw.bd hg).1 (hw.bd hg).2 r4 i4 k5 (Nat.le_refl _)⟩, fun y a c => k y a (by omega)⟩
end
