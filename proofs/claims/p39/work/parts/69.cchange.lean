/-! Taskgraphic: changeOf, filter -/
section
variable {G : zG} {σ σ' : zH} {b hi lim mem wk r tk sp cs : Nat} {nt : zNT} {slow : Nat → Nat} {L : zNS} {A : List zAE}
set_option maxRecDepth 100000 in
set_option maxHeartbeats 1000000 in
theorem c_changeOf {nx k i : Nat} {e : zNX} (hG : zKap G) (hk : k < 6) (hg : nt[i]? = some e) (hbd : e.2.2.1 3 = nI (zb e) ∧ zb e ≤ 300) (h : zTG G σ b hi nt lim mem wk slow r L A tk sp cs) : zM G yX11_changeOf kX11_changeOf [.ref b, .ref (G.2.2 k), .int (nI i)] σ nx (fun v σ' nx' => v = some (.ref nx) ∧ zNode G σ' nx k (zD0 (nI i) (-1) (e.2.2.1 3) (e.2.2.1 4)) [] ∧ (zRows G σ' (nx + 8) (zb e) [] [] ∧ zRows G σ' (nx + 15) (zb e) [] []) ∧ (∀ y, y < nx → σ' y = σ y) ∧ nx' = nx + 22 ∧ (∀ (j : Nat) (y : zNX), nt[j]? = some y → y.1 + 22 ≤ nx) ∧ ∀ a y, σ a = some y → a < nx) := by
  refine zM.of (ls := [some (.ref b), some (.ref (G.2.2 k)), some (.int (nI i)), none]) (by decide +kernel) ⟨rfl, rfl, rfl⟩ (Nat.le_of_ble_eq_true rfl) (fun _ h => h) ?_
  have hgr := h.gr
  have h14 := hgr.2.2.2.2.2.1
  obtain ⟨hnode, -⟩ := hgr.2.2.2.1 i e hg
  refine z_dom (fun hdom => ?_)
  have low := h.below hdom
  have hl := low i e hg
  refine z_aload_n dX11_changeOf_0 rfl ?_
  refine z_getf dX11_changeOf_1 fl_X11_16 h.1 rfl ?_
  refine z_iload_n dX11_changeOf_4 rfl ?_
  refine z_callV dX11_changeOf_5 cv_X11_99 (c_X2_at hgr) rfl hgr.1 rfl rfl ⟨(Nat.le_of_ble_eq_true rfl), (Nat.le_of_ble_eq_true rfl)⟩ (Nat.le_of_ble_eq_true rfl) (Nat.le_of_ble_eq_true rfl) (Nat.le_of_ble_eq_true rfl) (fun v σ2 nx2 hx2 hq2 => ?_)
  obtain ⟨rfl, rfl, rfl⟩ := hq2
  rw [znat_in hg h14]
  refine z_astore_n dX11_changeOf_8 (by decide) ?_
  refine z_new dX11_changeOf_9 nw_X11_78 (Nat.le_of_ble_eq_true rfl) (Nat.le_of_ble_eq_true rfl) ?_
  refine z_dup dX11_changeOf_12 rfl ?_
  refine z_aload_n dX11_changeOf_13 rfl ?_
  refine z_iload_n dX11_changeOf_14 rfl ?_
  refine z_iconst (v := (-1)) dX11_changeOf_15 (by decide) ?_
  refine z_aload_n dX11_changeOf_16 rfl ?_
  refine z_getf dX11_changeOf_17 fl_X11_159 ((zu_ne (by omega)).trans hnode.1) rfl ?_
  refine z_aload_n dX11_changeOf_20 rfl ?_
  refine z_getf dX11_changeOf_21 fl_X11_162 ((zu_ne (by omega)).trans hnode.1) rfl ?_
  refine z_callI dX11_changeOf_24 cv_X11_86 (c_X7_initI (k := k) hG hk hbd.1 hbd.2 (zu_eq _ _ _)) rfl rfl ⟨(Nat.le_of_ble_eq_true rfl), (Nat.le_of_ble_eq_true rfl)⟩ (Nat.le_of_ble_eq_true rfl) (Nat.le_of_ble_eq_true rfl) (Nat.le_of_ble_eq_true rfl) (fun v σ3 nx3 hx3 hq3 => ?_)
  obtain ⟨rfl, n3, r3, i3, k3, rfl⟩ := hq3
  exact z_aret dX11_changeOf_27 rfl (Or.inl ⟨_, rfl⟩) (Nat.le_of_ble_eq_true rfl) (Nat.le_of_ble_eq_true rfl) ⟨rfl, n3, ⟨r3, i3⟩, fun y hy => (k3 y (by omega)).trans (zu_ne (by omega)), rfl, low, hdom⟩
end
