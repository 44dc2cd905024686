/-! Taskgraphic: group -/
section
variable {G : zG} {σ σ' : zH} {b hi lim mem wk r tk sp cs : Nat} {nt : zNT} {slow : Nat → Nat} {L : zNS} {A : List zAE}
set_option maxRecDepth 100000 in
set_option maxHeartbeats 1000000 in
theorem c_group {nx : Nat} {x y z : Int32} (hG : zKap G) (hw : zWf nt) (hnx : hi ≤ nx) (h : zTG G σ b hi nt lim mem wk slow r L A tk sp cs) : zMX G yX11_group kX11_group [.ref b, .int x, .int y, .int z] σ nx (fun v σ' nx' => v = some (.int (nI nt.length)) ∧ nt.length < 14 ∧ ¬ (y < 0 ∨ 3 < y) ∧ (∃ p, 1 ≤ p ∧ p ≤ 4 ∧ z = nI p) ∧ (∃ (i : Nat) (f e : zNX), x = nI i ∧ nt[i]? = some f ∧ e.2.1 = 4 ∧ e.2.2.1 = upd (upd (upd (zD0 x (-1) (f.2.2.1 3) z) 7 y) 6 z) 12 (zLW nt b x (-1)) ∧ e.2.2.2 = [] ∧ zTG G σ' b hi (nt ++ [e]) lim mem wk slow r L A tk sp cs) ∧ ∀ y, y < hi → (y < b ∨ b + 74 ≤ y) → σ' y = σ y) (fun E σ' nx' => σ' = σ ∧ (E = zEI ∧ (x < 0 ∨ nI nt.length ≤ x) ∨ (∃ i, i < nt.length ∧ x = nI i) ∧ (E = zEA ∧ ((y < 0 ∨ 3 < y) ∨ z < 1 ∨ 4 < z) ∨ E = zES ∧ ¬ (y < 0 ∨ 3 < y) ∧ (∃ p, 1 ≤ p ∧ p ≤ 4 ∧ z = nI p) ∧ nt.length = 14))) := by
  refine zMX.of (ls := [some (.ref b), some (.int x), some (.int y), some (.int z), none]) (by decide +kernel) ⟨rfl, rfl, rfl⟩ (Nat.le_of_ble_eq_true rfl) (fun _ h => h) ?_
  have hgr := h.gr
  have h14 := hgr.2.2.2.2.2.1
  have hb := h.2.2.2.2.2.2.2.2
  refine z_aload_n dX11_group_0 rfl ?_
  refine z_iload_n dX11_group_1 rfl ?_
  refine z_callVX dX11_group_2 cv_X11_96 (c_X11_checkNode h.1 hgr) rfl h.1 rfl rfl ⟨(Nat.le_of_ble_eq_true rfl), (Nat.le_of_ble_eq_true rfl)⟩ (Nat.le_of_ble_eq_true rfl) (Nat.le_of_ble_eq_true rfl) (Nat.le_of_ble_eq_true rfl) rfl (fun E σ' nx' _ q => ⟨q.2.1, Or.inl ⟨q.1, q.2.2⟩⟩) (fun v σ1 nx1 hx1 hq1 => ?_)
  obtain ⟨rfl, rfl, rfl, i, hil, rfl⟩ := hq1
  have hg : nt[i]? = some (nt[i]'hil) := List.getElem?_eq_getElem _
  generalize nt[i]'hil = f at hg
  obtain ⟨hnode, -⟩ := hgr.2.2.2.1 i f hg
  refine z_iload_n dX11_group_5 rfl ?_
  by_cases c1 : y < 0
  · refine z_if_lt (tgt := 14) dX11_group_6 (by decide) (fun _ => ?_) (fun q => absurd (c1) q)
    refine z_throw dX11_group_14 dX11_group_17 dX11_group_18 dX11_group_20 dX11_group_23 rfl (by decide +kernel) zth_1 (List.mem_of_getElem? (i := 3) rfl) rfl (Nat.le_of_ble_eq_true rfl) (Nat.le_of_ble_eq_true rfl) (Nat.le_of_ble_eq_true rfl) (Nat.le_of_ble_eq_true rfl) (fun nx9 hn9 => ⟨rfl, Or.inr ⟨⟨i, hil, rfl⟩, Or.inl ⟨rfl, Or.inl (Or.inl c1)⟩⟩⟩)
  · refine z_if_lt (tgt := 14) dX11_group_6 (by decide) (fun q => absurd q (c1)) (fun _ => ?_)
    refine z_iload_n dX11_group_9 rfl ?_
    refine z_iconst (v := 3) dX11_group_10 (by decide) ?_
    by_cases c2 : (3 : Int32) < y
    · refine z_icmp_le (tgt := 24) dX11_group_11 (by decide) (fun q => absurd q ((Int32.not_le.mpr c2))) (fun _ => ?_)
      refine z_throw dX11_group_14 dX11_group_17 dX11_group_18 dX11_group_20 dX11_group_23 rfl (by decide +kernel) zth_1 (List.mem_of_getElem? (i := 3) rfl) rfl (Nat.le_of_ble_eq_true rfl) (Nat.le_of_ble_eq_true rfl) (Nat.le_of_ble_eq_true rfl) (Nat.le_of_ble_eq_true rfl) (fun nx9 hn9 => ⟨rfl, Or.inr ⟨⟨i, hil, rfl⟩, Or.inl ⟨rfl, Or.inl (Or.inr c2)⟩⟩⟩)
    · have cb : ¬ (y < 0 ∨ 3 < y) := fun w => w.elim c1 c2
      refine z_icmp_le (tgt := 24) dX11_group_11 (by decide) (fun _ => ?_) (fun q => absurd ((Int32.not_lt.mp c2)) q)
      refine z_iload_n dX11_group_24 rfl ?_
      refine z_callSX dX11_group_25 cv_X11_71 c_X11_checkToldPartitions rfl rfl ⟨(Nat.le_of_ble_eq_true rfl), (Nat.le_of_ble_eq_true rfl)⟩ (Nat.le_of_ble_eq_true rfl) (Nat.le_of_ble_eq_true rfl) (Nat.le_of_ble_eq_true rfl) rfl w_464 (fun E σ' nx' _ q => ⟨q.2.1, Or.inr ⟨⟨i, hil, rfl⟩, Or.inl ⟨q.1, Or.inr q.2.2⟩⟩⟩) (fun v σ1 nx1 hx1 hq1 => ?_)
      obtain ⟨rfl, rfl, rfl, hp⟩ := hq1
      refine z_aload_n dX11_group_28 rfl ?_
      refine z_callVX dX11_group_29 cv_X11_75 (c_X11_checkAnotherNode h.1 hgr) rfl h.1 rfl rfl ⟨(Nat.le_of_ble_eq_true rfl), (Nat.le_of_ble_eq_true rfl)⟩ (Nat.le_of_ble_eq_true rfl) (Nat.le_of_ble_eq_true rfl) (Nat.le_of_ble_eq_true rfl) rfl (fun E σ' nx' _ q => ⟨q.2.1, Or.inr ⟨⟨i, hil, rfl⟩, Or.inr ⟨q.1, cb, hp, q.2.2⟩⟩⟩) (fun v σ2 nx2 hx2 hq2 => ?_)
      obtain ⟨rfl, rfl, rfl, hlen⟩ := hq2
      refine z_dom (fun hdom => ?_)
      have low := h.below hdom
      have hl := low i f hg
      have hgr0 : zGr G (zu σ2 nx2 (.inr (7, [.null, .int 0, .int 0, .int 0, .int 0, .null, .null, .null, .int 0, .int 0, .int 0, .int 0, .int 0, .int 0, .int 0]))) (b + 1) hi nt (nI lim) := hgr.fr (fun y a c => zu_ne (by omega)) fun y a ⟨e, he⟩ => zu_ne (by have := hdom y e he; omega)
      refine z_new dX11_group_32 nw_X11_78 (Nat.le_of_ble_eq_true rfl) (Nat.le_of_ble_eq_true rfl) ?_
      refine z_dup dX11_group_35 rfl ?_
      refine z_kind dX11_group_36 (by decide) fs_X11_172 ?_
      refine z_iload_n dX11_group_39 rfl ?_
      refine z_iconst (v := (-1)) dX11_group_40 (by decide) ?_
      refine z_aload_n dX11_group_41 rfl ?_
      refine z_getf dX11_group_42 fl_X11_16 ((zu_ne (by omega)).trans h.1) rfl ?_
      refine z_iload_n dX11_group_45 rfl ?_
      refine z_callV dX11_group_46 cv_X11_99 (c_X2_at hgr0) rfl hgr0.1 rfl rfl ⟨(Nat.le_of_ble_eq_true rfl), (Nat.le_of_ble_eq_true rfl)⟩ (Nat.le_of_ble_eq_true rfl) (Nat.le_of_ble_eq_true rfl) (Nat.le_of_ble_eq_true rfl) (fun v σ3 nx3 hx3 hq3 => ?_)
      obtain ⟨rfl, rfl, rfl⟩ := hq3
      rw [znat_in hg h14]
      refine z_getf dX11_group_49 fl_X11_159 ((zu_ne (by omega)).trans hnode.1) rfl ?_
      refine z_iload_n dX11_group_52 rfl ?_
      refine z_callI dX11_group_53 cv_X11_86 (c_X7_initI (k := 4) hG (by decide) (hw.bd hg).1 (hw.bd hg).2 (zu_eq _ _ _)) rfl rfl ⟨(Nat.le_of_ble_eq_true rfl), (Nat.le_of_ble_eq_true rfl)⟩ (Nat.le_of_ble_eq_true rfl) (Nat.le_of_ble_eq_true rfl) (Nat.le_of_ble_eq_true rfl) (fun v σ3 nx3 hx3 hq3 => ?_)
      obtain ⟨rfl, n3, r3, i3, k3, rfl⟩ := hq3
      refine z_astore dX11_group_56 (by decide) ?_
      refine z_aload dX11_group_58 rfl ?_
      refine z_iload_n dX11_group_60 rfl ?_
      refine z_putf dX11_group_61 fp_X11_144 n3.1 rfl rfl (Nat.le_of_ble_eq_true rfl) ?_
      refine z_aload dX11_group_64 rfl ?_
      refine z_iload_n dX11_group_66 rfl ?_
      refine z_putf dX11_group_67 fp_X11_89 (zu_eq _ _ _) rfl rfl (Nat.le_of_ble_eq_true rfl) ?_
      obtain ⟨σ4, e4⟩ : ∃ z', z' = zu (zu σ3 nx2 (.inr (7, (zNF G nx2 4 (zD0 (nI i) (-1) (f.2.2.1 3) z)).set 9 (.int y)))) nx2 (.inr (7, ((zNF G nx2 4 (zD0 (nI i) (-1) (f.2.2.1 3) z)).set 9 (.int y)).set 8 (.int z))) := ⟨_, rfl⟩
      rw [← e4]
      have k4 : ∀ y, y < nx2 → σ4 y = σ2 y := fun y hy => by rw [e4, zu_ne (by omega), zu_ne (by omega), k3 y (by omega), zu_ne (by omega)]
      have n4 : zNode G σ4 nx2 4 (upd (upd (zD0 (nI i) (-1) (f.2.2.1 3) z) 7 y) 6 z) [] := ⟨by rw [e4]; exact zu_eq _ _ _, n3.2.fr fun y a c => by rw [e4, zu_ne (by omega), zu_ne (by omega)]⟩
      have r4 : zRows G σ4 (nx2 + 8) (zb f) [] [] := r3.fr fun y a c => by rw [e4, zu_ne (by omega), zu_ne (by omega)]
      have i4 : zRows G σ4 (nx2 + 15) (zb f) [] [] := i3.fr fun y a c => by rw [e4, zu_ne (by omega), zu_ne (by omega)]
      have gr4 : zGr G σ4 (b + 1) hi nt (nI lim) := hgr.fr (fun y a c => k4 y (by omega)) fun y a ⟨e, he⟩ => k4 y (hdom y e he)
      refine z_aload_n dX11_group_70 rfl ?_
      refine z_getf dX11_group_71 fl_X11_16 ((k4 b (by omega)).trans h.1) rfl ?_
      refine z_aload dX11_group_74 rfl ?_
      refine z_callV dX11_group_76 cv_X11_92 (c_X2_add gr4 n4 hnx low (by omega) hlen) rfl gr4.1 rfl rfl ⟨(Nat.le_of_ble_eq_true rfl), (Nat.le_of_ble_eq_true rfl)⟩ (Nat.le_of_ble_eq_true rfl) (Nat.le_of_ble_eq_true rfl) (Nat.le_of_ble_eq_true rfl) (fun v σ5 nx5 hx5 hq5 => ?_)
      obtain ⟨rfl, gr5, k5⟩ := hq5
      have k : ∀ y, y < hi → y ≠ b + 1 + 1 → σ5 y = σ2 y := fun y a c => (k5 y c (by omega) (by omega) (Or.inr a)).trans (k4 y (by omega))
      refine zX ?_
      exact z_iret dX11_group_79 rfl (Nat.le_of_ble_eq_true rfl) (Nat.le_of_ble_eq_true rfl) ⟨rfl, hlen, cb, hp, ⟨i, f, _, rfl, hg, rfl, rfl, rfl, h.onNew hnx low k4 gr5 (hw.bd hg).1 (hw.bd hg).2 r4 i4 k5 (Nat.le_refl _)⟩, fun y a c => k y a (by omega)⟩
end
