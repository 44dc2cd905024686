/-! Taskgraphic: union -/
def zbaduni (f g : zNX) : Prop := 300 < f.2.2.1 3 + g.2.2.1 3 ∨ 8 < f.2.2.1 4 + g.2.2.1 4
section
variable {G : zG} {σ σ' : zH} {b hi lim mem wk r tk sp cs : Nat} {nt : zNT} {slow : Nat → Nat} {L : zNS} {A : List zAE}
set_option maxRecDepth 100000 in
set_option maxHeartbeats 1000000 in
theorem c_union {nx : Nat} {x y : Int32} (hG : zKap G) (hw : zWf nt) (hnx : hi ≤ nx) (h : zTG G σ b hi nt lim mem wk slow r L A tk sp cs) : zMX G yX11_union kX11_union [.ref b, .int x, .int y] σ nx (fun v σ' nx' => v = some (.int (nI nt.length)) ∧ nt.length < 14 ∧ (∃ (i j : Nat) (f g e : zNX), x = nI i ∧ nt[i]? = some f ∧ y = nI j ∧ nt[j]? = some g ∧ ¬ zbaduni f g ∧ e.2.1 = 3 ∧ e.2.2.1 = upd (zD0 x y (f.2.2.1 3 + g.2.2.1 3) (f.2.2.1 4 + g.2.2.1 4)) 12 (zLW nt b x y) ∧ e.2.2.2 = [] ∧ zTG G σ' b hi (nt ++ [e]) lim mem wk slow r L A tk sp cs) ∧ ∀ y, y < hi → (y < b ∨ b + 74 ≤ y) → σ' y = σ y) (fun E σ' nx' => σ' = σ ∧ (E = zEI ∧ ((x < 0 ∨ nI nt.length ≤ x) ∨ (∃ i, i < nt.length ∧ x = nI i) ∧ (y < 0 ∨ nI nt.length ≤ y)) ∨ ∃ (i j : Nat) (f g : zNX), x = nI i ∧ nt[i]? = some f ∧ y = nI j ∧ nt[j]? = some g ∧ E = zES ∧ (nt.length = 14 ∨ zbaduni f g))) := by
  refine zMX.of (ls := [some (.ref b), some (.int x), some (.int y), none, none, none, none]) (by decide +kernel) ⟨rfl, rfl, rfl⟩ (Nat.le_of_ble_eq_true rfl) (fun _ h => h) ?_
  have hgr := h.gr
  have h14 := hgr.2.2.2.2.2.1
  have hb := h.2.2.2.2.2.2.2.2
  refine z_aload_n dX11_union_0 rfl ?_
  refine z_iload_n dX11_union_1 rfl ?_
  refine z_callVX dX11_union_2 cv_X11_96 (c_X11_checkNode h.1 hgr) rfl h.1 rfl rfl ⟨(Nat.le_of_ble_eq_true rfl), (Nat.le_of_ble_eq_true rfl)⟩ (Nat.le_of_ble_eq_true rfl) (Nat.le_of_ble_eq_true rfl) (Nat.le_of_ble_eq_true rfl) rfl (fun E σ' nx' _ q => ⟨q.2.1, Or.inl ⟨q.1, Or.inl q.2.2⟩⟩) (fun v σ1 nx1 hx1 hq1 => ?_)
  obtain ⟨rfl, rfl, rfl, i, hil, rfl⟩ := hq1
  have hg : nt[i]? = some (nt[i]'hil) := List.getElem?_eq_getElem _
  generalize nt[i]'hil = f at hg
  refine z_aload_n dX11_union_5 rfl ?_
  refine z_iload_n dX11_union_6 rfl ?_
  refine z_callVX dX11_union_7 cv_X11_96 (c_X11_checkNode h.1 hgr) rfl h.1 rfl rfl ⟨(Nat.le_of_ble_eq_true rfl), (Nat.le_of_ble_eq_true rfl)⟩ (Nat.le_of_ble_eq_true rfl) (Nat.le_of_ble_eq_true rfl) (Nat.le_of_ble_eq_true rfl) rfl (fun E σ' nx' _ q => ⟨q.2.1, Or.inl ⟨q.1, Or.inr ⟨⟨i, hil, rfl⟩, q.2.2⟩⟩⟩) (fun v σ2 nx2 hx2 hq2 => ?_)
  obtain ⟨rfl, rfl, rfl, j, hjl, rfl⟩ := hq2
  have hgj : nt[j]? = some (nt[j]'hjl) := List.getElem?_eq_getElem _
  generalize nt[j]'hjl = g at hgj
  refine z_aload_n dX11_union_10 rfl ?_
  refine z_callVX dX11_union_11 cv_X11_75 (c_X11_checkAnotherNode h.1 hgr) rfl h.1 rfl rfl ⟨(Nat.le_of_ble_eq_true rfl), (Nat.le_of_ble_eq_true rfl)⟩ (Nat.le_of_ble_eq_true rfl) (Nat.le_of_ble_eq_true rfl) (Nat.le_of_ble_eq_true rfl) rfl (fun E σ' nx' _ q => ⟨q.2.1, Or.inr ⟨i, j, f, g, rfl, hg, rfl, hgj, q.1, Or.inl q.2.2⟩⟩) (fun v σ3 nx3 hx3 hq3 => ?_)
  obtain ⟨rfl, rfl, rfl, hlen⟩ := hq3
  obtain ⟨hnf, -⟩ := hgr.2.2.2.1 i f hg
  obtain ⟨hng, -⟩ := hgr.2.2.2.1 j g hgj
  refine z_dom (fun hdom => ?_)
  have low := h.below hdom
  refine z_aload_n dX11_union_14 rfl ?_
  refine z_getf dX11_union_15 fl_X11_16 h.1 rfl ?_
  refine z_iload_n dX11_union_18 rfl ?_
  refine z_callV dX11_union_19 cv_X11_99 (c_X2_at hgr) rfl hgr.1 rfl rfl ⟨(Nat.le_of_ble_eq_true rfl), (Nat.le_of_ble_eq_true rfl)⟩ (Nat.le_of_ble_eq_true rfl) (Nat.le_of_ble_eq_true rfl) (Nat.le_of_ble_eq_true rfl) (fun v σ4 nx4 hx4 hq4 => ?_)
  obtain ⟨rfl, rfl, rfl⟩ := hq4
  rw [znat_in hg h14]
  refine z_astore_n dX11_union_22 (by decide) ?_
  refine z_aload_n dX11_union_23 rfl ?_
  refine z_getf dX11_union_24 fl_X11_16 h.1 rfl ?_
  refine z_iload_n dX11_union_27 rfl ?_
  refine z_callV dX11_union_28 cv_X11_99 (c_X2_at hgr) rfl hgr.1 rfl rfl ⟨(Nat.le_of_ble_eq_true rfl), (Nat.le_of_ble_eq_true rfl)⟩ (Nat.le_of_ble_eq_true rfl) (Nat.le_of_ble_eq_true rfl) (Nat.le_of_ble_eq_true rfl) (fun v σ5 nx5 hx5 hq5 => ?_)
  obtain ⟨rfl, rfl, rfl⟩ := hq5
  rw [znat_in hgj h14]
  refine z_astore dX11_union_31 (by decide) ?_
  refine z_aload_n dX11_union_33 rfl ?_
  refine z_getf dX11_union_34 fl_X11_159 hnf.1 rfl ?_
  refine z_aload dX11_union_37 rfl ?_
  refine z_getf dX11_union_39 fl_X11_159 hng.1 rfl ?_
  refine z_iadd dX11_union_42 ?_
  refine z_istore dX11_union_43 (by decide) ?_
  refine z_aload_n dX11_union_45 rfl ?_
  refine z_getf dX11_union_46 fl_X11_162 hnf.1 rfl ?_
  refine z_aload dX11_union_49 rfl ?_
  refine z_getf dX11_union_51 fl_X11_162 hng.1 rfl ?_
  refine z_iadd dX11_union_54 ?_
  refine z_istore dX11_union_55 (by decide) ?_
  refine z_iload dX11_union_57 rfl ?_
  refine z_sipush (v := 300) dX11_union_59 (by decide) ?_
  by_cases c1 : (300 : Int32) < f.2.2.1 3 + g.2.2.1 3
  · refine z_icmp_gt (tgt := 72) dX11_union_62 (by decide) (fun _ => ?_) (fun q => absurd (c1) q)
    refine z_throw dX11_union_72 dX11_union_75 dX11_union_76 dX11_union_78 dX11_union_81 rfl (by decide +kernel) zth_2 (List.mem_of_getElem? (i := 2) rfl) rfl (Nat.le_of_ble_eq_true rfl) (Nat.le_of_ble_eq_true rfl) (Nat.le_of_ble_eq_true rfl) (Nat.le_of_ble_eq_true rfl) (fun nx9 hn9 => ⟨rfl, Or.inr ⟨i, j, f, g, rfl, hg, rfl, hgj, rfl, Or.inr (Or.inl c1)⟩⟩)
  · refine z_icmp_gt (tgt := 72) dX11_union_62 (by decide) (fun q => absurd q (c1)) (fun _ => ?_)
    refine z_iload dX11_union_65 rfl ?_
    refine z_bipush (v := 8) dX11_union_67 (by decide) ?_
    by_cases c2 : (8 : Int32) < f.2.2.1 4 + g.2.2.1 4
    · refine z_icmp_le (tgt := 82) dX11_union_69 (by decide) (fun q => absurd q ((Int32.not_le.mpr c2))) (fun _ => ?_)
      refine z_throw dX11_union_72 dX11_union_75 dX11_union_76 dX11_union_78 dX11_union_81 rfl (by decide +kernel) zth_2 (List.mem_of_getElem? (i := 2) rfl) rfl (Nat.le_of_ble_eq_true rfl) (Nat.le_of_ble_eq_true rfl) (Nat.le_of_ble_eq_true rfl) (Nat.le_of_ble_eq_true rfl) (fun nx9 hn9 => ⟨rfl, Or.inr ⟨i, j, f, g, rfl, hg, rfl, hgj, rfl, Or.inr (Or.inr c2)⟩⟩)
    · have cb : ¬ zbaduni f g := fun w => w.elim c1 c2
      refine z_icmp_le (tgt := 82) dX11_union_69 (by decide) (fun _ => ?_) (fun q => absurd ((Int32.not_lt.mp c2)) q)
      refine z_aload_n dX11_union_82 rfl ?_
      refine z_getf dX11_union_83 fl_X11_16 h.1 rfl ?_
      refine z_new dX11_union_86 nw_X11_78 (Nat.le_of_ble_eq_true rfl) (Nat.le_of_ble_eq_true rfl) ?_
      refine z_dup dX11_union_89 rfl ?_
      refine z_kind dX11_union_90 (by decide) fs_X11_167 ?_
      refine z_iload_n dX11_union_93 rfl ?_
      refine z_iload_n dX11_union_94 rfl ?_
      refine z_iload dX11_union_95 rfl ?_
      refine z_iload dX11_union_97 rfl ?_
      have gr6 : zGr G (zu σ5 nx5 (.inr (7, [.null, .int 0, .int 0, .int 0, .int 0, .null, .null, .null, .int 0, .int 0, .int 0, .int 0, .int 0, .int 0, .int 0]))) (b + 1) hi nt (nI lim) := hgr.fr (fun y a c => zu_ne (by omega)) fun y a ⟨e, he⟩ => zu_ne (by have := hdom y e he; omega)
      obtain ⟨bf1, bf2⟩ := hw.bd hg
      obtain ⟨bg1, bg2⟩ := hw.bd hgj
      have es : f.2.2.1 3 + g.2.2.1 3 = nI (zb f + zb g) := by rw [bf1, bg1, nI_add]
      have hs : zb f + zb g ≤ 300 := by
        rw [es] at c1
        exact (nI_leI (b := 300) (by omega) (by omega)).mp (Int32.not_lt.mp c1)
      refine z_callI dX11_union_99 cv_X11_86 (c_X7_initI (k := 3) hG (by decide) es hs (zu_eq _ _ _)) rfl rfl ⟨(Nat.le_of_ble_eq_true rfl), (Nat.le_of_ble_eq_true rfl)⟩ (Nat.le_of_ble_eq_true rfl) (Nat.le_of_ble_eq_true rfl) (Nat.le_of_ble_eq_true rfl) (fun v σ6 nx6 hx6 hq6 => ?_)
      obtain ⟨rfl, n6, r6, i6, k6, rfl⟩ := hq6
      have k4 : ∀ y, y < nx5 → σ6 y = σ5 y := fun y hy => (k6 y (by omega)).trans (zu_ne (by omega))
      have gr7 : zGr G σ6 (b + 1) hi nt (nI lim) := hgr.fr (fun y a c => k4 y (by omega)) fun y a ⟨e, he⟩ => k4 y (hdom y e he)
      refine z_callV dX11_union_102 cv_X11_92 (c_X2_add gr7 n6 hnx low (by omega) hlen) rfl gr7.1 rfl rfl ⟨(Nat.le_of_ble_eq_true rfl), (Nat.le_of_ble_eq_true rfl)⟩ (Nat.le_of_ble_eq_true rfl) (Nat.le_of_ble_eq_true rfl) (Nat.le_of_ble_eq_true rfl) (fun v σ7 nx7 hx7 hq7 => ?_)
      obtain ⟨rfl, gr8, k7⟩ := hq7
      have k : ∀ y, y < hi → y ≠ b + 1 + 1 → σ7 y = σ5 y := fun y a c => (k7 y c (by omega) (by omega) (Or.inr a)).trans (k4 y (by omega))
      refine zX ?_
      exact z_iret dX11_union_105 rfl (Nat.le_of_ble_eq_true rfl) (Nat.le_of_ble_eq_true rfl) ⟨rfl, hlen, ⟨i, j, f, g, _, rfl, hg, rfl, hgj, cb, rfl, rfl, rfl, h.onNew hnx low k4 gr8 es hs r6 i6 k7 (Nat.le_refl _)⟩, fun y a c => k y a (by omega)⟩
end
