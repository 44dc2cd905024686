/-! Taskgraphic: join -/
def zbadjoi (f g : zNX) : Prop := 300 < f.2.2.1 3 * g.2.2.1 3
section
variable {G : zG} {σ σ' : zH} {b hi lim mem wk r tk sp cs : Nat} {nt : zNT} {slow : Nat → Nat} {L : zNS} {A : List zAE}
set_option maxRecDepth 100000 in
set_option maxHeartbeats 1000000 in
theorem c_join {nx : Nat} {x y z : Int32} (hG : zKap G) (hwf : zWf nt) (hnx : hi ≤ nx) (h : zTG G σ b hi nt lim mem wk slow r L A tk sp cs) : zMX G yX11_join kX11_join [.ref b, .int x, .int y, .int z] σ nx (fun v σ' nx' => v = some (.int (nI nt.length)) ∧ nt.length < 14 ∧ (∃ p, 1 ≤ p ∧ p ≤ 4 ∧ z = nI p) ∧ (∃ (i j : Nat) (f g e : zNX), x = nI i ∧ nt[i]? = some f ∧ y = nI j ∧ nt[j]? = some g ∧ ¬ zbadjoi f g ∧ e.2.1 = 5 ∧ e.2.2.1 = upd (upd (zD0 x y (f.2.2.1 3 * g.2.2.1 3) (if z < f.2.2.1 4 then f.2.2.1 4 else z)) 6 z) 12 (zLW nt b x y) ∧ e.2.2.2 = [] ∧ zTG G σ' b hi (nt ++ [e]) lim mem wk slow r L A tk sp cs) ∧ ∀ y, y < hi → (y < b ∨ b + 74 ≤ y) → σ' y = σ y) (fun E σ' nx' => σ' = σ ∧ (E = zEI ∧ ((x < 0 ∨ nI nt.length ≤ x) ∨ (∃ i, i < nt.length ∧ x = nI i) ∧ (y < 0 ∨ nI nt.length ≤ y)) ∨ ∃ (i j : Nat) (f g : zNX), x = nI i ∧ nt[i]? = some f ∧ y = nI j ∧ nt[j]? = some g ∧ (E = zEA ∧ (z < 1 ∨ 4 < z) ∨ E = zES ∧ (∃ p, 1 ≤ p ∧ p ≤ 4 ∧ z = nI p) ∧ (nt.length = 14 ∨ zbadjoi f g)))) := by
  refine zMX.of (ls := [some (.ref b), some (.int x), some (.int y), some (.int z), none, none, none]) (by decide +kernel) ⟨rfl, rfl, rfl⟩ (Nat.le_of_ble_eq_true rfl) (fun _ h => h) ?_
  have hgr := h.gr
  have h14 := hgr.2.2.2.2.2.1
  have hb := h.2.2.2.2.2.2.2.2
  refine z_aload_n dX11_join_0 rfl ?_
  refine z_iload_n dX11_join_1 rfl ?_
  refine z_callVX dX11_join_2 cv_X11_96 (c_X11_checkNode h.1 hgr) rfl h.1 rfl rfl ⟨(Nat.le_of_ble_eq_true rfl), (Nat.le_of_ble_eq_true rfl)⟩ (Nat.le_of_ble_eq_true rfl) (Nat.le_of_ble_eq_true rfl) (Nat.le_of_ble_eq_true rfl) rfl (fun E σ' nx' _ q => ⟨q.2.1, Or.inl ⟨q.1, Or.inl q.2.2⟩⟩) (fun v σ1 nx1 hx1 hq1 => ?_)
  obtain ⟨rfl, rfl, rfl, i, hil, rfl⟩ := hq1
  have hg : nt[i]? = some (nt[i]'hil) := List.getElem?_eq_getElem _
  generalize nt[i]'hil = f at hg
  refine z_aload_n dX11_join_5 rfl ?_
  refine z_iload_n dX11_join_6 rfl ?_
  refine z_callVX dX11_join_7 cv_X11_96 (c_X11_checkNode h.1 hgr) rfl h.1 rfl rfl ⟨(Nat.le_of_ble_eq_true rfl), (Nat.le_of_ble_eq_true rfl)⟩ (Nat.le_of_ble_eq_true rfl) (Nat.le_of_ble_eq_true rfl) (Nat.le_of_ble_eq_true rfl) rfl (fun E σ' nx' _ q => ⟨q.2.1, Or.inl ⟨q.1, Or.inr ⟨⟨i, hil, rfl⟩, q.2.2⟩⟩⟩) (fun v σ2 nx2 hx2 hq2 => ?_)
  obtain ⟨rfl, rfl, rfl, j, hjl, rfl⟩ := hq2
  have hgj : nt[j]? = some (nt[j]'hjl) := List.getElem?_eq_getElem _
  generalize nt[j]'hjl = g at hgj
  refine z_iload_n dX11_join_10 rfl ?_
  refine z_callSX dX11_join_11 cv_X11_71 c_X11_checkToldPartitions rfl rfl ⟨(Nat.le_of_ble_eq_true rfl), (Nat.le_of_ble_eq_true rfl)⟩ (Nat.le_of_ble_eq_true rfl) (Nat.le_of_ble_eq_true rfl) (Nat.le_of_ble_eq_true rfl) rfl w_464 (fun E σ' nx' _ q => ⟨q.2.1, Or.inr ⟨i, j, f, g, rfl, hg, rfl, hgj, Or.inl ⟨q.1, q.2.2⟩⟩⟩) (fun v σ3 nx3 hx3 hq3 => ?_)
  obtain ⟨rfl, rfl, rfl, hp⟩ := hq3
  refine z_aload_n dX11_join_14 rfl ?_
  refine z_callVX dX11_join_15 cv_X11_75 (c_X11_checkAnotherNode h.1 hgr) rfl h.1 rfl rfl ⟨(Nat.le_of_ble_eq_true rfl), (Nat.le_of_ble_eq_true rfl)⟩ (Nat.le_of_ble_eq_true rfl) (Nat.le_of_ble_eq_true rfl) (Nat.le_of_ble_eq_true rfl) rfl (fun E σ' nx' _ q => ⟨q.2.1, Or.inr ⟨i, j, f, g, rfl, hg, rfl, hgj, Or.inr ⟨q.1, hp, Or.inl q.2.2⟩⟩⟩) (fun v σ4 nx4 hx4 hq4 => ?_)
  obtain ⟨rfl, rfl, rfl, hlen⟩ := hq4
  obtain ⟨hnf, -⟩ := hgr.2.2.2.1 i f hg
  obtain ⟨hng, -⟩ := hgr.2.2.2.1 j g hgj
  refine z_dom (fun hdom => ?_)
  have low := h.below hdom
  refine z_aload_n dX11_join_18 rfl ?_
  refine z_getf dX11_join_19 fl_X11_16 h.1 rfl ?_
  refine z_iload_n dX11_join_22 rfl ?_
  refine z_callV dX11_join_23 cv_X11_99 (c_X2_at hgr) rfl hgr.1 rfl rfl ⟨(Nat.le_of_ble_eq_true rfl), (Nat.le_of_ble_eq_true rfl)⟩ (Nat.le_of_ble_eq_true rfl) (Nat.le_of_ble_eq_true rfl) (Nat.le_of_ble_eq_true rfl) (fun v σ5 nx5 hx5 hq5 => ?_)
  obtain ⟨rfl, rfl, rfl⟩ := hq5
  rw [znat_in hg h14]
  refine z_getf dX11_join_26 fl_X11_159 hnf.1 rfl ?_
  refine z_aload_n dX11_join_29 rfl ?_
  refine z_getf dX11_join_30 fl_X11_16 h.1 rfl ?_
  refine z_iload_n dX11_join_33 rfl ?_
  refine z_callV dX11_join_34 cv_X11_99 (c_X2_at hgr) rfl hgr.1 rfl rfl ⟨(Nat.le_of_ble_eq_true rfl), (Nat.le_of_ble_eq_true rfl)⟩ (Nat.le_of_ble_eq_true rfl) (Nat.le_of_ble_eq_true rfl) (Nat.le_of_ble_eq_true rfl) (fun v σ6 nx6 hx6 hq6 => ?_)
  obtain ⟨rfl, rfl, rfl⟩ := hq6
  rw [znat_in hgj h14]
  refine z_getf dX11_join_37 fl_X11_159 hng.1 rfl ?_
  refine z_imul dX11_join_40 ?_
  refine z_istore dX11_join_41 (by decide) ?_
  refine z_iload dX11_join_43 rfl ?_
  refine z_sipush (v := 300) dX11_join_45 (by decide) ?_
  by_cases c1 : (300 : Int32) < f.2.2.1 3 * g.2.2.1 3
  · refine z_icmp_le (tgt := 61) dX11_join_48 (by decide) (fun q => absurd q ((Int32.not_le.mpr c1))) (fun _ => ?_)
    refine z_throw dX11_join_51 dX11_join_54 dX11_join_55 dX11_join_57 dX11_join_60 rfl (by decide +kernel) zth_2 (List.mem_of_getElem? (i := 4) rfl) rfl (Nat.le_of_ble_eq_true rfl) (Nat.le_of_ble_eq_true rfl) (Nat.le_of_ble_eq_true rfl) (Nat.le_of_ble_eq_true rfl) (fun nx9 hn9 => ⟨rfl, Or.inr ⟨i, j, f, g, rfl, hg, rfl, hgj, Or.inr ⟨rfl, hp, Or.inr c1⟩⟩⟩)
  · refine z_icmp_le (tgt := 61) dX11_join_48 (by decide) (fun _ => ?_) (fun q => absurd ((Int32.not_lt.mp c1)) q)
    refine z_iload_n dX11_join_61 rfl ?_
    refine z_aload_n dX11_join_62 rfl ?_
    refine z_getf dX11_join_63 fl_X11_16 h.1 rfl ?_
    refine z_iload_n dX11_join_66 rfl ?_
    refine z_callV dX11_join_67 cv_X11_99 (c_X2_at hgr) rfl hgr.1 rfl rfl ⟨(Nat.le_of_ble_eq_true rfl), (Nat.le_of_ble_eq_true rfl)⟩ (Nat.le_of_ble_eq_true rfl) (Nat.le_of_ble_eq_true rfl) (Nat.le_of_ble_eq_true rfl) (fun v σ7 nx7 hx7 hq7 => ?_)
    obtain ⟨rfl, rfl, rfl⟩ := hq7
    rw [znat_in hg h14]
    refine z_getf dX11_join_70 fl_X11_162 hnf.1 rfl ?_
    refine z_callS dX11_join_73 cv_X11_177 c_max rfl rfl ⟨(Nat.le_of_ble_eq_true rfl), (Nat.le_of_ble_eq_true rfl)⟩ (Nat.le_of_ble_eq_true rfl) (Nat.le_of_ble_eq_true rfl) (Nat.le_of_ble_eq_true rfl) (fun v σ8 nx8 hx8 hq8 => ?_)
    obtain ⟨rfl, rfl, rfl⟩ := hq8
    obtain ⟨bf1, bf2⟩ := hwf.bd hg
    obtain ⟨bg1, bg2⟩ := hwf.bd hgj
    have hpr : zb f * zb g ≤ 90000 := Nat.mul_le_mul bf2 bg2
    have es : f.2.2.1 3 * g.2.2.1 3 = nI (zb f * zb g) := by rw [bf1, bg1, pk_mul]
    have hs : zb f * zb g ≤ 300 := by
      rw [es] at c1
      exact (nI_leI (b := 300) (by omega) (by omega)).mp (Int32.not_lt.mp c1)
    generalize hw : (if z < f.2.2.1 4 then f.2.2.1 4 else z) = w
    generalize hm : f.2.2.1 3 * g.2.2.1 3 = mm
    rw [hm] at es
    refine z_istore dX11_join_76 (by decide) ?_
    refine z_new dX11_join_78 nw_X11_78 (Nat.le_of_ble_eq_true rfl) (Nat.le_of_ble_eq_true rfl) ?_
    refine z_dup dX11_join_81 rfl ?_
    refine z_kind dX11_join_82 (by decide) fs_X11_183 ?_
    refine z_iload_n dX11_join_85 rfl ?_
    refine z_iload_n dX11_join_86 rfl ?_
    refine z_iload dX11_join_87 rfl ?_
    refine z_iload dX11_join_89 rfl ?_
    refine z_callI dX11_join_91 cv_X11_86 (c_X7_initI (k := 5) hG (by decide) es hs (zu_eq _ _ _)) rfl rfl ⟨(Nat.le_of_ble_eq_true rfl), (Nat.le_of_ble_eq_true rfl)⟩ (Nat.le_of_ble_eq_true rfl) (Nat.le_of_ble_eq_true rfl) (Nat.le_of_ble_eq_true rfl) (fun v σ9 nx9 hx9 hq9 => ?_)
    obtain ⟨rfl, n9, r9, i9, k9, rfl⟩ := hq9
    refine z_astore dX11_join_94 (by decide) ?_
    refine z_aload dX11_join_96 rfl ?_
    refine z_iload_n dX11_join_98 rfl ?_
    refine z_putf dX11_join_99 fp_X11_89 n9.1 rfl rfl (Nat.le_of_ble_eq_true rfl) ?_
    obtain ⟨σ4, e4⟩ : ∃ z', z' = zu σ9 nx8 (.inr (7, (zNF G nx8 5 (zD0 (nI i) (nI j) mm w)).set 8 (.int z))) := ⟨_, rfl⟩
    rw [← e4]
    have k4 : ∀ y, y < nx8 → σ4 y = σ8 y := fun y hy => by rw [e4, zu_ne (by omega), k9 y (by omega), zu_ne (by omega)]
    have n4 : zNode G σ4 nx8 5 (upd (zD0 (nI i) (nI j) mm w) 6 z) [] := ⟨by rw [e4]; exact zu_eq _ _ _, n9.2.fr fun y a c => by rw [e4, zu_ne (by omega)]⟩
    have r4 : zRows G σ4 (nx8 + 8) (zb f * zb g) [] [] := r9.fr fun y a c => by rw [e4, zu_ne (by omega)]
    have i4 : zRows G σ4 (nx8 + 15) (zb f * zb g) [] [] := i9.fr fun y a c => by rw [e4, zu_ne (by omega)]
    have gr4 : zGr G σ4 (b + 1) hi nt (nI lim) := hgr.fr (fun y a c => k4 y (by omega)) fun y a ⟨e, he⟩ => k4 y (hdom y e he)
    refine z_aload_n dX11_join_102 rfl ?_
    refine z_getf dX11_join_103 fl_X11_16 ((k4 b (by omega)).trans h.1) rfl ?_
    refine z_aload dX11_join_106 rfl ?_
    refine z_callV dX11_join_108 cv_X11_92 (c_X2_add gr4 n4 hnx low (by omega) hlen) rfl gr4.1 rfl rfl ⟨(Nat.le_of_ble_eq_true rfl), (Nat.le_of_ble_eq_true rfl)⟩ (Nat.le_of_ble_eq_true rfl) (Nat.le_of_ble_eq_true rfl) (Nat.le_of_ble_eq_true rfl) (fun v σ5 nx5 hx5 hq5 => ?_)
    obtain ⟨rfl, gr5, k5⟩ := hq5
    have k : ∀ y, y < hi → y ≠ b + 1 + 1 → σ5 y = σ8 y := fun y a c => (k5 y c (by omega) (by omega) (Or.inr a)).trans (k4 y (by omega))
    refine zX ?_
    exact z_iret dX11_join_111 rfl (Nat.le_of_ble_eq_true rfl) (Nat.le_of_ble_eq_true rfl) ⟨rfl, hlen, hp, ⟨i, j, f, g, _, rfl, hg, rfl, hgj, c1, rfl, by rw [hm, hw]; rfl, rfl, h.onNew hnx low k4 gr5 es hs r4 i4 k5 (Nat.le_refl _)⟩, fun y a c => k y a (by omega)⟩
end
