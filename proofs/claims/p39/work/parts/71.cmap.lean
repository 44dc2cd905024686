/-! Taskgraphic: map -/
def zbadmap (y z : Int32) : Prop := y < 0 ∨ 4 < y ∨ (y = 3 ∧ z < 1)
section
variable {G : zG} {σ σ' : zH} {b hi lim mem wk r tk sp cs : Nat} {nt : zNT} {slow : Nat → Nat} {L : zNS} {A : List zAE}
set_option maxRecDepth 100000 in
set_option maxHeartbeats 1000000 in
theorem c_map {nx : Nat} {x y z : Int32} (hG : zKap G) (hw : zWf nt) (hnx : hi ≤ nx) (h : zTG G σ b hi nt lim mem wk slow r L A tk sp cs) : zMX G yX11_map kX11_map [.ref b, .int x, .int y, .int z] σ nx (fun v σ' nx' => v = some (.int (nI nt.length)) ∧ nt.length < 14 ∧ ¬ zbadmap y z ∧ (∃ (i : Nat) (f e : zNX), x = nI i ∧ nt[i]? = some f ∧ e.2.1 = 1 ∧ e.2.2.1 = upd (upd (upd (zD0 x (-1) (f.2.2.1 3) (f.2.2.1 4)) 7 y) 8 z) 12 (zLW nt b x (-1)) ∧ e.2.2.2 = [] ∧ zTG G σ' b hi (nt ++ [e]) lim mem wk slow r L A tk sp cs) ∧ ∀ y, y < hi → (y < b ∨ b + 74 ≤ y) → σ' y = σ y) (fun E σ' nx' => σ' = σ ∧ (E = zEI ∧ (x < 0 ∨ nI nt.length ≤ x) ∨ (∃ i, i < nt.length ∧ x = nI i) ∧ (E = zEA ∧ zbadmap y z ∨ E = zES ∧ ¬ zbadmap y z ∧ nt.length = 14))) := by
  refine zMX.of (ls := [some (.ref b), some (.int x), some (.int y), some (.int z), none]) (by decide +kernel) ⟨rfl, rfl, rfl⟩ (Nat.le_of_ble_eq_true rfl) (fun _ h => h) ?_
  have hgr := h.gr
  have hb := h.2.2.2.2.2.2.2.2
  refine z_aload_n dX11_map_0 rfl ?_
  refine z_iload_n dX11_map_1 rfl ?_
  refine z_callVX dX11_map_2 cv_X11_96 (c_X11_checkNode h.1 hgr) rfl h.1 rfl rfl ⟨(Nat.le_of_ble_eq_true rfl), (Nat.le_of_ble_eq_true rfl)⟩ (Nat.le_of_ble_eq_true rfl) (Nat.le_of_ble_eq_true rfl) (Nat.le_of_ble_eq_true rfl) rfl (fun E σ' nx' _ q => ⟨q.2.1, Or.inl ⟨q.1, q.2.2⟩⟩) (fun v σ1 nx1 hx1 hq1 => ?_)
  obtain ⟨rfl, rfl, rfl, i, hil, rfl⟩ := hq1
  have hg : nt[i]? = some (nt[i]'hil) := List.getElem?_eq_getElem _
  generalize nt[i]'hil = f at hg
  refine z_iload_n dX11_map_5 rfl ?_
  by_cases c1 : y < 0
  · refine z_if_lt (tgt := 24) dX11_map_6 (by decide) (fun _ => ?_) (fun q => absurd (c1) q)
    refine z_throw dX11_map_24 dX11_map_27 dX11_map_28 dX11_map_30 dX11_map_33 rfl (by decide +kernel) zth_1 (List.mem_of_getElem? (i := 1) rfl) rfl (Nat.le_of_ble_eq_true rfl) (Nat.le_of_ble_eq_true rfl) (Nat.le_of_ble_eq_true rfl) (Nat.le_of_ble_eq_true rfl) (fun nx9 hn9 => ⟨rfl, Or.inr ⟨⟨i, hil, rfl⟩, Or.inl ⟨rfl, Or.inl c1⟩⟩⟩)
  · refine z_if_lt (tgt := 24) dX11_map_6 (by decide) (fun q => absurd q (c1)) (fun _ => ?_)
    refine z_iload_n dX11_map_9 rfl ?_
    refine z_iconst (v := 4) dX11_map_10 (by decide) ?_
    by_cases c2 : (4 : Int32) < y
    · refine z_icmp_gt (tgt := 24) dX11_map_11 (by decide) (fun _ => ?_) (fun q => absurd (c2) q)
      refine z_throw dX11_map_24 dX11_map_27 dX11_map_28 dX11_map_30 dX11_map_33 rfl (by decide +kernel) zth_1 (List.mem_of_getElem? (i := 1) rfl) rfl (Nat.le_of_ble_eq_true rfl) (Nat.le_of_ble_eq_true rfl) (Nat.le_of_ble_eq_true rfl) (Nat.le_of_ble_eq_true rfl) (fun nx9 hn9 => ⟨rfl, Or.inr ⟨⟨i, hil, rfl⟩, Or.inl ⟨rfl, Or.inr (Or.inl c2)⟩⟩⟩)
    · refine z_icmp_gt (tgt := 24) dX11_map_11 (by decide) (fun q => absurd q (c2)) (fun _ => ?_)
      refine z_iload_n dX11_map_14 rfl ?_
      refine z_iconst (v := 3) dX11_map_15 (by decide) ?_
      by_cases c3 : y = 3
      · refine z_icmp_ne (tgt := 34) dX11_map_16 (by decide) (fun q => absurd (c3) q) (fun _ => ?_)
        refine z_iload_n dX11_map_19 rfl ?_
        refine z_iconst (v := 1) dX11_map_20 (by decide) ?_
        by_cases c4 : z < 1
        · refine z_icmp_ge (tgt := 34) dX11_map_21 (by decide) (fun q => absurd q ((Int32.not_le.mpr c4))) (fun _ => ?_)
          refine z_throw dX11_map_24 dX11_map_27 dX11_map_28 dX11_map_30 dX11_map_33 rfl (by decide +kernel) zth_1 (List.mem_of_getElem? (i := 1) rfl) rfl (Nat.le_of_ble_eq_true rfl) (Nat.le_of_ble_eq_true rfl) (Nat.le_of_ble_eq_true rfl) (Nat.le_of_ble_eq_true rfl) (fun nx9 hn9 => ⟨rfl, Or.inr ⟨⟨i, hil, rfl⟩, Or.inl ⟨rfl, Or.inr (Or.inr ⟨c3, c4⟩)⟩⟩⟩)
        · have cb : ¬ zbadmap y z := fun w => w.elim c1 fun w => w.elim c2 fun w => c4 w.2
          refine z_icmp_ge (tgt := 34) dX11_map_21 (by decide) (fun _ => ?_) (fun q => absurd ((Int32.not_lt.mp c4)) q)
          refine z_aload_n dX11_map_34 rfl ?_
          refine z_callVX dX11_map_35 cv_X11_75 (c_X11_checkAnotherNode h.1 hgr) rfl h.1 rfl rfl ⟨(Nat.le_of_ble_eq_true rfl), (Nat.le_of_ble_eq_true rfl)⟩ (Nat.le_of_ble_eq_true rfl) (Nat.le_of_ble_eq_true rfl) (Nat.le_of_ble_eq_true rfl) rfl (fun E σ' nx' _ q => ⟨q.2.1, Or.inr ⟨⟨i, hil, rfl⟩, Or.inr ⟨q.1, cb, q.2.2⟩⟩⟩) (fun v σ2 nx2 hx2 hq2 => ?_)
          obtain ⟨rfl, rfl, rfl, hlen⟩ := hq2
          refine z_aload_n dX11_map_38 rfl ?_
          refine z_kind dX11_map_39 (by decide) fs_X11_137 ?_
          refine z_iload_n dX11_map_42 rfl ?_
          refine z_callV dX11_map_43 cv_X11_140 (c_changeOf (k := 1) hG (by decide) hg (hw.bd hg) h) rfl h.1 rfl rfl ⟨(Nat.le_of_ble_eq_true rfl), (Nat.le_of_ble_eq_true rfl)⟩ (Nat.le_of_ble_eq_true rfl) (Nat.le_of_ble_eq_true rfl) (Nat.le_of_ble_eq_true rfl) (fun v σ3 nx3 hx3 hq3 => ?_)
          obtain ⟨rfl, n3, ⟨r3, i3⟩, k3, rfl, low, hdom⟩ := hq3
          refine z_astore dX11_map_46 (by decide) ?_
          refine z_aload dX11_map_48 rfl ?_
          refine z_iload_n dX11_map_50 rfl ?_
          refine z_putf dX11_map_51 fp_X11_144 n3.1 rfl rfl (Nat.le_of_ble_eq_true rfl) ?_
          refine z_aload dX11_map_54 rfl ?_
          refine z_iload_n dX11_map_56 rfl ?_
          refine z_putf dX11_map_57 fp_X11_147 (zu_eq _ _ _) rfl rfl (Nat.le_of_ble_eq_true rfl) ?_
          obtain ⟨σ4, e4⟩ : ∃ z', z' = zu (zu σ3 nx2 (.inr (7, (zNF G nx2 1 (zD0 (nI i) (-1) (f.2.2.1 3) (f.2.2.1 4))).set 9 (.int y)))) nx2 (.inr (7, ((zNF G nx2 1 (zD0 (nI i) (-1) (f.2.2.1 3) (f.2.2.1 4))).set 9 (.int y)).set 10 (.int z))) := ⟨_, rfl⟩
          rw [← e4]
          have k4 : ∀ y, y < nx2 → σ4 y = σ2 y := fun y hy => by rw [e4, zu_ne (by omega), zu_ne (by omega), k3 y (by omega)]
          have n4 : zNode G σ4 nx2 1 (upd (upd (zD0 (nI i) (-1) (f.2.2.1 3) (f.2.2.1 4)) 7 y) 8 z) [] := ⟨by rw [e4]; exact zu_eq _ _ _, n3.2.fr fun y a c => by rw [e4, zu_ne (by omega), zu_ne (by omega)]⟩
          have r4 : zRows G σ4 (nx2 + 8) (zb f) [] [] := r3.fr fun y a c => by rw [e4, zu_ne (by omega), zu_ne (by omega)]
          have i4 : zRows G σ4 (nx2 + 15) (zb f) [] [] := i3.fr fun y a c => by rw [e4, zu_ne (by omega), zu_ne (by omega)]
          have gr4 : zGr G σ4 (b + 1) hi nt (nI lim) := hgr.fr (fun y a c => k4 y (by omega)) fun y a ⟨e, he⟩ => k4 y (hdom y e he)
          refine z_aload_n dX11_map_60 rfl ?_
          refine z_getf dX11_map_61 fl_X11_16 ((k4 b (by omega)).trans h.1) rfl ?_
          refine z_aload dX11_map_64 rfl ?_
          refine z_callV dX11_map_66 cv_X11_92 (c_X2_add gr4 n4 hnx low (by omega) hlen) rfl gr4.1 rfl rfl ⟨(Nat.le_of_ble_eq_true rfl), (Nat.le_of_ble_eq_true rfl)⟩ (Nat.le_of_ble_eq_true rfl) (Nat.le_of_ble_eq_true rfl) (Nat.le_of_ble_eq_true rfl) (fun v σ5 nx5 hx5 hq5 => ?_)
          obtain ⟨rfl, gr5, k5⟩ := hq5
          have k : ∀ y, y < hi → y ≠ b + 1 + 1 → σ5 y = σ2 y := fun y a c => (k5 y c (by omega) (by omega) (Or.inr a)).trans (k4 y (by omega))
          refine zX ?_
          exact z_iret dX11_map_69 rfl (Nat.le_of_ble_eq_true rfl) (Nat.le_of_ble_eq_true rfl) ⟨rfl, hlen, cb, ⟨i, f, _, rfl, hg, rfl, rfl, rfl, h.onNew hnx low k4 gr5 (hw.bd hg).1 (hw.bd hg).2 r4 i4 k5 (Nat.le_refl _)⟩, fun y a c => k y a (by omega)⟩
      · have cb : ¬ zbadmap y z := fun w => w.elim c1 fun w => w.elim c2 fun w => c3 w.1
        refine z_icmp_ne (tgt := 34) dX11_map_16 (by decide) (fun _ => ?_) (fun q => absurd q (c3))
        refine z_aload_n dX11_map_34 rfl ?_
        refine z_callVX dX11_map_35 cv_X11_75 (c_X11_checkAnotherNode h.1 hgr) rfl h.1 rfl rfl ⟨(Nat.le_of_ble_eq_true rfl), (Nat.le_of_ble_eq_true rfl)⟩ (Nat.le_of_ble_eq_true rfl) (Nat.le_of_ble_eq_true rfl) (Nat.le_of_ble_eq_true rfl) rfl (fun E σ' nx' _ q => ⟨q.2.1, Or.inr ⟨⟨i, hil, rfl⟩, Or.inr ⟨q.1, cb, q.2.2⟩⟩⟩) (fun v σ2 nx2 hx2 hq2 => ?_)
        obtain ⟨rfl, rfl, rfl, hlen⟩ := hq2
        refine z_aload_n dX11_map_38 rfl ?_
        refine z_kind dX11_map_39 (by decide) fs_X11_137 ?_
        refine z_iload_n dX11_map_42 rfl ?_
        refine z_callV dX11_map_43 cv_X11_140 (c_changeOf (k := 1) hG (by decide) hg (hw.bd hg) h) rfl h.1 rfl rfl ⟨(Nat.le_of_ble_eq_true rfl), (Nat.le_of_ble_eq_true rfl)⟩ (Nat.le_of_ble_eq_true rfl) (Nat.le_of_ble_eq_true rfl) (Nat.le_of_ble_eq_true rfl) (fun v σ3 nx3 hx3 hq3 => ?_)
        obtain ⟨rfl, n3, ⟨r3, i3⟩, k3, rfl, low, hdom⟩ := hq3
        refine z_astore dX11_map_46 (by decide) ?_
        refine z_aload dX11_map_48 rfl ?_
        refine z_iload_n dX11_map_50 rfl ?_
        refine z_putf dX11_map_51 fp_X11_144 n3.1 rfl rfl (Nat.le_of_ble_eq_true rfl) ?_
        refine z_aload dX11_map_54 rfl ?_
        refine z_iload_n dX11_map_56 rfl ?_
        refine z_putf dX11_map_57 fp_X11_147 (zu_eq _ _ _) rfl rfl (Nat.le_of_ble_eq_true rfl) ?_
        obtain ⟨σ4, e4⟩ : ∃ z', z' = zu (zu σ3 nx2 (.inr (7, (zNF G nx2 1 (zD0 (nI i) (-1) (f.2.2.1 3) (f.2.2.1 4))).set 9 (.int y)))) nx2 (.inr (7, ((zNF G nx2 1 (zD0 (nI i) (-1) (f.2.2.1 3) (f.2.2.1 4))).set 9 (.int y)).set 10 (.int z))) := ⟨_, rfl⟩
        rw [← e4]
        have k4 : ∀ y, y < nx2 → σ4 y = σ2 y := fun y hy => by rw [e4, zu_ne (by omega), zu_ne (by omega), k3 y (by omega)]
        have n4 : zNode G σ4 nx2 1 (upd (upd (zD0 (nI i) (-1) (f.2.2.1 3) (f.2.2.1 4)) 7 y) 8 z) [] := ⟨by rw [e4]; exact zu_eq _ _ _, n3.2.fr fun y a c => by rw [e4, zu_ne (by omega), zu_ne (by omega)]⟩
        have r4 : zRows G σ4 (nx2 + 8) (zb f) [] [] := r3.fr fun y a c => by rw [e4, zu_ne (by omega), zu_ne (by omega)]
        have i4 : zRows G σ4 (nx2 + 15) (zb f) [] [] := i3.fr fun y a c => by rw [e4, zu_ne (by omega), zu_ne (by omega)]
        have gr4 : zGr G σ4 (b + 1) hi nt (nI lim) := hgr.fr (fun y a c => k4 y (by omega)) fun y a ⟨e, he⟩ => k4 y (hdom y e he)
        refine z_aload_n dX11_map_60 rfl ?_
        refine z_getf dX11_map_61 fl_X11_16 ((k4 b (by omega)).trans h.1) rfl ?_
        refine z_aload dX11_map_64 rfl ?_
        refine z_callV dX11_map_66 cv_X11_92 (c_X2_add gr4 n4 hnx low (by omega) hlen) rfl gr4.1 rfl rfl ⟨(Nat.le_of_ble_eq_true rfl), (Nat.le_of_ble_eq_true rfl)⟩ (Nat.le_of_ble_eq_true rfl) (Nat.le_of_ble_eq_true rfl) (Nat.le_of_ble_eq_true rfl) (fun v σ5 nx5 hx5 hq5 => ?_)
        obtain ⟨rfl, gr5, k5⟩ := hq5
        have k : ∀ y, y < hi → y ≠ b + 1 + 1 → σ5 y = σ2 y := fun y a c => (k5 y c (by omega) (by omega) (Or.inr a)).trans (k4 y (by omega))
        refine zX ?_
        exact z_iret dX11_map_69 rfl (Nat.le_of_ble_eq_true rfl) (Nat.le_of_ble_eq_true rfl) ⟨rfl, hlen, cb, ⟨i, f, _, rfl, hg, rfl, rfl, rfl, h.onNew hnx low k4 gr5 (hw.bd hg).1 (hw.bd hg).2 r4 i4 k5 (Nat.le_refl _)⟩, fun y a c => k y a (by omega)⟩
end
