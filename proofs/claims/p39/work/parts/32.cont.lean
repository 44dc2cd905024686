/-! Taskgraphic: what nodes hold -/
section
variable {G : zG} {σ σ' : zH} {b hi lim mem wk r tk sp cs : Nat} {nt : zNT} {slow : Nat → Nat} {L : zNS} {A : List zAE}
/-- one row of a partition -/
def zrw (P : List zP2) (j q : Nat) : Int32 × Int32 := (P.getD j []).getD q (0, 0)
theorem zrw_at : ∀ {P : List zP2} {j q : Nat}, j < P.length → q < zsz P j → P.flatten[(P.take j).flatten.length + q]? = some (zrw P j q)
  | [], j, q, h, _ => absurd h (Nat.not_lt_zero _)
  | p :: P, 0, q, _, h => by
    have h' : q < p.length := h
    rw [List.take_zero, List.flatten_nil, List.length_nil, Nat.zero_add, List.flatten_cons, List.getElem?_append_left h', List.getElem?_eq_getElem h']
    show some p[q] = some (p.getD q (0, 0))
    rw [List.getD_eq_getElem?_getD, List.getElem?_eq_getElem h']
    rfl
  | p :: P, j + 1, q, hj, h => by
    have h' : q < zsz P j := h
    rw [List.take_succ_cons, List.flatten_cons, List.flatten_cons, List.length_append, Nat.add_assoc, List.getElem?_append_right (Nat.le_add_right _ _), Nat.add_sub_cancel_left, zrw_at (P := P) (by simpa using hj) h']
    rfl
/-- the rows of a node are worked out: what stands then -/
theorem zTG.fresh {nx i : Nat} {fr' : Int32} {σ1 : zH} (h : zTG G σ b hi nt lim mem wk slow r L A tk sp cs) (hw : zWf nt) (hil : i < nt.length) (h1 : zGH G σ1 (b + 1) (b + 25) hi false lim nt fr') (h2 : ∀ j, j < 14 → bt (zLin nt i) j = true → bt fr' j = true) (h3 : zHf nt false (b + 25) σ σ1) : zTG G σ1 b hi nt lim mem wk slow r L A tk sp cs ∧ zFh σ σ1 b hi ∧ zHas G σ1 (zhr nt false i) (zhc nt i) (zct lim nt i) := by
  have h14 := h.gr.2.2.2.2.2.1
  have hhi := h.2.2.2.2.2.2.2.2
  exact ⟨h.onSpread h3 ⟨fr', h1⟩, h3.fh h.gr.ly (by omega) (by omega) hhi, (h1.2.1.2 i (by omega) (h2 i (by omega) (zLin_lt hw h14 i hil).2)).2⟩
set_option maxRecDepth 100000 in
theorem c_partitions {nx : Nat} {x : Int32} (hG : zKap G) (hw : zWf nt) (hlim : lim ≤ 1000) (h : zTG G σ b hi nt lim mem wk slow r L A tk sp cs) : zMX G yX11_partitions kX11_partitions [.ref b, .int x] σ nx (fun v σ' nx' => (∃ i, i < nt.length ∧ x = nI i ∧ v = some (.int (nI (zct lim nt i).length))) ∧ zTG G σ' b hi nt lim mem wk slow r L A tk sp cs ∧ zFh σ σ' b hi ∧ nx' = nx) (fun E σ' nx' => E = zEI ∧ σ' = σ ∧ (x < 0 ∨ nI nt.length ≤ x)) := by
  refine zMX.of (ls := [some (.ref b), some (.int x)]) (by decide +kernel) ⟨rfl, rfl, rfl⟩ (Nat.le_of_ble_eq_true rfl) (fun _ h => h) ?_
  obtain ⟨fr, hgh⟩ := h.2.1
  refine z_aload_n dX11_partitions_0 rfl ?_
  refine z_iload_n dX11_partitions_1 rfl ?_
  refine z_callVX dX11_partitions_2 cv_X11_96 (c_X11_checkNode h.1 h.gr) rfl h.1 rfl rfl ⟨(Nat.le_of_ble_eq_true rfl), (Nat.le_of_ble_eq_true rfl)⟩ (Nat.le_of_ble_eq_true rfl) (Nat.le_of_ble_eq_true rfl) (Nat.le_of_ble_eq_true rfl) rfl (fun E σ' nx' _ q => q) (fun v σ1 nx1 hx1 hq1 => ?_)
  obtain ⟨rfl, rfl, rfl, i, hi, rfl⟩ := hq1
  refine z_aload_n dX11_partitions_5 rfl ?_
  refine z_getf dX11_partitions_6 fl_X11_25 h.1 rfl ?_
  refine z_iload_n dX11_partitions_9 rfl ?_
  refine z_callV dX11_partitions_10 cv_X11_187 (c_X3_freshRows hG hgh hw hlim hi) rfl hgh.2.1.1.1 rfl rfl ⟨(Nat.le_of_ble_eq_true rfl), (Nat.le_of_ble_eq_true rfl)⟩ (Nat.le_of_ble_eq_true rfl) (Nat.le_of_ble_eq_true rfl) (Nat.le_of_ble_eq_true rfl) (fun v σ2 nx2 hx2 hq2 => ?_)
  obtain ⟨rfl, ⟨fr2, g1, -, g2⟩, g3, rfl⟩ := hq2
  obtain ⟨t2, f2, has⟩ := h.fresh (nx := nx2) hw hi g1 g2 g3
  refine z_callV dX11_partitions_13 cv_X11_191 (c_X9_parts has) rfl has.c rfl rfl ⟨(Nat.le_of_ble_eq_true rfl), (Nat.le_of_ble_eq_true rfl)⟩ (Nat.le_of_ble_eq_true rfl) (Nat.le_of_ble_eq_true rfl) (Nat.le_of_ble_eq_true rfl) (fun v σ3 nx3 hx3 hq3 => ?_)
  obtain ⟨rfl, rfl, rfl⟩ := hq3
  rw [zcum_len]
  refine zX ?_
  exact z_iret dX11_partitions_16 rfl (Nat.le_of_ble_eq_true rfl) (Nat.le_of_ble_eq_true rfl) ⟨⟨i, hi, rfl, rfl⟩, t2, f2, rfl⟩
set_option maxRecDepth 100000 in
theorem c_rows {nx : Nat} {x : Int32} (hG : zKap G) (hw : zWf nt) (hlim : lim ≤ 1000) (h : zTG G σ b hi nt lim mem wk slow r L A tk sp cs) : zMX G yX11_rows kX11_rows [.ref b, .int x] σ nx (fun v σ' nx' => (∃ i, i < nt.length ∧ x = nI i ∧ v = some (.int (nI (zct lim nt i).flatten.length))) ∧ zTG G σ' b hi nt lim mem wk slow r L A tk sp cs ∧ zFh σ σ' b hi ∧ nx' = nx) (fun E σ' nx' => E = zEI ∧ σ' = σ ∧ (x < 0 ∨ nI nt.length ≤ x)) := by
  refine zMX.of (ls := [some (.ref b), some (.int x)]) (by decide +kernel) ⟨rfl, rfl, rfl⟩ (Nat.le_of_ble_eq_true rfl) (fun _ h => h) ?_
  obtain ⟨fr, hgh⟩ := h.2.1
  refine z_aload_n dX11_rows_0 rfl ?_
  refine z_iload_n dX11_rows_1 rfl ?_
  refine z_callVX dX11_rows_2 cv_X11_96 (c_X11_checkNode h.1 h.gr) rfl h.1 rfl rfl ⟨(Nat.le_of_ble_eq_true rfl), (Nat.le_of_ble_eq_true rfl)⟩ (Nat.le_of_ble_eq_true rfl) (Nat.le_of_ble_eq_true rfl) (Nat.le_of_ble_eq_true rfl) rfl (fun E σ' nx' _ q => q) (fun v σ1 nx1 hx1 hq1 => ?_)
  obtain ⟨rfl, rfl, rfl, i, hi, rfl⟩ := hq1
  refine z_aload_n dX11_rows_5 rfl ?_
  refine z_getf dX11_rows_6 fl_X11_25 h.1 rfl ?_
  refine z_iload_n dX11_rows_9 rfl ?_
  refine z_callV dX11_rows_10 cv_X11_187 (c_X3_freshRows hG hgh hw hlim hi) rfl hgh.2.1.1.1 rfl rfl ⟨(Nat.le_of_ble_eq_true rfl), (Nat.le_of_ble_eq_true rfl)⟩ (Nat.le_of_ble_eq_true rfl) (Nat.le_of_ble_eq_true rfl) (Nat.le_of_ble_eq_true rfl) (fun v σ2 nx2 hx2 hq2 => ?_)
  obtain ⟨rfl, ⟨fr2, g1, -, g2⟩, g3, rfl⟩ := hq2
  obtain ⟨t2, f2, has⟩ := h.fresh (nx := nx2) hw hi g1 g2 g3
  refine z_callV dX11_rows_13 cv_X11_110 (c_X9_size has) rfl has.c rfl rfl ⟨(Nat.le_of_ble_eq_true rfl), (Nat.le_of_ble_eq_true rfl)⟩ (Nat.le_of_ble_eq_true rfl) (Nat.le_of_ble_eq_true rfl) (Nat.le_of_ble_eq_true rfl) (fun v σ3 nx3 hx3 hq3 => ?_)
  obtain ⟨rfl, rfl, rfl⟩ := hq3
  refine zX ?_
  exact z_iret dX11_rows_16 rfl (Nat.le_of_ble_eq_true rfl) (Nat.le_of_ble_eq_true rfl) ⟨⟨i, hi, rfl, rfl⟩, t2, f2, rfl⟩
set_option maxRecDepth 100000 in
theorem c_digest {nx : Nat} {x : Int32} (hG : zKap G) (hw : zWf nt) (hlim : lim ≤ 1000) (h : zTG G σ b hi nt lim mem wk slow r L A tk sp cs) : zMX G yX11_digest kX11_digest [.ref b, .int x] σ nx (fun v σ' nx' => (∃ i, i < nt.length ∧ x = nI i ∧ v = some (.int (zsq (zct lim nt i).flatten))) ∧ zTG G σ' b hi nt lim mem wk slow r L A tk sp cs ∧ zFh σ σ' b hi ∧ nx' = nx) (fun E σ' nx' => E = zEI ∧ σ' = σ ∧ (x < 0 ∨ nI nt.length ≤ x)) := by
  refine zMX.of (ls := [some (.ref b), some (.int x)]) (by decide +kernel) ⟨rfl, rfl, rfl⟩ (Nat.le_of_ble_eq_true rfl) (fun _ h => h) ?_
  obtain ⟨fr, hgh⟩ := h.2.1
  refine z_aload_n dX11_digest_0 rfl ?_
  refine z_iload_n dX11_digest_1 rfl ?_
  refine z_callVX dX11_digest_2 cv_X11_96 (c_X11_checkNode h.1 h.gr) rfl h.1 rfl rfl ⟨(Nat.le_of_ble_eq_true rfl), (Nat.le_of_ble_eq_true rfl)⟩ (Nat.le_of_ble_eq_true rfl) (Nat.le_of_ble_eq_true rfl) (Nat.le_of_ble_eq_true rfl) rfl (fun E σ' nx' _ q => q) (fun v σ1 nx1 hx1 hq1 => ?_)
  obtain ⟨rfl, rfl, rfl, i, hi, rfl⟩ := hq1
  refine z_aload_n dX11_digest_5 rfl ?_
  refine z_getf dX11_digest_6 fl_X11_25 h.1 rfl ?_
  refine z_iload_n dX11_digest_9 rfl ?_
  refine z_callV dX11_digest_10 cv_X11_187 (c_X3_freshRows hG hgh hw hlim hi) rfl hgh.2.1.1.1 rfl rfl ⟨(Nat.le_of_ble_eq_true rfl), (Nat.le_of_ble_eq_true rfl)⟩ (Nat.le_of_ble_eq_true rfl) (Nat.le_of_ble_eq_true rfl) (Nat.le_of_ble_eq_true rfl) (fun v σ2 nx2 hx2 hq2 => ?_)
  obtain ⟨rfl, ⟨fr2, g1, -, g2⟩, g3, rfl⟩ := hq2
  obtain ⟨t2, f2, has⟩ := h.fresh (nx := nx2) hw hi g1 g2 g3
  refine z_callV dX11_digest_13 cv_X11_221 (c_X9_squares has) rfl has.c rfl rfl ⟨(Nat.le_of_ble_eq_true rfl), (Nat.le_of_ble_eq_true rfl)⟩ (Nat.le_of_ble_eq_true rfl) (Nat.le_of_ble_eq_true rfl) (Nat.le_of_ble_eq_true rfl) (fun v σ3 nx3 hx3 hq3 => ?_)
  obtain ⟨rfl, rfl, rfl⟩ := hq3
  refine zX ?_
  exact z_iret dX11_digest_16 rfl (Nat.le_of_ble_eq_true rfl) (Nat.le_of_ble_eq_true rfl) ⟨⟨i, hi, rfl, rfl⟩, t2, f2, rfl⟩
set_option maxRecDepth 100000 in
theorem c_digestInPlace {nx : Nat} {x : Int32} (hG : zKap G) (hw : zWf nt) (hlim : lim ≤ 1000) (h : zTG G σ b hi nt lim mem wk slow r L A tk sp cs) : zMX G yX11_digestInPlace kX11_digestInPlace [.ref b, .int x] σ nx (fun v σ' nx' => (∃ i, i < nt.length ∧ x = nI i ∧ v = some (.int (zsq (zcon true lim nt i).flatten))) ∧ zTG G σ' b hi nt lim mem wk slow r L A tk sp cs ∧ zFh σ σ' b hi ∧ nx' = nx) (fun E σ' nx' => E = zEI ∧ σ' = σ ∧ (x < 0 ∨ nI nt.length ≤ x)) := by
  refine zMX.of (ls := [some (.ref b), some (.int x)]) (by decide +kernel) ⟨rfl, rfl, rfl⟩ (Nat.le_of_ble_eq_true rfl) (fun _ h => h) ?_
  obtain ⟨fr, hgh⟩ := h.2.2.1
  have h14 := h.gr.2.2.2.2.2.1
  have hhi := h.2.2.2.2.2.2.2.2
  refine z_aload_n dX11_digestInPlace_0 rfl ?_
  refine z_iload_n dX11_digestInPlace_1 rfl ?_
  refine z_callVX dX11_digestInPlace_2 cv_X11_96 (c_X11_checkNode h.1 h.gr) rfl h.1 rfl rfl ⟨(Nat.le_of_ble_eq_true rfl), (Nat.le_of_ble_eq_true rfl)⟩ (Nat.le_of_ble_eq_true rfl) (Nat.le_of_ble_eq_true rfl) (Nat.le_of_ble_eq_true rfl) rfl (fun E σ' nx' _ q => q) (fun v σ1 nx1 hx1 hq1 => ?_)
  obtain ⟨rfl, rfl, rfl, i, hi, rfl⟩ := hq1
  refine z_aload_n dX11_digestInPlace_5 rfl ?_
  refine z_getf dX11_digestInPlace_6 fl_X11_29 h.1 rfl ?_
  refine z_iload_n dX11_digestInPlace_9 rfl ?_
  refine z_callV dX11_digestInPlace_10 cv_X11_187 (c_X3_freshRows hG hgh hw hlim hi) rfl hgh.2.1.1.1 rfl rfl ⟨(Nat.le_of_ble_eq_true rfl), (Nat.le_of_ble_eq_true rfl)⟩ (Nat.le_of_ble_eq_true rfl) (Nat.le_of_ble_eq_true rfl) (Nat.le_of_ble_eq_true rfl) (fun v σ2 nx2 hx2 hq2 => ?_)
  obtain ⟨rfl, ⟨fr2, g1, -, g2⟩, g3, rfl⟩ := hq2
  have has := (g1.2.1.2 i (by omega) (g2 i (by omega) (zLin_lt hw h14 i hi).2)).2
  refine z_callV dX11_digestInPlace_13 cv_X11_221 (c_X9_squares has) rfl has.c rfl rfl ⟨(Nat.le_of_ble_eq_true rfl), (Nat.le_of_ble_eq_true rfl)⟩ (Nat.le_of_ble_eq_true rfl) (Nat.le_of_ble_eq_true rfl) (Nat.le_of_ble_eq_true rfl) (fun v σ3 nx3 hx3 hq3 => ?_)
  obtain ⟨rfl, rfl, rfl⟩ := hq3
  refine zX ?_
  exact z_iret dX11_digestInPlace_16 rfl (Nat.le_of_ble_eq_true rfl) (Nat.le_of_ble_eq_true rfl) ⟨⟨i, hi, rfl, rfl⟩, h.onInPl g3 ⟨fr2, g1⟩, g3.fh h.gr.ly (by omega) (by omega) hhi, rfl⟩
set_option maxRecDepth 100000 in
theorem c_rowsIn {nx : Nat} {x y : Int32} (hG : zKap G) (hw : zWf nt) (hlim : lim ≤ 1000) (h : zTG G σ b hi nt lim mem wk slow r L A tk sp cs) : zMX G yX11_rowsIn kX11_rowsIn [.ref b, .int x, .int y] σ nx (fun v σ' nx' => (∃ i j, i < nt.length ∧ x = nI i ∧ j < (zct lim nt i).length ∧ y = nI j ∧ v = some (.int (nI (zsz (zct lim nt i) j)))) ∧ zTG G σ' b hi nt lim mem wk slow r L A tk sp cs ∧ zFh σ σ' b hi ∧ nx' = nx) (fun E σ' nx' => E = zEI ∧ ((x < 0 ∨ nI nt.length ≤ x) ∨ ∃ i, i < nt.length ∧ x = nI i ∧ (y < 0 ∨ nI (zct lim nt i).length ≤ y)) ∧ zTG G σ' b hi nt lim mem wk slow r L A tk sp cs ∧ zFh σ σ' b hi) := by
  refine zMX.of (ls := [some (.ref b), some (.int x), some (.int y), none]) (by decide +kernel) ⟨rfl, rfl, rfl⟩ (Nat.le_of_ble_eq_true rfl) (fun _ h => h) ?_
  obtain ⟨fr, hgh⟩ := h.2.1
  refine z_aload_n dX11_rowsIn_0 rfl ?_
  refine z_iload_n dX11_rowsIn_1 rfl ?_
  refine z_callVX dX11_rowsIn_2 cv_X11_96 (c_X11_checkNode h.1 h.gr) rfl h.1 rfl rfl ⟨(Nat.le_of_ble_eq_true rfl), (Nat.le_of_ble_eq_true rfl)⟩ (Nat.le_of_ble_eq_true rfl) (Nat.le_of_ble_eq_true rfl) (Nat.le_of_ble_eq_true rfl) rfl (fun E σ' nx' _ q => ⟨q.1, Or.inl q.2.2, by rw [q.2.1]; exact h, by rw [q.2.1]; exact zFh.rf _ _ _⟩) (fun v σ1 nx1 hx1 hq1 => ?_)
  obtain ⟨rfl, rfl, rfl, i, hi, rfl⟩ := hq1
  refine z_aload_n dX11_rowsIn_5 rfl ?_
  refine z_getf dX11_rowsIn_6 fl_X11_25 h.1 rfl ?_
  refine z_iload_n dX11_rowsIn_9 rfl ?_
  refine z_callV dX11_rowsIn_10 cv_X11_187 (c_X3_freshRows hG hgh hw hlim hi) rfl hgh.2.1.1.1 rfl rfl ⟨(Nat.le_of_ble_eq_true rfl), (Nat.le_of_ble_eq_true rfl)⟩ (Nat.le_of_ble_eq_true rfl) (Nat.le_of_ble_eq_true rfl) (Nat.le_of_ble_eq_true rfl) (fun v σ2 nx2 hx2 hq2 => ?_)
  obtain ⟨rfl, ⟨fr2, g1, -, g2⟩, g3, rfl⟩ := hq2
  obtain ⟨t2, f2, has⟩ := h.fresh (nx := nx2) hw hi g1 g2 g3
  refine z_astore_n dX11_rowsIn_13 (by decide) ?_
  refine z_aload_n dX11_rowsIn_14 rfl ?_
  refine z_iload_n dX11_rowsIn_15 rfl ?_
  refine z_callSX dX11_rowsIn_16 cv_X11_194 (c_X11_checkPartition has) rfl rfl ⟨(Nat.le_of_ble_eq_true rfl), (Nat.le_of_ble_eq_true rfl)⟩ (Nat.le_of_ble_eq_true rfl) (Nat.le_of_ble_eq_true rfl) (Nat.le_of_ble_eq_true rfl) rfl w_1059 (fun E σ' nx' _ q => ⟨q.1, Or.inr ⟨i, hi, rfl, q.2.2⟩, by rw [q.2.1]; exact t2, by rw [q.2.1]; exact f2⟩) (fun v σ3 nx3 hx3 hq3 => ?_)
  obtain ⟨rfl, rfl, rfl, j, hj, rfl⟩ := hq3
  refine z_aload_n dX11_rowsIn_19 rfl ?_
  refine z_iload_n dX11_rowsIn_20 rfl ?_
  refine z_callV dX11_rowsIn_21 cv_X11_198 (c_has_sizeOf has hj) rfl has.c rfl rfl ⟨(Nat.le_of_ble_eq_true rfl), (Nat.le_of_ble_eq_true rfl)⟩ (Nat.le_of_ble_eq_true rfl) (Nat.le_of_ble_eq_true rfl) (Nat.le_of_ble_eq_true rfl) (fun v σ4 nx4 hx4 hq4 => ?_)
  obtain ⟨rfl, rfl, rfl⟩ := hq4
  refine zX ?_
  exact z_iret dX11_rowsIn_24 rfl (Nat.le_of_ble_eq_true rfl) (Nat.le_of_ble_eq_true rfl) ⟨⟨i, j, hi, rfl, hj, rfl, rfl⟩, t2, f2, rfl⟩
set_option maxRecDepth 100000 in
theorem c_keyAt {nx : Nat} {x y z : Int32} (hG : zKap G) (hw : zWf nt) (hlim : lim ≤ 1000) (h : zTG G σ b hi nt lim mem wk slow r L A tk sp cs) : zMX G yX11_keyAt kX11_keyAt [.ref b, .int x, .int y, .int z] σ nx (fun v σ' nx' => (∃ i j q, i < nt.length ∧ x = nI i ∧ j < (zct lim nt i).length ∧ y = nI j ∧ q < zsz (zct lim nt i) j ∧ z = nI q ∧ v = some (.int (zrw (zct lim nt i) j q).1)) ∧ zTG G σ' b hi nt lim mem wk slow r L A tk sp cs ∧ zFh σ σ' b hi ∧ nx' = nx) (fun E σ' nx' => E = zEI ∧ ((x < 0 ∨ nI nt.length ≤ x) ∨ ∃ i, i < nt.length ∧ x = nI i ∧ ((y < 0 ∨ nI (zct lim nt i).length ≤ y) ∨ ∃ j, j < (zct lim nt i).length ∧ y = nI j ∧ (z < 0 ∨ nI (zsz (zct lim nt i) j) ≤ z))) ∧ zTG G σ' b hi nt lim mem wk slow r L A tk sp cs ∧ zFh σ σ' b hi) := by
  refine zMX.of (ls := [some (.ref b), some (.int x), some (.int y), some (.int z), none]) (by decide +kernel) ⟨rfl, rfl, rfl⟩ (Nat.le_of_ble_eq_true rfl) (fun _ h => h) ?_
  obtain ⟨fr, hgh⟩ := h.2.1
  refine z_aload_n dX11_keyAt_0 rfl ?_
  refine z_iload_n dX11_keyAt_1 rfl ?_
  refine z_callVX dX11_keyAt_2 cv_X11_96 (c_X11_checkNode h.1 h.gr) rfl h.1 rfl rfl ⟨(Nat.le_of_ble_eq_true rfl), (Nat.le_of_ble_eq_true rfl)⟩ (Nat.le_of_ble_eq_true rfl) (Nat.le_of_ble_eq_true rfl) (Nat.le_of_ble_eq_true rfl) rfl (fun E σ' nx' _ q => ⟨q.1, Or.inl q.2.2, by rw [q.2.1]; exact h, by rw [q.2.1]; exact zFh.rf _ _ _⟩) (fun v σ1 nx1 hx1 hq1 => ?_)
  obtain ⟨rfl, rfl, rfl, i, hi, rfl⟩ := hq1
  refine z_aload_n dX11_keyAt_5 rfl ?_
  refine z_getf dX11_keyAt_6 fl_X11_25 h.1 rfl ?_
  refine z_iload_n dX11_keyAt_9 rfl ?_
  refine z_callV dX11_keyAt_10 cv_X11_187 (c_X3_freshRows hG hgh hw hlim hi) rfl hgh.2.1.1.1 rfl rfl ⟨(Nat.le_of_ble_eq_true rfl), (Nat.le_of_ble_eq_true rfl)⟩ (Nat.le_of_ble_eq_true rfl) (Nat.le_of_ble_eq_true rfl) (Nat.le_of_ble_eq_true rfl) (fun v σ2 nx2 hx2 hq2 => ?_)
  obtain ⟨rfl, ⟨fr2, g1, -, g2⟩, g3, rfl⟩ := hq2
  obtain ⟨t2, f2, has⟩ := h.fresh (nx := nx2) hw hi g1 g2 g3
  refine z_astore dX11_keyAt_13 (by decide) ?_
  refine z_aload dX11_keyAt_15 rfl ?_
  refine z_iload_n dX11_keyAt_17 rfl ?_
  refine z_iload_n dX11_keyAt_18 rfl ?_
  refine z_callSX dX11_keyAt_19 cv_X11_202 (c_X11_checkPlace has) rfl rfl ⟨(Nat.le_of_ble_eq_true rfl), (Nat.le_of_ble_eq_true rfl)⟩ (Nat.le_of_ble_eq_true rfl) (Nat.le_of_ble_eq_true rfl) (Nat.le_of_ble_eq_true rfl) rfl w_1072 (fun E σ' nx' _ q => ⟨q.1, Or.inr ⟨i, hi, rfl, q.2.2⟩, by rw [q.2.1]; exact t2, by rw [q.2.1]; exact f2⟩) (fun v σ3 nx3 hx3 hq3 => ?_)
  obtain ⟨rfl, rfl, rfl, j, q, hj, rfl, hq, rfl⟩ := hq3
  have hat := zrw_at hj hq
  refine z_aload dX11_keyAt_22 rfl ?_
  refine z_aload dX11_keyAt_24 rfl ?_
  refine z_iload_n dX11_keyAt_26 rfl ?_
  refine z_callV dX11_keyAt_27 cv_X11_206 (c_X9_begin has (show j ≤ (zcum 0 (zct lim nt i)).length by rw [zcum_len]; omega)) rfl has.c rfl rfl ⟨(Nat.le_of_ble_eq_true rfl), (Nat.le_of_ble_eq_true rfl)⟩ (Nat.le_of_ble_eq_true rfl) (Nat.le_of_ble_eq_true rfl) (Nat.le_of_ble_eq_true rfl) (fun v σ4 nx4 hx4 hq4 => ?_)
  obtain ⟨rfl, rfl, rfl⟩ := hq4
  rw [zbeg_at (by omega)]
  refine z_iload_n dX11_keyAt_30 rfl ?_
  refine z_iadd dX11_keyAt_31 ?_
  rw [nI_add]
  refine z_callV dX11_keyAt_32 cv_X11_209 (c_X9_key has hat) rfl has.c rfl rfl ⟨(Nat.le_of_ble_eq_true rfl), (Nat.le_of_ble_eq_true rfl)⟩ (Nat.le_of_ble_eq_true rfl) (Nat.le_of_ble_eq_true rfl) (Nat.le_of_ble_eq_true rfl) (fun v σ5 nx5 hx5 hq5 => ?_)
  obtain ⟨rfl, rfl, rfl⟩ := hq5
  refine zX ?_
  exact z_iret dX11_keyAt_35 rfl (Nat.le_of_ble_eq_true rfl) (Nat.le_of_ble_eq_true rfl) ⟨⟨i, j, q, hi, rfl, hj, rfl, hq, rfl, rfl⟩, t2, f2, rfl⟩
set_option maxRecDepth 100000 in
theorem c_valueAt {nx : Nat} {x y z : Int32} (hG : zKap G) (hw : zWf nt) (hlim : lim ≤ 1000) (h : zTG G σ b hi nt lim mem wk slow r L A tk sp cs) : zMX G yX11_valueAt kX11_valueAt [.ref b, .int x, .int y, .int z] σ nx (fun v σ' nx' => (∃ i j q, i < nt.length ∧ x = nI i ∧ j < (zct lim nt i).length ∧ y = nI j ∧ q < zsz (zct lim nt i) j ∧ z = nI q ∧ v = some (.int (zrw (zct lim nt i) j q).2)) ∧ zTG G σ' b hi nt lim mem wk slow r L A tk sp cs ∧ zFh σ σ' b hi ∧ nx' = nx) (fun E σ' nx' => E = zEI ∧ ((x < 0 ∨ nI nt.length ≤ x) ∨ ∃ i, i < nt.length ∧ x = nI i ∧ ((y < 0 ∨ nI (zct lim nt i).length ≤ y) ∨ ∃ j, j < (zct lim nt i).length ∧ y = nI j ∧ (z < 0 ∨ nI (zsz (zct lim nt i) j) ≤ z))) ∧ zTG G σ' b hi nt lim mem wk slow r L A tk sp cs ∧ zFh σ σ' b hi) := by
  refine zMX.of (ls := [some (.ref b), some (.int x), some (.int y), some (.int z), none]) (by decide +kernel) ⟨rfl, rfl, rfl⟩ (Nat.le_of_ble_eq_true rfl) (fun _ h => h) ?_
  obtain ⟨fr, hgh⟩ := h.2.1
  refine z_aload_n dX11_valueAt_0 rfl ?_
  refine z_iload_n dX11_valueAt_1 rfl ?_
  refine z_callVX dX11_valueAt_2 cv_X11_96 (c_X11_checkNode h.1 h.gr) rfl h.1 rfl rfl ⟨(Nat.le_of_ble_eq_true rfl), (Nat.le_of_ble_eq_true rfl)⟩ (Nat.le_of_ble_eq_true rfl) (Nat.le_of_ble_eq_true rfl) (Nat.le_of_ble_eq_true rfl) rfl (fun E σ' nx' _ q => ⟨q.1, Or.inl q.2.2, by rw [q.2.1]; exact h, by rw [q.2.1]; exact zFh.rf _ _ _⟩) (fun v σ1 nx1 hx1 hq1 => ?_)
  obtain ⟨rfl, rfl, rfl, i, hi, rfl⟩ := hq1
  refine z_aload_n dX11_valueAt_5 rfl ?_
  refine z_getf dX11_valueAt_6 fl_X11_25 h.1 rfl ?_
  refine z_iload_n dX11_valueAt_9 rfl ?_
  refine z_callV dX11_valueAt_10 cv_X11_187 (c_X3_freshRows hG hgh hw hlim hi) rfl hgh.2.1.1.1 rfl rfl ⟨(Nat.le_of_ble_eq_true rfl), (Nat.le_of_ble_eq_true rfl)⟩ (Nat.le_of_ble_eq_true rfl) (Nat.le_of_ble_eq_true rfl) (Nat.le_of_ble_eq_true rfl) (fun v σ2 nx2 hx2 hq2 => ?_)
  obtain ⟨rfl, ⟨fr2, g1, -, g2⟩, g3, rfl⟩ := hq2
  obtain ⟨t2, f2, has⟩ := h.fresh (nx := nx2) hw hi g1 g2 g3
  refine z_astore dX11_valueAt_13 (by decide) ?_
  refine z_aload dX11_valueAt_15 rfl ?_
  refine z_iload_n dX11_valueAt_17 rfl ?_
  refine z_iload_n dX11_valueAt_18 rfl ?_
  refine z_callSX dX11_valueAt_19 cv_X11_202 (c_X11_checkPlace has) rfl rfl ⟨(Nat.le_of_ble_eq_true rfl), (Nat.le_of_ble_eq_true rfl)⟩ (Nat.le_of_ble_eq_true rfl) (Nat.le_of_ble_eq_true rfl) (Nat.le_of_ble_eq_true rfl) rfl w_1072 (fun E σ' nx' _ q => ⟨q.1, Or.inr ⟨i, hi, rfl, q.2.2⟩, by rw [q.2.1]; exact t2, by rw [q.2.1]; exact f2⟩) (fun v σ3 nx3 hx3 hq3 => ?_)
  obtain ⟨rfl, rfl, rfl, j, q, hj, rfl, hq, rfl⟩ := hq3
  have hat := zrw_at hj hq
  refine z_aload dX11_valueAt_22 rfl ?_
  refine z_aload dX11_valueAt_24 rfl ?_
  refine z_iload_n dX11_valueAt_26 rfl ?_
  refine z_callV dX11_valueAt_27 cv_X11_206 (c_X9_begin has (show j ≤ (zcum 0 (zct lim nt i)).length by rw [zcum_len]; omega)) rfl has.c rfl rfl ⟨(Nat.le_of_ble_eq_true rfl), (Nat.le_of_ble_eq_true rfl)⟩ (Nat.le_of_ble_eq_true rfl) (Nat.le_of_ble_eq_true rfl) (Nat.le_of_ble_eq_true rfl) (fun v σ4 nx4 hx4 hq4 => ?_)
  obtain ⟨rfl, rfl, rfl⟩ := hq4
  rw [zbeg_at (by omega)]
  refine z_iload_n dX11_valueAt_30 rfl ?_
  refine z_iadd dX11_valueAt_31 ?_
  rw [nI_add]
  refine z_callV dX11_valueAt_32 cv_X11_212 (c_X9_value has hat) rfl has.c rfl rfl ⟨(Nat.le_of_ble_eq_true rfl), (Nat.le_of_ble_eq_true rfl)⟩ (Nat.le_of_ble_eq_true rfl) (Nat.le_of_ble_eq_true rfl) (Nat.le_of_ble_eq_true rfl) (fun v σ5 nx5 hx5 hq5 => ?_)
  obtain ⟨rfl, rfl, rfl⟩ := hq5
  refine zX ?_
  exact z_iret dX11_valueAt_35 rfl (Nat.le_of_ble_eq_true rfl) (Nat.le_of_ble_eq_true rfl) ⟨⟨i, j, q, hi, rfl, hj, rfl, hq, rfl, rfl⟩, t2, f2, rfl⟩
set_option maxRecDepth 100000 in
theorem c_isBroad {nx : Nat} {x : Int32} (hG : zKap G) (hw : zWf nt) (hlim : lim ≤ 1000) (h : zTG G σ b hi nt lim mem wk slow r L A tk sp cs) : zMX G yX11_isBroad kX11_isBroad [.ref b, .int x] σ nx (fun v σ' nx' => (∃ i, i < nt.length ∧ x = nI i ∧ zkd nt i = 5 ∧ v = some (.int (if zbr lim nt i then 1 else 0))) ∧ zTG G σ' b hi nt lim mem wk slow r L A tk sp cs ∧ zFh σ σ' b hi ∧ nx' = nx) (fun E σ' nx' => σ' = σ ∧ ((E = zEI ∧ (x < 0 ∨ nI nt.length ≤ x)) ∨ (E = zES ∧ ∃ i, i < nt.length ∧ x = nI i ∧ zkd nt i ≠ 5))) := by
  refine zMX.of (ls := [some (.ref b), some (.int x)]) (by decide +kernel) ⟨rfl, rfl, rfl⟩ (Nat.le_of_ble_eq_true rfl) (fun _ h => h) ?_
  obtain ⟨fr, hgh⟩ := h.2.1
  have h14 := h.gr.2.2.2.2.2.1
  refine z_aload_n dX11_isBroad_0 rfl ?_
  refine z_iload_n dX11_isBroad_1 rfl ?_
  refine z_callVX dX11_isBroad_2 cv_X11_96 (c_X11_checkNode h.1 h.gr) rfl h.1 rfl rfl ⟨(Nat.le_of_ble_eq_true rfl), (Nat.le_of_ble_eq_true rfl)⟩ (Nat.le_of_ble_eq_true rfl) (Nat.le_of_ble_eq_true rfl) (Nat.le_of_ble_eq_true rfl) rfl (fun E σ' nx' _ q => ⟨q.2.1, Or.inl ⟨q.1, q.2.2⟩⟩) (fun v σ1 nx1 hx1 hq1 => ?_)
  obtain ⟨rfl, rfl, rfl, i, hi, rfl⟩ := hq1
  obtain ⟨e, hei, eD, ek, k6, -⟩ := zNfo (lim := lim) hw h14 hi
  refine z_aload_n dX11_isBroad_5 rfl ?_
  refine z_getf dX11_isBroad_6 fl_X11_16 h.1 rfl ?_
  refine z_iload_n dX11_isBroad_9 rfl ?_
  refine z_callV dX11_isBroad_10 cv_X11_99 (c_X2_at h.gr) rfl h.gr.1 rfl rfl ⟨(Nat.le_of_ble_eq_true rfl), (Nat.le_of_ble_eq_true rfl)⟩ (Nat.le_of_ble_eq_true rfl) (Nat.le_of_ble_eq_true rfl) (Nat.le_of_ble_eq_true rfl) (fun v σ2 nx2 hx2 hq2 => ?_)
  obtain ⟨rfl, rfl, rfl⟩ := hq2
  rw [znat_in hei h14]
  refine z_getf dX11_isBroad_13 fl_X11_103 (h.gr.2.2.2.1 i e hei).1.1 rfl ?_
  refine z_kind dX11_isBroad_16 (by decide) fs_X11_183 ?_
  by_cases k5 : e.2.1 = 5
  · refine z_racmp_eq (tgt := 32) dX11_isBroad_19 (by decide) (fun _ => ?_) (fun q => absurd ((by rw [k5])) q)
    refine z_aload_n dX11_isBroad_32 rfl ?_
    refine z_getf dX11_isBroad_33 fl_X11_25 h.1 rfl ?_
    refine z_iload_n dX11_isBroad_36 rfl ?_
    refine z_callV dX11_isBroad_37 cv_X11_187 (c_X3_freshRows hG hgh hw hlim hi) rfl hgh.2.1.1.1 rfl rfl ⟨(Nat.le_of_ble_eq_true rfl), (Nat.le_of_ble_eq_true rfl)⟩ (Nat.le_of_ble_eq_true rfl) (Nat.le_of_ble_eq_true rfl) (Nat.le_of_ble_eq_true rfl) (fun v σ3 nx3 hx3 hq3 => ?_)
    obtain ⟨rfl, ⟨fr2, g1, -, g2⟩, g3, rfl⟩ := hq3
    obtain ⟨t2, f2, has⟩ := h.fresh (nx := nx3) hw hi g1 g2 g3
    refine z_pop dX11_isBroad_40 rfl ?_
    refine z_aload_n dX11_isBroad_41 rfl ?_
    refine z_getf dX11_isBroad_42 fl_X11_25 t2.1 rfl ?_
    refine z_iload_n dX11_isBroad_45 rfl ?_
    refine z_callV dX11_isBroad_46 cv_X11_217 (c_X3_joinsBroadly hG g1 hw hlim hi g2) rfl g1.2.1.1.1 rfl rfl ⟨(Nat.le_of_ble_eq_true rfl), (Nat.le_of_ble_eq_true rfl)⟩ (Nat.le_of_ble_eq_true rfl) (Nat.le_of_ble_eq_true rfl) (Nat.le_of_ble_eq_true rfl) (fun v σ4 nx4 hx4 hq4 => ?_)
    obtain ⟨⟨bb, rfl, hb⟩, rfl, rfl⟩ := hq4
    rw [← zbr_iff] at hb
    have e2 : zbr lim nt i = bb := by cases bb with | true => exact hb.mp rfl | false => cases hz : zbr lim nt i with | true => exact nomatch hb.mpr hz | false => rfl
    refine zX ?_
    refine z_zret dX11_isBroad_49 rfl (by cases bb <;> rfl) (Nat.le_of_ble_eq_true rfl) (Nat.le_of_ble_eq_true rfl) ⟨⟨i, hi, rfl, by rw [ek]; exact k5, by rw [e2]⟩, t2, f2, rfl⟩
  · refine z_racmp_eq (tgt := 32) dX11_isBroad_19 (by decide) (fun q => absurd q ((fun q => k5 (hG _ _ k6 (by omega) q)))) (fun _ => ?_)
    refine z_throw dX11_isBroad_22 dX11_isBroad_25 dX11_isBroad_26 dX11_isBroad_28 dX11_isBroad_31 rfl (by decide +kernel) zth_2 (List.mem_of_getElem? (i := 5) rfl) rfl (Nat.le_of_ble_eq_true rfl) (Nat.le_of_ble_eq_true rfl) (Nat.le_of_ble_eq_true rfl) (Nat.le_of_ble_eq_true rfl) (fun nx9 hn9 => ⟨rfl, Or.inr ⟨rfl, i, hi, rfl, by rw [ek]; exact k5⟩⟩)
end
