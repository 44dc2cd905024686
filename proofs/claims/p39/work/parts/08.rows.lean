/-! Rows: r is the object; its arrays lie behind it -/
theorem zM.of2 {G : zG} {k : zK} {nx : Nat} {ls : zL} {σ : zH} {y : MethodName} {as : List Value} {P : Option Value → zH → Nat → Prop} (hy : plainFor y = true) (hk : k.1 = y.cls ∧ k.2.2.2.2.2.1 = y.name ∧ k.2.2.2.2.2.2 = []) (hn : (lg_sl as).length ≤ k.2.2.1) (hls : ∀ q ∈ zTL 0 ls, q ∈ lv_args 0 as)
    (body : ∀ Q : Option Value → zH → Nat → Prop, (∀ v σ' nx', P v σ' nx' → Q v σ' nx') → zWP G k (zFM G k.2.2.2.1 Q) 0 ls [] σ nx 0 0) : zM G y k as σ nx P := zM.of hy hk hn hls (body P fun _ _ _ h => h)
def zFr (σ σ' : zH) (r n : Nat) : Prop := ∀ b, (b < r ∨ r + n ≤ b) → σ' b = σ b
theorem zFr.rf {σ : zH} {r n : Nat} : zFr σ σ r n := fun _ _ => rfl
theorem zFr.tr {σ σ1 σ2 : zH} {r n : Nat} (h1 : zFr σ σ1 r n) (h2 : zFr σ1 σ2 r n) : zFr σ σ2 r n := fun b hb => (h2 b hb).trans (h1 b hb)
abbrev zP2 : Type := List (Int32 × Int32)
def zRC (r m c p : Nat) : va_E := .inr (9, [.int (nI m), .ref (r + 1), .ref (r + 3), .ref (r + 5), .int (nI c), .int (nI p)])
def zRows (G : zG) (σ : zH) (r m : Nat) (R : zP2) (E : List Nat) : Prop := ∃ kf vf ef : Nat → Int32,
  σ r = some (zRC r m R.length E.length) ∧ zInts G σ (r + 1) m kf ∧ zInts G σ (r + 3) m vf ∧ zInts G σ (r + 5) 8 ef ∧
  (∀ i q, R[i]? = some q → kf i = q.1 ∧ vf i = q.2) ∧ (∀ i e, E[i]? = some e → ef i = nI e) ∧ R.length ≤ m ∧ E.length ≤ 8 ∧ m ≤ 300
theorem zRows.fr {G : zG} {σ σ' : zH} {r m : Nat} {R : zP2} {E : List Nat} (h : zRows G σ r m R E) (hf : ∀ b, r ≤ b → b < r + 7 → σ' b = σ b) : zRows G σ' r m R E := by
  obtain ⟨kf, vf, ef, h1, h2, h3, h4, h5⟩ := h
  exact ⟨kf, vf, ef, (hf r (by omega) (by omega)).trans h1, h2.fr fun b a c => hf b (by omega) (by omega), h3.fr fun b a c => hf b (by omega) (by omega), h4.fr fun b a c => hf b (by omega) (by omega), h5⟩
def zbeg (E : List Nat) (j : Nat) : Nat := if j = 0 then 0 else E.getD (j - 1) 0
set_option maxRecDepth 100000 in
theorem c_X9_clear {G : zG} {σ : zH} {nx r m : Nat} {R : zP2} {E : List Nat} (h : zRows G σ r m R E) : zM G yX9_clear kX9_clear [.ref r] σ nx (fun v σ' nx' => v = none ∧ zRows G σ' r m [] [] ∧ zFr σ σ' r 7 ∧ nx' = nx) := by
  refine zM.of (ls := [some (.ref r)]) (by decide +kernel) ⟨rfl, rfl, rfl⟩ (Nat.le_of_ble_eq_true rfl) (fun _ h => h) ?_
  obtain ⟨kf, vf, ef, h1, h2, h3, h4, h5, h6, h7, h8, h9⟩ := h
  refine z_aload_n dX9_clear_0 rfl ?_
  refine z_iconst (v := 0) dX9_clear_1 (by decide) ?_
  refine z_putf dX9_clear_2 fp_X9_30 h1 rfl rfl (Nat.le_of_ble_eq_true rfl) ?_
  refine z_aload_n dX9_clear_5 rfl ?_
  refine z_iconst (v := 0) dX9_clear_6 (by decide) ?_
  refine z_putf dX9_clear_7 fp_X9_33 (zu_eq _ _ _) rfl rfl (Nat.le_of_ble_eq_true rfl) ?_
  exact z_vret dX9_clear_10 rfl (Nat.le_of_ble_eq_true rfl) (Nat.le_of_ble_eq_true rfl) ⟨rfl, ⟨kf, vf, ef, zu_eq _ _ _, h2.fr fun b a c => (zu_ne (by omega)).trans (zu_ne (by omega)), h3.fr fun b a c => (zu_ne (by omega)).trans (zu_ne (by omega)), h4.fr fun b a c => (zu_ne (by omega)).trans (zu_ne (by omega)), fun i q z => by simp at z, fun i q z => by simp at z, Nat.zero_le _, by decide, h9⟩, fun b hb => (zu_ne (by omega)).trans (zu_ne (by omega)), rfl⟩
set_option maxRecDepth 100000 in
theorem c_X9_size {G : zG} {σ : zH} {nx r m : Nat} {R : zP2} {E : List Nat} (h : zRows G σ r m R E) : zM G yX9_size kX9_size [.ref r] σ nx (fun v σ' nx' => v = some (.int (nI R.length)) ∧ σ' = σ ∧ nx' = nx) := by
  refine zM.of (ls := [some (.ref r)]) (by decide +kernel) ⟨rfl, rfl, rfl⟩ (Nat.le_of_ble_eq_true rfl) (fun _ h => h) ?_
  obtain ⟨kf, vf, ef, h1, h2, h3, h4, h5, h6, h7, h8, h9⟩ := h
  refine z_aload_n dX9_size_0 rfl ?_
  refine z_getf dX9_size_1 fl_X9_30 h1 rfl ?_
  exact z_iret dX9_size_4 rfl (Nat.le_of_ble_eq_true rfl) (Nat.le_of_ble_eq_true rfl) ⟨rfl, rfl, rfl⟩
set_option maxRecDepth 100000 in
theorem c_X9_parts {G : zG} {σ : zH} {nx r m : Nat} {R : zP2} {E : List Nat} (h : zRows G σ r m R E) : zM G yX9_parts kX9_parts [.ref r] σ nx (fun v σ' nx' => v = some (.int (nI E.length)) ∧ σ' = σ ∧ nx' = nx) := by
  refine zM.of (ls := [some (.ref r)]) (by decide +kernel) ⟨rfl, rfl, rfl⟩ (Nat.le_of_ble_eq_true rfl) (fun _ h => h) ?_
  obtain ⟨kf, vf, ef, h1, h2, h3, h4, h5, h6, h7, h8, h9⟩ := h
  refine z_aload_n dX9_parts_0 rfl ?_
  refine z_getf dX9_parts_1 fl_X9_33 h1 rfl ?_
  exact z_iret dX9_parts_4 rfl (Nat.le_of_ble_eq_true rfl) (Nat.le_of_ble_eq_true rfl) ⟨rfl, rfl, rfl⟩
theorem zR_lt {α : Type} {l : List α} {i : Nat} {q : α} (h : l[i]? = some q) : i < l.length := (List.getElem?_eq_some_iff.mp h).1
set_option maxRecDepth 100000 in
theorem c_X9_end {G : zG} {σ : zH} {nx r m j e : Nat} {R : zP2} {E : List Nat} (h : zRows G σ r m R E) (hj : E[j]? = some e) : zM G yX9_end kX9_end [.ref r, .int (nI j)] σ nx (fun v σ' nx' => v = some (.int (nI e)) ∧ σ' = σ ∧ nx' = nx) := by
  refine zM.of (ls := [some (.ref r), some (.int (nI j))]) (by decide +kernel) ⟨rfl, rfl, rfl⟩ (Nat.le_of_ble_eq_true rfl) (fun _ h => h) ?_
  obtain ⟨kf, vf, ef, h1, h2, h3, h4, h5, h6, h7, h8, h9⟩ := h
  have hl := zR_lt hj
  refine z_aload_n dX9_end_0 rfl ?_
  refine z_getf dX9_end_1 fl_X9_27 h1 rfl ?_
  refine z_iload_n dX9_end_4 rfl ?_
  refine z_callV dX9_end_5 cv_X9_36 (c_X4_at h4 (by omega)) rfl h4.1 rfl rfl ⟨(Nat.le_of_ble_eq_true rfl), (Nat.le_of_ble_eq_true rfl)⟩ (Nat.le_of_ble_eq_true rfl) (Nat.le_of_ble_eq_true rfl) (Nat.le_of_ble_eq_true rfl) (fun v σ1 nx1 hx1 hq1 => ?_)
  obtain ⟨rfl, rfl, rfl⟩ := hq1
  exact z_iret dX9_end_8 rfl (Nat.le_of_ble_eq_true rfl) (Nat.le_of_ble_eq_true rfl) ⟨by rw [zrd_nI (by omega) (by omega), h6 j e hj], rfl, rfl⟩
set_option maxRecDepth 100000 in
theorem c_X9_begin {G : zG} {σ : zH} {nx r m j : Nat} {R : zP2} {E : List Nat} (h : zRows G σ r m R E) (hj : j ≤ E.length) : zM G yX9_begin kX9_begin [.ref r, .int (nI j)] σ nx (fun v σ' nx' => v = some (.int (nI (zbeg E j))) ∧ σ' = σ ∧ nx' = nx) := by
  refine zM.of (ls := [some (.ref r), some (.int (nI j))]) (by decide +kernel) ⟨rfl, rfl, rfl⟩ (Nat.le_of_ble_eq_true rfl) (fun _ h => h) ?_
  obtain ⟨kf, vf, ef, h1, h2, h3, h4, h5, h6, h7, h8, h9⟩ := h
  refine z_aload_n dX9_begin_0 rfl ?_
  refine z_getf dX9_begin_1 fl_X9_27 h1 rfl ?_
  refine z_iload_n dX9_begin_4 rfl ?_
  refine z_iconst (v := 1) dX9_begin_5 (by decide) ?_
  refine z_isub dX9_begin_6 ?_
  refine z_callV dX9_begin_7 cv_X9_36 (c_X4_at h4 (by omega)) rfl h4.1 rfl rfl ⟨(Nat.le_of_ble_eq_true rfl), (Nat.le_of_ble_eq_true rfl)⟩ (Nat.le_of_ble_eq_true rfl) (Nat.le_of_ble_eq_true rfl) (Nat.le_of_ble_eq_true rfl) (fun v σ1 nx1 hx1 hq1 => ?_)
  obtain ⟨rfl, rfl, rfl⟩ := hq1
  have e9 : zrd ef 8 (nI j - 1) = nI (zbeg E j) := by
    rcases Nat.eq_zero_or_pos j with e | e
    · subst e
      rw [zrd_neg (by decide)]
      rfl
    · obtain ⟨i, rfl⟩ : ∃ i, j = i + 1 := ⟨j - 1, by omega⟩
      rw [nI_pred, zrd_nI (by omega) (by omega), h6 i (E[i]'(by omega)) (List.getElem?_eq_getElem _)]
      simp [zbeg, show i < E.length by omega]
  exact z_iret dX9_begin_10 rfl (Nat.le_of_ble_eq_true rfl) (Nat.le_of_ble_eq_true rfl) ⟨by rw [e9], rfl, rfl⟩
set_option maxRecDepth 100000 in
theorem c_X9_sizeOf {G : zG} {σ : zH} {nx r m j e : Nat} {R : zP2} {E : List Nat} (h : zRows G σ r m R E) (hj : E[j]? = some e) (hm : zbeg E j ≤ e) : zM G yX9_sizeOf kX9_sizeOf [.ref r, .int (nI j)] σ nx (fun v σ' nx' => v = some (.int (nI (e - zbeg E j))) ∧ σ' = σ ∧ nx' = nx) := by
  refine zM.of (ls := [some (.ref r), some (.int (nI j))]) (by decide +kernel) ⟨rfl, rfl, rfl⟩ (Nat.le_of_ble_eq_true rfl) (fun _ h => h) ?_
  have hr : σ r = some (zRC r m R.length E.length) := by obtain ⟨_, _, _, h1, _⟩ := h; exact h1
  have hl := zR_lt hj
  refine z_aload_n dX9_sizeOf_0 rfl ?_
  refine z_iload_n dX9_sizeOf_1 rfl ?_
  refine z_callV dX9_sizeOf_2 cv_X9_40 (c_X9_end h hj) rfl hr rfl rfl ⟨(Nat.le_of_ble_eq_true rfl), (Nat.le_of_ble_eq_true rfl)⟩ (Nat.le_of_ble_eq_true rfl) (Nat.le_of_ble_eq_true rfl) (Nat.le_of_ble_eq_true rfl) (fun v σ1 nx1 hx1 hq1 => ?_)
  obtain ⟨rfl, rfl, rfl⟩ := hq1
  refine z_aload_n dX9_sizeOf_5 rfl ?_
  refine z_iload_n dX9_sizeOf_6 rfl ?_
  refine z_callV dX9_sizeOf_7 cv_X9_43 (c_X9_begin h (by omega)) rfl hr rfl rfl ⟨(Nat.le_of_ble_eq_true rfl), (Nat.le_of_ble_eq_true rfl)⟩ (Nat.le_of_ble_eq_true rfl) (Nat.le_of_ble_eq_true rfl) (Nat.le_of_ble_eq_true rfl) (fun v σ1 nx1 hx1 hq1 => ?_)
  obtain ⟨rfl, rfl, rfl⟩ := hq1
  refine z_isub dX9_sizeOf_10 ?_
  exact z_iret dX9_sizeOf_11 rfl (Nat.le_of_ble_eq_true rfl) (Nat.le_of_ble_eq_true rfl) ⟨by rw [pk_sub hm], rfl, rfl⟩
set_option maxRecDepth 100000 in
theorem c_X9_key {G : zG} {σ : zH} {nx r m j : Nat} {q : Int32 × Int32} {R : zP2} {E : List Nat} (h : zRows G σ r m R E) (hj : R[j]? = some q) : zM G yX9_key kX9_key [.ref r, .int (nI j)] σ nx (fun v σ' nx' => v = some (.int q.1) ∧ σ' = σ ∧ nx' = nx) := by
  refine zM.of (ls := [some (.ref r), some (.int (nI j))]) (by decide +kernel) ⟨rfl, rfl, rfl⟩ (Nat.le_of_ble_eq_true rfl) (fun _ h => h) ?_
  obtain ⟨kf, vf, ef, h1, h2, h3, h4, h5, h6, h7, h8, h9⟩ := h
  have hl := zR_lt hj
  refine z_aload_n dX9_key_0 rfl ?_
  refine z_getf dX9_key_1 fl_X9_20 h1 rfl ?_
  refine z_iload_n dX9_key_4 rfl ?_
  refine z_callV dX9_key_5 cv_X9_36 (c_X4_at h2 (by omega)) rfl h2.1 rfl rfl ⟨(Nat.le_of_ble_eq_true rfl), (Nat.le_of_ble_eq_true rfl)⟩ (Nat.le_of_ble_eq_true rfl) (Nat.le_of_ble_eq_true rfl) (Nat.le_of_ble_eq_true rfl) (fun v σ1 nx1 hx1 hq1 => ?_)
  obtain ⟨rfl, rfl, rfl⟩ := hq1
  exact z_iret dX9_key_8 rfl (Nat.le_of_ble_eq_true rfl) (Nat.le_of_ble_eq_true rfl) ⟨by rw [zrd_nI (by omega) (by omega), (h5 j q hj).1], rfl, rfl⟩
set_option maxRecDepth 100000 in
theorem c_X9_value {G : zG} {σ : zH} {nx r m j : Nat} {q : Int32 × Int32} {R : zP2} {E : List Nat} (h : zRows G σ r m R E) (hj : R[j]? = some q) : zM G yX9_value kX9_value [.ref r, .int (nI j)] σ nx (fun v σ' nx' => v = some (.int q.2) ∧ σ' = σ ∧ nx' = nx) := by
  refine zM.of (ls := [some (.ref r), some (.int (nI j))]) (by decide +kernel) ⟨rfl, rfl, rfl⟩ (Nat.le_of_ble_eq_true rfl) (fun _ h => h) ?_
  obtain ⟨kf, vf, ef, h1, h2, h3, h4, h5, h6, h7, h8, h9⟩ := h
  have hl := zR_lt hj
  refine z_aload_n dX9_value_0 rfl ?_
  refine z_getf dX9_value_1 fl_X9_24 h1 rfl ?_
  refine z_iload_n dX9_value_4 rfl ?_
  refine z_callV dX9_value_5 cv_X9_36 (c_X4_at h3 (by omega)) rfl h3.1 rfl rfl ⟨(Nat.le_of_ble_eq_true rfl), (Nat.le_of_ble_eq_true rfl)⟩ (Nat.le_of_ble_eq_true rfl) (Nat.le_of_ble_eq_true rfl) (Nat.le_of_ble_eq_true rfl) (fun v σ1 nx1 hx1 hq1 => ?_)
  obtain ⟨rfl, rfl, rfl⟩ := hq1
  exact z_iret dX9_value_8 rfl (Nat.le_of_ble_eq_true rfl) (Nat.le_of_ble_eq_true rfl) ⟨by rw [zrd_nI (by omega) (by omega), (h5 j q hj).2], rfl, rfl⟩
set_option maxRecDepth 100000 in
theorem c_X9_setValue {G : zG} {σ : zH} {nx r m j : Nat} {q : Int32 × Int32} {x : Int32} {R : zP2} {E : List Nat} (h : zRows G σ r m R E) (hj : R[j]? = some q) : zM G yX9_setValue kX9_setValue [.ref r, .int (nI j), .int x] σ nx (fun v σ' nx' => v = none ∧ zRows G σ' r m (R.set j (q.1, x)) E ∧ zFr σ σ' r 7 ∧ nx' = nx) := by
  refine zM.of (ls := [some (.ref r), some (.int (nI j)), some (.int x)]) (by decide +kernel) ⟨rfl, rfl, rfl⟩ (Nat.le_of_ble_eq_true rfl) (fun _ h => h) ?_
  obtain ⟨kf, vf, ef, h1, h2, h3, h4, h5, h6, h7, h8, h9⟩ := h
  have hl := zR_lt hj
  refine z_aload_n dX9_setValue_0 rfl ?_
  refine z_getf dX9_setValue_1 fl_X9_24 h1 rfl ?_
  refine z_iload_n dX9_setValue_4 rfl ?_
  refine z_iload_n dX9_setValue_5 rfl ?_
  refine z_callV dX9_setValue_6 cv_X9_46 (c_X4_set h3 (by omega)) rfl h3.1 rfl rfl ⟨(Nat.le_of_ble_eq_true rfl), (Nat.le_of_ble_eq_true rfl)⟩ (Nat.le_of_ble_eq_true rfl) (Nat.le_of_ble_eq_true rfl) (Nat.le_of_ble_eq_true rfl) (fun v σ1 nx1 hx1 hq1 => ?_)
  obtain ⟨rfl, g1, g2, rfl⟩ := hq1
  rw [zwr_nI (by omega) (by omega)] at g1
  refine z_vret dX9_setValue_9 rfl (Nat.le_of_ble_eq_true rfl) (Nat.le_of_ble_eq_true rfl) ⟨rfl, ⟨kf, upd vf j x, ef, by rw [List.length_set]; exact (g2 _ (by omega)).trans h1, h2.fr fun b a c => g2 b (by omega), g1, h4.fr fun b a c => g2 b (by omega), fun i z hz => ?_, h6, by rw [List.length_set]; exact h7, h8, h9⟩, fun b hb => g2 b (by omega), rfl⟩
  by_cases hi : i = j
  · subst hi
    rw [List.getElem?_set_self hl] at hz
    cases hz
    exact ⟨(h5 i q hj).1, pk_us⟩
  · rw [List.getElem?_set_ne (Ne.symm hi)] at hz
    exact ⟨(h5 i z hz).1, (pk_un hi).trans (h5 i z hz).2⟩
set_option maxRecDepth 100000 in
theorem c_X9_add {G : zG} {σ : zH} {nx r m : Nat} {x y : Int32} {R : zP2} {E : List Nat} (h : zRows G σ r m R E) (hm : R.length < m) : zM G yX9_add kX9_add [.ref r, .int x, .int y] σ nx (fun v σ' nx' => v = none ∧ zRows G σ' r m (R ++ [(x, y)]) E ∧ zFr σ σ' r 7 ∧ nx' = nx) := by
  refine zM.of (ls := [some (.ref r), some (.int x), some (.int y)]) (by decide +kernel) ⟨rfl, rfl, rfl⟩ (Nat.le_of_ble_eq_true rfl) (fun _ h => h) ?_
  obtain ⟨kf, vf, ef, h1, h2, h3, h4, h5, h6, h7, h8, h9⟩ := h
  refine z_aload_n dX9_add_0 rfl ?_
  refine z_getf dX9_add_1 fl_X9_30 h1 rfl ?_
  refine z_aload_n dX9_add_4 rfl ?_
  refine z_getf dX9_add_5 fl_X9_9 h1 rfl ?_
  refine z_icmp_ge (tgt := 45) dX9_add_8 (by decide) (fun q => absurd q (nI_ge hm (by omega))) (fun _ => ?_)
  refine z_aload_n dX9_add_11 rfl ?_
  refine z_getf dX9_add_12 fl_X9_20 h1 rfl ?_
  refine z_aload_n dX9_add_15 rfl ?_
  refine z_getf dX9_add_16 fl_X9_30 h1 rfl ?_
  refine z_iload_n dX9_add_19 rfl ?_
  refine z_callV dX9_add_20 cv_X9_46 (c_X4_set h2 (by omega)) rfl h2.1 rfl rfl ⟨(Nat.le_of_ble_eq_true rfl), (Nat.le_of_ble_eq_true rfl)⟩ (Nat.le_of_ble_eq_true rfl) (Nat.le_of_ble_eq_true rfl) (Nat.le_of_ble_eq_true rfl) (fun v σ1 nx1 hx1 hq1 => ?_)
  obtain ⟨rfl, g1, g2, rfl⟩ := hq1
  have k1 : σ1 r = some (zRC r m R.length E.length) := (g2 _ (by omega)).trans h1
  have k3 := h3.fr (σ' := σ1) fun b a c => g2 b (by omega)
  refine z_aload_n dX9_add_23 rfl ?_
  refine z_getf dX9_add_24 fl_X9_24 k1 rfl ?_
  refine z_aload_n dX9_add_27 rfl ?_
  refine z_getf dX9_add_28 fl_X9_30 k1 rfl ?_
  refine z_iload_n dX9_add_31 rfl ?_
  refine z_callV dX9_add_32 cv_X9_46 (c_X4_set k3 (by omega)) rfl k3.1 rfl rfl ⟨(Nat.le_of_ble_eq_true rfl), (Nat.le_of_ble_eq_true rfl)⟩ (Nat.le_of_ble_eq_true rfl) (Nat.le_of_ble_eq_true rfl) (Nat.le_of_ble_eq_true rfl) (fun v σ2 nx2 hx2 hq2 => ?_)
  obtain ⟨rfl, g3, g4, rfl⟩ := hq2
  have k2 : σ2 r = some (zRC r m R.length E.length) := (g4 _ (by omega)).trans k1
  refine z_aload_n dX9_add_35 rfl ?_
  refine z_dup dX9_add_36 rfl ?_
  refine z_getf dX9_add_37 fl_X9_30 k2 rfl ?_
  refine z_iconst (v := 1) dX9_add_40 (by decide) ?_
  refine z_iadd dX9_add_41 ?_
  refine z_putf dX9_add_42 fp_X9_30 k2 rfl rfl (Nat.le_of_ble_eq_true rfl) ?_
  rw [zwr_nI (by omega) (by omega)] at g1 g3
  refine z_vret dX9_add_45 rfl (Nat.le_of_ble_eq_true rfl) (Nat.le_of_ble_eq_true rfl) ⟨rfl, ⟨upd kf R.length x, upd vf R.length y, ef, ?_, (g1.fr fun b a c => g4 b (by omega)).fr fun b a c => zu_ne (by omega), g3.fr fun b a c => zu_ne (by omega), (h4.fr fun b a c => (g4 b (by omega)).trans (g2 b (by omega))).fr fun b a c => zu_ne (by omega), fun i z hz => ?_, h6, by rw [List.length_append]; exact hm, h8, h9⟩, fun b hb => (zu_ne (by omega)).trans ((g4 b (by omega)).trans (g2 b (by omega))), rfl⟩
  · rw [zu_eq, nI_1, List.length_append]
    rfl
  · by_cases hi : i < R.length
    · rw [List.getElem?_append_left hi] at hz
      exact ⟨(pk_un (by omega)).trans (h5 i z hz).1, (pk_un (by omega)).trans (h5 i z hz).2⟩
    · have hl := zR_lt hz
      rw [List.length_append] at hl
      have hi2 : i = R.length := by simp at hl; omega
      subst hi2
      rw [List.getElem?_append_right (Nat.le_refl _), Nat.sub_self] at hz
      cases hz
      exact ⟨pk_us, pk_us⟩
set_option maxRecDepth 100000 in
theorem c_X9_endPartition {G : zG} {σ : zH} {nx r m : Nat} {R : zP2} {E : List Nat} (h : zRows G σ r m R E) (hm : E.length < 8) : zM G yX9_endPartition kX9_endPartition [.ref r] σ nx (fun v σ' nx' => v = none ∧ zRows G σ' r m R (E ++ [R.length]) ∧ zFr σ σ' r 7 ∧ nx' = nx) := by
  refine zM.of (ls := [some (.ref r)]) (by decide +kernel) ⟨rfl, rfl, rfl⟩ (Nat.le_of_ble_eq_true rfl) (fun _ h => h) ?_
  obtain ⟨kf, vf, ef, h1, h2, h3, h4, h5, h6, h7, h8, h9⟩ := h
  refine z_aload_n dX9_endPartition_0 rfl ?_
  refine z_getf dX9_endPartition_1 fl_X9_27 h1 rfl ?_
  refine z_aload_n dX9_endPartition_4 rfl ?_
  refine z_getf dX9_endPartition_5 fl_X9_33 h1 rfl ?_
  refine z_aload_n dX9_endPartition_8 rfl ?_
  refine z_getf dX9_endPartition_9 fl_X9_30 h1 rfl ?_
  refine z_callV dX9_endPartition_12 cv_X9_46 (c_X4_set h4 (by omega)) rfl h4.1 rfl rfl ⟨(Nat.le_of_ble_eq_true rfl), (Nat.le_of_ble_eq_true rfl)⟩ (Nat.le_of_ble_eq_true rfl) (Nat.le_of_ble_eq_true rfl) (Nat.le_of_ble_eq_true rfl) (fun v σ1 nx1 hx1 hq1 => ?_)
  obtain ⟨rfl, g1, g2, rfl⟩ := hq1
  have k1 : σ1 r = some (zRC r m R.length E.length) := (g2 _ (by omega)).trans h1
  refine z_aload_n dX9_endPartition_15 rfl ?_
  refine z_dup dX9_endPartition_16 rfl ?_
  refine z_getf dX9_endPartition_17 fl_X9_33 k1 rfl ?_
  refine z_iconst (v := 1) dX9_endPartition_20 (by decide) ?_
  refine z_iadd dX9_endPartition_21 ?_
  refine z_putf dX9_endPartition_22 fp_X9_33 k1 rfl rfl (Nat.le_of_ble_eq_true rfl) ?_
  rw [zwr_nI (by omega) (by omega)] at g1
  refine z_vret dX9_endPartition_25 rfl (Nat.le_of_ble_eq_true rfl) (Nat.le_of_ble_eq_true rfl) ⟨rfl, ⟨kf, vf, upd ef E.length (nI R.length), ?_, (h2.fr fun b a c => g2 b (by omega)).fr fun b a c => zu_ne (by omega), (h3.fr fun b a c => g2 b (by omega)).fr fun b a c => zu_ne (by omega), g1.fr fun b a c => zu_ne (by omega), h5, fun i z hz => ?_, h7, by rw [List.length_append]; exact hm, h9⟩, fun b hb => (zu_ne (by omega)).trans (g2 b (by omega)), rfl⟩
  · rw [zu_eq, nI_1, List.length_append]
    rfl
  · by_cases hi : i < E.length
    · rw [List.getElem?_append_left hi] at hz
      exact (pk_un (by omega)).trans (h6 i z hz)
    · have hl := zR_lt hz
      rw [List.length_append] at hl
      have hi2 : i = E.length := by simp at hl; omega
      subst hi2
      rw [List.getElem?_append_right (Nat.le_refl _), Nat.sub_self] at hz
      cases hz
      exact pk_us
set_option maxRecDepth 100000 in
/-- squares: the digest of the rows -/
def zsq (R : zP2) : Int32 := R.foldl (fun s q => s + (31 * q.1 + q.2) * (31 * q.1 + q.2)) 0
theorem zsq_snoc (R : zP2) (q : Int32 × Int32) : zsq (R ++ [q]) = zsq R + (31 * q.1 + q.2) * (31 * q.1 + q.2) := by simp [zsq, List.foldl_append]
theorem ztake {α : Type} {R : List α} {i : Nat} {q : α} (h : R[i]? = some q) : R.take (i + 1) = R.take i ++ [q] := by rw [List.take_add_one, h]; rfl
set_option maxRecDepth 100000 in
theorem c_X9_squares {G : zG} {σ : zH} {nx r m : Nat} {R : zP2} {E : List Nat} (h : zRows G σ r m R E) : zM G yX9_squares kX9_squares [.ref r] σ nx (fun v σ' nx' => v = some (.int (zsq R)) ∧ σ' = σ ∧ nx' = nx) := by
  refine zM.of2 (ls := [some (.ref r), none, none, none]) (by decide +kernel) ⟨rfl, rfl, rfl⟩ (Nat.le_of_ble_eq_true rfl) (fun _ h => h) (fun Q hQ => ?_)
  obtain ⟨kf, vf, ef, h1, h2, h3, h4, h5, h6, h7, h8, h9⟩ := h
  have loop : ∀ d i : Nat, i + d = R.length → ∀ x : Option Value, zWP G kX9_squares (zFM G kX9_squares.2.2.2.1 Q) 4 [some (.ref r), some (.int (zsq (R.take i))), some (.int (nI i)), x] [] σ nx 0 0 := by
    intro d
    induction d with
    | zero =>
      intro i hi x
      refine z_iload_n dX9_squares_4 rfl ?_
      refine z_aload_n dX9_squares_5 rfl ?_
      refine z_getf dX9_squares_6 fl_X9_30 h1 rfl ?_
      refine z_icmp_ge (tgt := 45) dX9_squares_9 (by decide) (fun _ => ?_) (fun q => absurd (nI_le (by omega) (by omega)) q)
      refine z_iload_n dX9_squares_45 rfl ?_
      exact z_iret dX9_squares_46 rfl (Nat.le_of_ble_eq_true rfl) (Nat.le_of_ble_eq_true rfl) (hQ _ _ _ ⟨by rw [List.take_of_length_le (by omega)], rfl, rfl⟩)
    | succ d ih =>
      intro i hi x
      have hg : R[i]? = some (R[i]'(by omega)) := List.getElem?_eq_getElem _
      refine z_iload_n dX9_squares_4 rfl ?_
      refine z_aload_n dX9_squares_5 rfl ?_
      refine z_getf dX9_squares_6 fl_X9_30 h1 rfl ?_
      refine z_icmp_ge (tgt := 45) dX9_squares_9 (by decide) (fun q => absurd q (nI_ge (show i < R.length by omega) (by omega))) (fun _ => ?_)
      refine z_bipush (v := 31) dX9_squares_12 (by decide) ?_
      refine z_aload_n dX9_squares_14 rfl ?_
      refine z_getf dX9_squares_15 fl_X9_20 h1 rfl ?_
      refine z_iload_n dX9_squares_18 rfl ?_
      refine z_callV dX9_squares_19 cv_X9_36 (c_X4_at h2 (by omega)) rfl h2.1 rfl rfl ⟨(Nat.le_of_ble_eq_true rfl), (Nat.le_of_ble_eq_true rfl)⟩ (Nat.le_of_ble_eq_true rfl) (Nat.le_of_ble_eq_true rfl) (Nat.le_of_ble_eq_true rfl) (fun v σ1 nx1 hx1 hq1 => ?_)
      obtain ⟨rfl, rfl, rfl⟩ := hq1
      refine z_imul dX9_squares_22 ?_
      refine z_aload_n dX9_squares_23 rfl ?_
      refine z_getf dX9_squares_24 fl_X9_24 h1 rfl ?_
      refine z_iload_n dX9_squares_27 rfl ?_
      refine z_callV dX9_squares_28 cv_X9_36 (c_X4_at h3 (by omega)) rfl h3.1 rfl rfl ⟨(Nat.le_of_ble_eq_true rfl), (Nat.le_of_ble_eq_true rfl)⟩ (Nat.le_of_ble_eq_true rfl) (Nat.le_of_ble_eq_true rfl) (Nat.le_of_ble_eq_true rfl) (fun v σ1 nx1 hx1 hq1 => ?_)
      obtain ⟨rfl, rfl, rfl⟩ := hq1
      refine z_iadd dX9_squares_31 ?_
      refine z_istore_n dX9_squares_32 (by decide) ?_
      refine z_iload_n dX9_squares_33 rfl ?_
      refine z_iload_n dX9_squares_34 rfl ?_
      refine z_iload_n dX9_squares_35 rfl ?_
      refine z_imul dX9_squares_36 ?_
      refine z_iadd dX9_squares_37 ?_
      refine z_istore_n dX9_squares_38 (by decide) ?_
      refine z_inc1 dX9_squares_39 rfl (by decide) ?_
      refine z_goto (tgt := 4) dX9_squares_42 (by decide) ?_
      have e1 : zsq (R.take (i + 1)) = zsq (R.take i) + (31 * zrd kf m (nI i) + zrd vf m (nI i)) * (31 * zrd kf m (nI i) + zrd vf m (nI i)) := by
        rw [ztake hg, zsq_snoc, zrd_nI (by omega) (by omega), zrd_nI (by omega) (by omega), (h5 i _ hg).1, (h5 i _ hg).2]
      have := ih (i + 1) (by omega) (some (.int (31 * zrd kf m (nI i) + zrd vf m (nI i))))
      rw [e1] at this
      rw [nI_1]
      exact this
  refine z_iconst (v := 0) dX9_squares_0 (by decide) ?_
  refine z_istore_n dX9_squares_1 (by decide) ?_
  refine z_iconst (v := 0) dX9_squares_2 (by decide) ?_
  refine z_istore_n dX9_squares_3 (by decide) ?_
  exact loop R.length 0 (by omega) none
