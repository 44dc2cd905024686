/-! ArrayList of nodes -/
section
variable {G : zG} {k : zK} {F : zF} {pc nx ca sl : Nat} {ls : zL} {st : List Value} {σ : zH}
theorem z_eaq {a n b : Nat} {f : Nat → Option Nat} {i : Int32} (d : decode k.2.1 pc = .ok (.aaload, 1)) (hσ : σ a = some (zE G n f)) (hi : vp_in i n) (hf : f i.toNatClampNeg = some b)
    (kk : zWP G k F (pc + 1) ls (.ref b :: st) σ nx ca sl) : zWP G k F pc ls (.int i :: .ref a :: st) σ nx ca sl := by
  refine z_eald d hσ hi ?_
  rw [hf]
  exact kk
theorem z_raq {a n b : Nat} {f : Nat → Option Nat} {i : Int32} (d : decode k.2.1 pc = .ok (.aaload, 1)) (hσ : σ a = some (zR G n f)) (hi : vp_in i n) (hf : f i.toNatClampNeg = some b)
    (kk : zWP G k F (pc + 1) ls (.ref b :: st) σ nx ca sl) : zWP G k F pc ls (.int i :: .ref a :: st) σ nx ca sl := by
  refine z_rald d hσ hi ?_
  rw [hf]
  exact kk
theorem z_null (d : decode k.2.1 pc = .ok (.aconst_null, 1)) (kk : zWP G k F (pc + 1) ls (.null :: st) σ nx ca sl) : zWP G k F pc ls st σ nx ca sl := by
  intro p l e s m args below meth c A H locs la C hH hS hl
  exact lv_null C.1 C.2.1 d (kk p l e s m args below meth c A H locs la C hH hS hl)
theorem z_cast {idx b ci : Nat} {fs : List Value} {C : String} (d : decode k.2.1 pc = .ok (.checkcast idx, 3)) (hw : Cond.classLink k.1 idx C ∈ zW) (hσ : σ b = some (.inr (ci, fs))) (hci : (vwCl[ci]?).map (fun q => q.1) = some C)
    (kk : zWP G k F (pc + 3) ls (.ref b :: st) σ nx ca sl) : zWP G k F pc ls (.ref b :: st) σ nx ca sl := by
  intro p l e s m args below meth c A H locs la CC hH hS hl
  obtain ⟨hx, hb, hml, hown, hts, hK, -⟩ := id CC
  obtain ⟨ws, q0, hP, -, hq, -⟩ := hH.at hσ
  obtain ⟨r, hr1, hr2⟩ := Option.map_eq_some_iff.mp hci
  have hrv := va_recv hK hP hr1 hq
  rw [hr2] at hrv
  have hcl := (hK.1 ci r hr1).2
  rw [hr2] at hcl
  exact va_castS hx hb hown (hts _ hw) hcl hrv d (kk p l e s m args below meth c A H locs la CC hH hS hl)
/-- the ArrayList's first array, that all lists begin with -/
theorem z_dflt {idx : Nat} (d : decode k.2.1 pc = .ok (.getstatic idx, 3)) (hw : Cond.fieldLink k.1 idx RJx4a65c "DEFAULTCAPACITY_EMPTY_ELEMENTDATA" "[Ljava/lang/Object;" ∈ zW)
    (kk : zWP G k F (pc + 3) ls (.ref (G.2.2 6) :: st) σ nx ca sl) : zWP G k F pc ls st σ nx ca sl := by
  intro p l e s m args below meth c A H locs la C hH hS hl
  have K := kk p l e s m args below meth c A H locs la C hH hS hl
  obtain ⟨hx, hb, -, hown, hts, hK, hA, -, -, -, -, ho, -⟩ := id C
  exact va_gets hx hb ho.2.2.2.1 hS hown (hts _ hw) (fun _ h => h) d K
end
def zKE (G : zG) (σ σ' : zH) : Prop := ∀ b cap f, σ b = some (zE G cap f) → σ' b = σ b
def zList (G : zG) (σ : zH) (a hi : Nat) (N : List Nat) : Prop := ∃ (md : Int32) (ed : Nat), σ a = some (.inr (0, [.int md, .ref ed, .int (nI N.length)])) ∧ ((N = [] ∧ ed = G.2.2 6) ∨ ∃ (cap : Nat) (f : Nat → Option Nat), σ ed = some (zE G cap f) ∧ N.length ≤ cap ∧ (10 ≤ cap ∧ hi ≤ ed) ∧ (cap = 10 ∨ cap = 15) ∧ ∀ (i b : Nat), N[i]? = some b → f i = some b)
theorem zList.fr2 {G : zG} {σ σ' : zH} {a hi : Nat} {N : List Nat} (h : zList G σ a hi N) (ha : σ' a = σ a) (hE : ∀ b, hi ≤ b → (∃ e, σ b = some e) → σ' b = σ b) : zList G σ' a hi N := by
  obtain ⟨md, ed, h1, h2⟩ := h
  refine ⟨md, ed, ha.trans h1, ?_⟩
  rcases h2 with h2 | ⟨cap, f, h2, h3, h4, h5⟩
  · exact Or.inl h2
  · exact Or.inr ⟨cap, f, (hE _ h4.2 ⟨_, h2⟩).trans h2, h3, h4, h5⟩
theorem zList.fr {G : zG} {σ σ' : zH} {a hi : Nat} {N : List Nat} (h : zList G σ a hi N) (ha : σ' a = σ a) (hE : zKE G σ σ') : zList G σ' a hi N := by
  obtain ⟨md, ed, h1, h2⟩ := h
  refine ⟨md, ed, ha.trans h1, ?_⟩
  rcases h2 with h2 | ⟨cap, f, h2, h3⟩
  · exact Or.inl h2
  · exact Or.inr ⟨cap, f, (hE _ _ _ h2).trans h2, h3⟩
theorem zRows.E {G : zG} {σ σ' : zH} {r m : Nat} {R : zP2} {E : List Nat} (h : zRows G σ r m R E) (hf : zFr σ σ' r 7) : zKE G σ σ' := by
  intro b cap f hb
  apply hf
  obtain ⟨kf, vf, ef, h1, ⟨h2, h3⟩, ⟨h4, h5⟩, ⟨h6, h7⟩, -⟩ := h
  by_cases q : b < r ∨ r + 7 ≤ b
  · exact q
  · exfalso
    rcases (show b = r ∨ b = r + 1 ∨ b = r + 1 + 1 ∨ b = r + 3 ∨ b = r + 3 + 1 ∨ b = r + 5 ∨ b = r + 5 + 1 by omega) with e | e | e | e | e | e | e <;> subst e <;> simp_all [zRC, zE, zI]
set_option maxRecDepth 100000 in
theorem c_list_size {G : zG} {σ : zH} {nx a hi : Nat} {N : List Nat} (h : zList G σ a hi N) : zM G yJx4a65c_size_8abf5 kJx4a65c_size_8abf5 [.ref a] σ nx (fun v σ' nx' => v = some (.int (nI N.length)) ∧ σ' = σ ∧ nx' = nx) := by
  refine zM.of (ls := [some (.ref a)]) (by decide +kernel) ⟨rfl, rfl, rfl⟩ (Nat.le_of_ble_eq_true rfl) (fun _ h => h) ?_
  obtain ⟨md, ed, h1, -⟩ := h
  refine z_aload_n dJx4a65c_size_8abf5_0 rfl ?_
  refine z_getf dJx4a65c_size_8abf5_1 fl_Jx4a65c_48 h1 rfl ?_
  exact z_iret dJx4a65c_size_8abf5_4 rfl (Nat.le_of_ble_eq_true rfl) (Nat.le_of_ble_eq_true rfl) ⟨rfl, rfl, rfl⟩
set_option maxRecDepth 100000 in
theorem c_chk3 {G : zG} {σ : zH} {nx i n : Nat} (h : i < n) (hn : n < 2 ^ 31) : zM G yJ3_checkIndex_8e157 kJ3_checkIndex_8e157 [.int (nI i), .int (nI n), .null] σ nx (fun v σ' nx' => v = some (.int (nI i)) ∧ σ' = σ ∧ nx' = nx) := by
  refine zM.of (ls := [some (.int (nI i)), some (.int (nI n)), some .null]) (by decide +kernel) ⟨rfl, rfl, rfl⟩ (Nat.le_of_ble_eq_true rfl) (fun _ h => h) ?_
  refine z_iload_n dJ3_checkIndex_8e157_0 rfl ?_
  refine z_if_lt (tgt := 9) dJ3_checkIndex_8e157_1 (by decide) (fun q => absurd q (nI_pos (show i < 2 ^ 31 by omega))) (fun _ => ?_)
  refine z_iload_n dJ3_checkIndex_8e157_4 rfl ?_
  refine z_iload_n dJ3_checkIndex_8e157_5 rfl ?_
  refine z_icmp_lt (tgt := 16) dJ3_checkIndex_8e157_6 (by decide) (fun _ => ?_) (fun q => absurd (nI_lt h hn) q)
  refine z_iload_n dJ3_checkIndex_8e157_16 rfl ?_
  exact z_iret dJ3_checkIndex_8e157_17 rfl (Nat.le_of_ble_eq_true rfl) (Nat.le_of_ble_eq_true rfl) ⟨rfl, rfl, rfl⟩
set_option maxRecDepth 100000 in
theorem c_chk {G : zG} {σ : zH} {nx i n : Nat} (h : i < n) (hn : n < 2 ^ 31) : zM G yJ15_checkIndex_7cf53 kJ15_checkIndex_7cf53 [.int (nI i), .int (nI n)] σ nx (fun v σ' nx' => v = some (.int (nI i)) ∧ σ' = σ ∧ nx' = nx) := by
  refine zM.of (ls := [some (.int (nI i)), some (.int (nI n))]) (by decide +kernel) ⟨rfl, rfl, rfl⟩ (Nat.le_of_ble_eq_true rfl) (fun _ h => h) ?_
  refine z_iload_n dJ15_checkIndex_7cf53_0 rfl ?_
  refine z_iload_n dJ15_checkIndex_7cf53_1 rfl ?_
  refine z_null dJ15_checkIndex_7cf53_2 ?_
  refine z_callS dJ15_checkIndex_7cf53_3 cv_J15_105 (c_chk3 h hn) rfl rfl ⟨(Nat.le_of_ble_eq_true rfl), (Nat.le_of_ble_eq_true rfl)⟩ (Nat.le_of_ble_eq_true rfl) (Nat.le_of_ble_eq_true rfl) (Nat.le_of_ble_eq_true rfl) (fun v σ1 nx1 hx1 hq1 => ?_)
  obtain ⟨rfl, rfl, rfl⟩ := hq1
  exact z_iret dJ15_checkIndex_7cf53_6 rfl (Nat.le_of_ble_eq_true rfl) (Nat.le_of_ble_eq_true rfl) ⟨rfl, rfl, rfl⟩
set_option maxRecDepth 100000 in
theorem c_elementData {G : zG} {σ : zH} {nx a i b hi : Nat} {N : List Nat} (h : zList G σ a hi N) (hib : N[i]? = some b) : zM G yJx4a65c_elementData_915e3 kJx4a65c_elementData_915e3 [.ref a, .int (nI i)] σ nx (fun v σ' nx' => v = some (.ref b) ∧ σ' = σ ∧ nx' = nx) := by
  refine zM.of (ls := [some (.ref a), some (.int (nI i))]) (by decide +kernel) ⟨rfl, rfl, rfl⟩ (Nat.le_of_ble_eq_true rfl) (fun _ h => h) ?_
  obtain ⟨md, ed, h1, ⟨rfl, -⟩ | ⟨cap, f, h2, h3, h4, h5, h6⟩⟩ := h
  · simp at hib
  · have hl := zR_lt hib
    refine z_aload_n dJx4a65c_elementData_915e3_0 rfl ?_
    refine z_getf dJx4a65c_elementData_915e3_1 fl_Jx4a65c_9 h1 rfl ?_
    refine z_iload_n dJx4a65c_elementData_915e3_4 rfl ?_
    refine z_eaq dJx4a65c_elementData_915e3_5 h2 (vp_in_nI (by omega) (by omega)) (by rw [nI_clamp (by omega)]; exact h6 i b hib) ?_
    exact z_aret dJx4a65c_elementData_915e3_6 rfl (Or.inl ⟨_, rfl⟩) (Nat.le_of_ble_eq_true rfl) (Nat.le_of_ble_eq_true rfl) ⟨rfl, rfl, rfl⟩
set_option maxRecDepth 100000 in
theorem c_list_get {G : zG} {σ : zH} {nx a i b hi : Nat} {N : List Nat} (h : zList G σ a hi N) (hib : N[i]? = some b) (hN : N.length ≤ 14) : zM G yJx4a65c_get_915e3 kJx4a65c_get_915e3 [.ref a, .int (nI i)] σ nx (fun v σ' nx' => v = some (.ref b) ∧ σ' = σ ∧ nx' = nx) := by
  refine zM.of (ls := [some (.ref a), some (.int (nI i))]) (by decide +kernel) ⟨rfl, rfl, rfl⟩ (Nat.le_of_ble_eq_true rfl) (fun _ h => h) ?_
  have hl := zR_lt hib
  obtain ⟨md, ed, h1, -⟩ := id h
  refine z_iload_n dJx4a65c_get_915e3_0 rfl ?_
  refine z_aload_n dJx4a65c_get_915e3_1 rfl ?_
  refine z_getf dJx4a65c_get_915e3_2 fl_Jx4a65c_48 h1 rfl ?_
  refine z_callS dJx4a65c_get_915e3_5 cv_Jx4a65c_118 (c_chk hl (by omega)) rfl rfl ⟨(Nat.le_of_ble_eq_true rfl), (Nat.le_of_ble_eq_true rfl)⟩ (Nat.le_of_ble_eq_true rfl) (Nat.le_of_ble_eq_true rfl) (Nat.le_of_ble_eq_true rfl) (fun v σ1 nx1 hx1 hq1 => ?_)
  obtain ⟨rfl, rfl, rfl⟩ := hq1
  refine z_pop dJx4a65c_get_915e3_8 rfl ?_
  refine z_aload_n dJx4a65c_get_915e3_9 rfl ?_
  refine z_iload_n dJx4a65c_get_915e3_10 rfl ?_
  refine z_callV dJx4a65c_get_915e3_11 cv_Jx4a65c_123 (c_elementData h hib) rfl h1 rfl rfl ⟨(Nat.le_of_ble_eq_true rfl), (Nat.le_of_ble_eq_true rfl)⟩ (Nat.le_of_ble_eq_true rfl) (Nat.le_of_ble_eq_true rfl) (Nat.le_of_ble_eq_true rfl) (fun v σ1 nx1 hx1 hq1 => ?_)
  obtain ⟨rfl, rfl, rfl⟩ := hq1
  exact z_aret dJx4a65c_get_915e3_14 rfl (Or.inl ⟨_, rfl⟩) (Nat.le_of_ble_eq_true rfl) (Nat.le_of_ble_eq_true rfl) ⟨rfl, rfl, rfl⟩
/-! ArrayList.add -/
set_option maxRecDepth 100000 in
theorem c_newLength {G : zG} {σ : zH} {nx : Nat} : zM G yJ8_newLength_cabcc kJ8_newLength_cabcc [.int (nI 10), .int (nI 1), .int (nI 5)] σ nx (fun v σ' nx' => v = some (.int (nI 15)) ∧ σ' = σ ∧ nx' = nx) := by
  refine zM.of (ls := [some (.int (nI 10)), some (.int (nI 1)), some (.int (nI 5)), none]) (by decide +kernel) ⟨rfl, rfl, rfl⟩ (Nat.le_of_ble_eq_true rfl) (fun _ h => h) ?_
  refine z_iload_n dJ8_newLength_cabcc_0 rfl ?_
  refine z_iload_n dJ8_newLength_cabcc_1 rfl ?_
  refine z_iload_n dJ8_newLength_cabcc_2 rfl ?_
  refine z_callS dJ8_newLength_cabcc_3 cv_J8_194 c_max rfl rfl ⟨(Nat.le_of_ble_eq_true rfl), (Nat.le_of_ble_eq_true rfl)⟩ (Nat.le_of_ble_eq_true rfl) (Nat.le_of_ble_eq_true rfl) (Nat.le_of_ble_eq_true rfl) (fun v σ1 nx1 hx1 hq1 => ?_)
  obtain ⟨rfl, rfl, rfl⟩ := hq1
  rw [if_pos (nI_lt (show 1 < 5 by decide) (by decide))]
  refine z_iadd dJ8_newLength_cabcc_6 ?_
  rw [nI_add]
  refine z_istore_n dJ8_newLength_cabcc_7 (by decide) ?_
  refine z_iconst (v := 0) dJ8_newLength_cabcc_8 (by decide) ?_
  refine z_iload_n dJ8_newLength_cabcc_9 rfl ?_
  refine z_icmp_ge (tgt := 21) dJ8_newLength_cabcc_10 (by decide) (fun q => absurd q ((by decide))) (fun _ => ?_)
  refine z_iload_n dJ8_newLength_cabcc_13 rfl ?_
  refine z_ldc dJ8_newLength_cabcc_14 lc_J8_200 ?_
  refine z_icmp_gt (tgt := 21) dJ8_newLength_cabcc_16 (by decide) (fun q => absurd q ((by decide))) (fun _ => ?_)
  refine z_iload_n dJ8_newLength_cabcc_19 rfl ?_
  exact z_iret dJ8_newLength_cabcc_20 rfl (Nat.le_of_ble_eq_true rfl) (Nat.le_of_ble_eq_true rfl) ⟨rfl, rfl, rfl⟩
set_option maxRecDepth 100000 in
theorem c_copyOf3 {G : zG} {σ : zH} {nx ed : Nat} {f : Nat → Option Nat} (h : σ ed = some (zE G 10 f)) (hf : ∀ i y, f i = some y → i < 10 → ∃ fs, σ y = some (.inr (7, fs))) (hd : ∀ a e, σ a = some e → a < nx) : zM G yJ7_copyOf_6403c kJ7_copyOf_6403c [.ref ed, .int (nI 15), .ref (G.2.2 7)] σ nx (fun v σ' nx' => v = some (.ref nx) ∧ (∃ g, σ' nx = some (zE G 15 g) ∧ ∀ i, i < 10 → g i = f i) ∧ (∀ x, x ≠ nx → σ' x = σ x) ∧ nx + 1 ≤ nx') := by
  refine zM.of2 (ls := [some (.ref ed), some (.int (nI 15)), some (.ref (G.2.2 7)), none]) (by decide +kernel) ⟨rfl, rfl, rfl⟩ (Nat.le_of_ble_eq_true rfl) (fun _ h => h) (fun Q hQ => ?_)
  have hne : ed ≠ nx := fun e => by have := hd ed _ h; omega
  refine z_aload_n dJ7_copyOf_6403c_0 rfl ?_
  refine z_ldcM dJ7_copyOf_6403c_1 (zW_in (zTp3 (i := 153) rfl) rfl) ?_
  refine z_racmp_ne (tgt := 13) dJ7_copyOf_6403c_3 (by decide) (fun q => absurd (rfl) q) (fun _ => ?_)
  refine z_iload_n dJ7_copyOf_6403c_6 rfl ?_
  refine z_anew (t0 := 4) (N := 15) dJ7_copyOf_6403c_7 (zW_in (zTp3 (i := 155) rfl) rfl) rfl (Or.inr rfl) (nI_pos (by decide)) (nI_clamp (by decide)) (by decide) (Nat.le_of_ble_eq_true rfl) (Nat.le_of_ble_eq_true rfl) ?_
  refine z_goto (tgt := 24) dJ7_copyOf_6403c_10 (by decide) ?_
  refine z_astore_n dJ7_copyOf_6403c_24 (by decide) ?_
  refine z_aload_n dJ7_copyOf_6403c_25 rfl ?_
  refine z_iconst (v := 0) dJ7_copyOf_6403c_26 (by decide) ?_
  refine z_aload_n dJ7_copyOf_6403c_27 rfl ?_
  refine z_iconst (v := 0) dJ7_copyOf_6403c_28 (by decide) ?_
  refine z_aload_n dJ7_copyOf_6403c_29 rfl ?_
  refine z_alen (t0 := 4) (v := nI 10) dJ7_copyOf_6403c_30 ((zu_ne hne).trans h) rfl rfl ?_
  refine z_iload_n dJ7_copyOf_6403c_31 rfl ?_
  refine z_callS dJ7_copyOf_6403c_32 cv_J7_304 c_min rfl rfl ⟨(Nat.le_of_ble_eq_true rfl), (Nat.le_of_ble_eq_true rfl)⟩ (Nat.le_of_ble_eq_true rfl) (Nat.le_of_ble_eq_true rfl) (Nat.le_of_ble_eq_true rfl) (fun v σ1 nx1 hx1 hq1 => ?_)
  obtain ⟨rfl, rfl, rfl⟩ := hq1
  rw [if_neg (show ¬ nI 15 < nI 10 by decide)]
  refine z_copy dJ7_copyOf_6403c_35 (zW_in (zTp3 (i := 159) rfl) rfl) (zW_in (zTp3 (i := 161) rfl) rfl) (zW_in (zTp3 (i := 160) rfl) rfl) (zW_in (zTp1 (i := 27) rfl) rfl) ((zu_ne hne).trans h) (zu_eq _ _ _) (by decide) (by decide) (nI_pos (by decide)) (by decide) (by decide) (ci := 7) (r := (RX7, TX7, 15)) rfl (List.mem_filter.mpr ⟨zTp6 (i := 21) rfl, rfl⟩) (fun i hi y hy => ?_) (Nat.le_of_ble_eq_true rfl) (by decide +kernel) (fun nx' hn => ?_)
  · have hi' : i < 10 := hi
    rw [show (0 : Int32).toNatClampNeg + i = i from Nat.zero_add i] at hy
    obtain ⟨fs, q⟩ := hf i y hy hi'
    exact ⟨fs, (zu_ne (fun e => by have := hd y _ q; omega)).trans q⟩
  · refine z_aload_n dJ7_copyOf_6403c_38 rfl ?_
    refine z_aret dJ7_copyOf_6403c_39 rfl (Or.inr ⟨_, rfl⟩) (Nat.le_of_ble_eq_true rfl) (Nat.le_of_ble_eq_true rfl) (hQ _ _ _ ⟨rfl, ⟨_, zu_eq _ _ _, fun i hi => ?_⟩, fun x hx => by rw [zu_ne hx, zu_ne hx], hn⟩)
    have e0 : (0 : Int32).toNatClampNeg = 0 := by decide
    have e10 : (nI 10).toNatClampNeg = 10 := nI_clamp (by decide)
    rw [e0, e10, pk_cpy_in (Nat.zero_le _) (show i < 0 + 10 from by omega), Nat.sub_zero, Nat.zero_add]
set_option maxRecDepth 100000 in
theorem c_copyOf2 {G : zG} {σ : zH} {nx ed : Nat} {f : Nat → Option Nat} (h : σ ed = some (zE G 10 f)) (hf : ∀ i y, f i = some y → i < 10 → ∃ fs, σ y = some (.inr (7, fs))) (hd : ∀ a e, σ a = some e → a < nx) : zM G yJ7_copyOf_1904c kJ7_copyOf_1904c [.ref ed, .int (nI 15)] σ nx (fun v σ' nx' => v = some (.ref nx) ∧ (∃ g, σ' nx = some (zE G 15 g) ∧ ∀ i, i < 10 → g i = f i) ∧ (∀ x, x ≠ nx → σ' x = σ x) ∧ nx + 1 ≤ nx') := by
  refine zM.of (ls := [some (.ref ed), some (.int (nI 15))]) (by decide +kernel) ⟨rfl, rfl, rfl⟩ (Nat.le_of_ble_eq_true rfl) (fun _ h => h) ?_
  refine z_aload_n dJ7_copyOf_1904c_0 rfl ?_
  refine z_iload_n dJ7_copyOf_1904c_1 rfl ?_
  refine z_aload_n dJ7_copyOf_1904c_2 rfl ?_
  refine z_getC dJ7_copyOf_1904c_3 (zW_in (zTp3 (i := 130) rfl) rfl) (zW_in (zTp6 (i := 37) rfl) rfl) (zW_in (zTp3 (i := 131) rfl) rfl) (zW_in (zTp3 (i := 149) rfl) rfl) h (Nat.le_of_ble_eq_true rfl) (Nat.le_of_ble_eq_true rfl) ?_
  refine z_callS dJ7_copyOf_1904c_6 cv_J7_300 (c_copyOf3 h hf hd) rfl rfl ⟨(Nat.le_of_ble_eq_true rfl), (Nat.le_of_ble_eq_true rfl)⟩ (Nat.le_of_ble_eq_true rfl) (Nat.le_of_ble_eq_true rfl) (Nat.le_of_ble_eq_true rfl) (fun v σ1 nx1 hx1 hq1 => ?_)
  obtain ⟨rfl, k1, k2, k3⟩ := hq1
  refine z_aret dJ7_copyOf_1904c_9 rfl (Or.inr ⟨_, rfl⟩) (Nat.le_of_ble_eq_true rfl) (Nat.le_of_ble_eq_true rfl) ⟨rfl, k1, k2, k3⟩
/-- a list's cell and its array, with room for one more -/
def zGw (G : zG) (σ σ' : zH) (a hi nx nx' : Nat) (md : Int32) (N : List Nat) (ed : Nat) : Prop := σ' a = some (.inr (0, [.int md, .ref ed, .int (nI N.length)])) ∧ (∃ cap f, σ' ed = some (zE G cap f) ∧ N.length < cap ∧ 10 ≤ cap ∧ hi ≤ ed ∧ (cap = 10 ∨ cap = 15) ∧ ∀ (i b : Nat), N[i]? = some b → f i = some b) ∧ (∀ x, x ≠ a → x ≠ nx → σ' x = σ x) ∧ nx ≤ nx'
set_option maxRecDepth 100000 in
theorem c_grow1 {G : zG} {σ : zH} {nx a hi ed : Nat} {md : Int32} {N : List Nat} (h1 : σ a = some (.inr (0, [.int md, .ref ed, .int (nI N.length)]))) (h2 : (N = [] ∧ ed = G.2.2 6) ∨ ∃ f, σ ed = some (zE G 10 f) ∧ N.length = 10 ∧ hi ≤ ed ∧ (∀ (i b : Nat), N[i]? = some b → f i = some b)) (hN : ∀ (i b : Nat), N[i]? = some b → ∃ fs, σ b = some (.inr (7, fs))) (hd : ∀ a e, σ a = some e → a < nx) (hnx : hi ≤ nx) :
    zM G yJx4a65c_grow_92f84 kJx4a65c_grow_92f84 [.ref a, .int (nI (N.length + 1))] σ nx (fun v σ' nx' => v = some (.ref nx) ∧ zGw G σ σ' a hi nx nx' md N nx) := by
  refine zM.of2 (ls := [some (.ref a), some (.int (nI (N.length + 1))), none, none]) (by decide +kernel) ⟨rfl, rfl, rfl⟩ (Nat.le_of_ble_eq_true rfl) (fun _ h => h) (fun Q hQ => ?_)
  have hna : a ≠ nx := fun e => by have := hd a _ h1; omega
  rcases h2 with ⟨rfl, rfl⟩ | ⟨f, h2, h3, h4, h5⟩
  · refine z_aload_n dJx4a65c_grow_92f84_0 rfl ?_
    refine z_getf dJx4a65c_grow_92f84_1 fl_Jx4a65c_9 h1 rfl ?_
    refine z_alen0 dJx4a65c_grow_92f84_4 ?_
    refine z_istore_n dJx4a65c_grow_92f84_5 (by decide) ?_
    refine z_iload_n dJx4a65c_grow_92f84_6 rfl ?_
    refine z_if_gt (tgt := 20) dJx4a65c_grow_92f84_7 (by decide) (fun q => absurd q ((by decide))) (fun _ => ?_)
    refine z_aload_n dJx4a65c_grow_92f84_10 rfl ?_
    refine z_getf dJx4a65c_grow_92f84_11 fl_Jx4a65c_9 h1 rfl ?_
    refine z_dflt dJx4a65c_grow_92f84_14 (zW_in (zTp1 (i := 56) rfl) rfl) ?_
    refine z_racmp_eq (tgt := 45) dJx4a65c_grow_92f84_17 (by decide) (fun _ => ?_) (fun q => absurd (rfl) q)
    refine z_aload_n dJx4a65c_grow_92f84_45 rfl ?_
    refine z_bipush (v := 10) dJx4a65c_grow_92f84_46 (by decide) ?_
    refine z_iload_n dJx4a65c_grow_92f84_48 rfl ?_
    refine z_callS dJx4a65c_grow_92f84_49 cv_Jx4a65c_79 c_max rfl rfl ⟨(Nat.le_of_ble_eq_true rfl), (Nat.le_of_ble_eq_true rfl)⟩ (Nat.le_of_ble_eq_true rfl) (Nat.le_of_ble_eq_true rfl) (Nat.le_of_ble_eq_true rfl) (fun v σ1 nx1 hx1 hq1 => ?_)
    obtain ⟨rfl, rfl, rfl⟩ := hq1
    rw [if_neg (by decide)]
    refine z_anew (t0 := 4) (N := 10) dJx4a65c_grow_92f84_52 (zW_in (zTp3 (i := 163) rfl) rfl) rfl (Or.inr rfl) (by decide) (by decide) (by decide) (Nat.le_of_ble_eq_true rfl) (Nat.le_of_ble_eq_true rfl) ?_
    refine z_dup_x1 dJx4a65c_grow_92f84_55 rfl rfl ?_
    refine z_putf dJx4a65c_grow_92f84_56 fp_Jx4a65c_9 ((zu_ne hna).trans h1) rfl rfl (Nat.le_of_ble_eq_true rfl) ?_
    refine z_aret dJx4a65c_grow_92f84_59 rfl (Or.inr ⟨_, rfl⟩) (Nat.le_of_ble_eq_true rfl) (Nat.le_of_ble_eq_true rfl) (hQ _ _ _ ⟨rfl, zu_eq _ _ _, ⟨10, _, (zu_ne (Ne.symm hna)).trans (zu_eq _ _ _), by decide, by decide, hnx, Or.inl rfl, fun i b q => by simp at q⟩, fun x q1 q2 => by rw [zu_ne q1, zu_ne q2], by omega⟩)
  · have hde : ed ≠ nx := fun e => by have := hd ed _ h2; omega
    refine z_aload_n dJx4a65c_grow_92f84_0 rfl ?_
    refine z_getf dJx4a65c_grow_92f84_1 fl_Jx4a65c_9 h1 rfl ?_
    refine z_alen (t0 := 4) (v := nI 10) dJx4a65c_grow_92f84_4 h2 rfl rfl ?_
    refine z_istore_n dJx4a65c_grow_92f84_5 (by decide) ?_
    refine z_iload_n dJx4a65c_grow_92f84_6 rfl ?_
    refine z_if_gt (tgt := 20) dJx4a65c_grow_92f84_7 (by decide) (fun _ => ?_) (fun q => absurd ((show (0 : Int32) < nI 10 by decide)) q)
    refine z_iload_n dJx4a65c_grow_92f84_20 rfl ?_
    refine z_iload_n dJx4a65c_grow_92f84_21 rfl ?_
    refine z_iload_n dJx4a65c_grow_92f84_22 rfl ?_
    rw [h3]
    refine z_isub dJx4a65c_grow_92f84_23 ?_
    refine z_iload_n dJx4a65c_grow_92f84_24 rfl ?_
    refine z_iconst (v := 1) dJx4a65c_grow_92f84_25 (by decide) ?_
    refine z_ishr dJx4a65c_grow_92f84_26 ?_
    rw [show nI (10 + 1) - nI 10 = nI 1 from rfl, show (nI 10 : Int32) >>> ((1 : Int32) &&& 31) = nI 5 from by decide]
    refine z_callS dJx4a65c_grow_92f84_27 cv_Jx4a65c_73 c_newLength rfl rfl ⟨(Nat.le_of_ble_eq_true rfl), (Nat.le_of_ble_eq_true rfl)⟩ (Nat.le_of_ble_eq_true rfl) (Nat.le_of_ble_eq_true rfl) (Nat.le_of_ble_eq_true rfl) (fun v σ1 nx1 hx1 hq1 => ?_)
    obtain ⟨rfl, rfl, rfl⟩ := hq1
    refine z_istore_n dJx4a65c_grow_92f84_30 (by decide) ?_
    refine z_aload_n dJx4a65c_grow_92f84_31 rfl ?_
    refine z_aload_n dJx4a65c_grow_92f84_32 rfl ?_
    refine z_getf dJx4a65c_grow_92f84_33 fl_Jx4a65c_9 h1 rfl ?_
    refine z_iload_n dJx4a65c_grow_92f84_36 rfl ?_
    refine z_callS dJx4a65c_grow_92f84_37 cv_Jx4a65c_66 (c_copyOf2 h2 (fun i y q hi10 => by have hg : N[i]? = some (N[i]'(by omega)) := List.getElem?_eq_getElem _; have := h5 i _ hg; rw [q] at this; rw [Option.some.inj this]; exact hN i _ hg) hd) rfl rfl ⟨(Nat.le_of_ble_eq_true rfl), (Nat.le_of_ble_eq_true rfl)⟩ (Nat.le_of_ble_eq_true rfl) (Nat.le_of_ble_eq_true rfl) (Nat.le_of_ble_eq_true rfl) (fun v σ2 nx2 hx2 hq2 => ?_)
    obtain ⟨rfl, ⟨g, g1, g2⟩, k2, k3⟩ := hq2
    have h1' := (k2 a hna).trans h1
    refine z_dup_x1 dJx4a65c_grow_92f84_40 rfl rfl ?_
    refine z_putf dJx4a65c_grow_92f84_41 fp_Jx4a65c_9 h1' rfl rfl (Nat.le_of_ble_eq_true rfl) ?_
    refine z_aret dJx4a65c_grow_92f84_44 rfl (Or.inr ⟨_, rfl⟩) (Nat.le_of_ble_eq_true rfl) (Nat.le_of_ble_eq_true rfl) (hQ _ _ _ ⟨rfl, zu_eq _ _ _, ⟨15, g, (zu_ne (Ne.symm hna)).trans g1, by omega, by decide, hnx, Or.inr rfl, fun i b q => by have := zR_lt q; rw [g2 i (by omega)]; exact h5 i b q⟩, fun x q1 q2 => by rw [zu_ne q1, k2 x q2], by omega⟩)
set_option maxRecDepth 100000 in
theorem c_grow0 {G : zG} {σ : zH} {nx a hi ed : Nat} {md : Int32} {N : List Nat} (h1 : σ a = some (.inr (0, [.int md, .ref ed, .int (nI N.length)]))) (h2 : (N = [] ∧ ed = G.2.2 6) ∨ ∃ f, σ ed = some (zE G 10 f) ∧ N.length = 10 ∧ hi ≤ ed ∧ (∀ (i b : Nat), N[i]? = some b → f i = some b)) (hN : ∀ (i b : Nat), N[i]? = some b → ∃ fs, σ b = some (.inr (7, fs))) (hd : ∀ a e, σ a = some e → a < nx) (hnx : hi ≤ nx) :
    zM G yJx4a65c_grow_d5877 kJx4a65c_grow_d5877 [.ref a] σ nx (fun v σ' nx' => v = some (.ref nx) ∧ zGw G σ σ' a hi nx nx' md N nx) := by
  refine zM.of (ls := [some (.ref a)]) (by decide +kernel) ⟨rfl, rfl, rfl⟩ (Nat.le_of_ble_eq_true rfl) (fun _ h => h) ?_
  refine z_aload_n dJx4a65c_grow_d5877_0 rfl ?_
  refine z_aload_n dJx4a65c_grow_d5877_1 rfl ?_
  refine z_getf dJx4a65c_grow_d5877_2 fl_Jx4a65c_48 h1 rfl ?_
  refine z_iconst (v := 1) dJx4a65c_grow_d5877_5 (by decide) ?_
  refine z_iadd dJx4a65c_grow_d5877_6 ?_
  rw [nI_1]
  refine z_callV dJx4a65c_grow_d5877_7 cv_Jx4a65c_69 (c_grow1 h1 h2 hN hd hnx) rfl h1 rfl rfl ⟨(Nat.le_of_ble_eq_true rfl), (Nat.le_of_ble_eq_true rfl)⟩ (Nat.le_of_ble_eq_true rfl) (Nat.le_of_ble_eq_true rfl) (Nat.le_of_ble_eq_true rfl) (fun v σ1 nx1 hx1 hq1 => ?_)
  obtain ⟨rfl, k1⟩ := hq1
  refine z_aret dJx4a65c_grow_d5877_10 rfl (Or.inr ⟨_, rfl⟩) (Nat.le_of_ble_eq_true rfl) (Nat.le_of_ble_eq_true rfl) ⟨rfl, k1⟩
set_option maxRecDepth 100000 in
theorem c_add3 {G : zG} {σ : zH} {nx a b hi ed : Nat} {md : Int32} {N : List Nat} {fs : List Value} (h1 : σ a = some (.inr (0, [.int md, .ref ed, .int (nI N.length)]))) (h2 : (N = [] ∧ ed = G.2.2 6) ∨ ∃ (cap : Nat) (f : Nat → Option Nat), σ ed = some (zE G cap f) ∧ N.length ≤ cap ∧ (10 ≤ cap ∧ hi ≤ ed) ∧ (cap = 10 ∨ cap = 15) ∧ ∀ (i b : Nat), N[i]? = some b → f i = some b) (hb : σ b = some (.inr (7, fs))) (hlen : N.length < 14)
    (hN : ∀ (i b : Nat), N[i]? = some b → ∃ fs, σ b = some (.inr (7, fs))) (hd : ∀ a e, σ a = some e → a < nx) (hnx : hi ≤ nx) :
    zM G yJx4a65c_add_72be8 kJx4a65c_add_72be8 [.ref a, .ref b, .ref ed, .int (nI N.length)] σ nx (fun v σ' nx' => v = none ∧ zList G σ' a hi (N ++ [b]) ∧ (∀ x, x ≠ a → x < nx → ((∀ cap f, σ x ≠ some (zE G cap f)) ∨ x < hi) → σ' x = σ x) ∧ nx ≤ nx') := by
  refine zM.of2 (ls := [some (.ref a), some (.ref b), some (.ref ed), some (.int (nI N.length))]) (by decide +kernel) ⟨rfl, rfl, rfl⟩ (Nat.le_of_ble_eq_true rfl) (fun _ h => h) (fun Q hQ => ?_)
  have fin : ∀ (σ1 : zH) (nx1 ed1 cap ca sl : Nat) (f : Nat → Option Nat), σ1 a = some (.inr (0, [.int md, .ref ed1, .int (nI N.length)])) → σ1 ed1 = some (zE G cap f) → N.length < cap → 10 ≤ cap → hi ≤ ed1 → (cap = 10 ∨ cap = 15) → (∀ (i b : Nat), N[i]? = some b → f i = some b) → σ1 b = some (.inr (7, fs)) → (∀ x, x ≠ a → x < nx → x ≠ ed1 → σ1 x = σ x) → (∀ x, x < nx → ((∀ cap f, σ x ≠ some (zE G cap f)) ∨ x < hi) → x ≠ ed1) → nx ≤ nx1 → ca ≤ 1 → sl ≤ 15 →
      zWP G kJx4a65c_add_72be8 (zFM G kJx4a65c_add_72be8.2.2.2.1 Q) 11 [some (.ref a), some (.ref b), some (.ref ed1), some (.int (nI N.length))] [] σ1 nx1 ca sl := by
    intro σ1 nx1 ed1 cap ca sl f k1 k2 k3 k4 k5 k6 k7 k8 k9 k10 k11 k12 k13
    have hne : a ≠ ed1 := fun e => by subst e; rw [k1] at k2; cases k2
    refine z_aload_n dJx4a65c_add_72be8_11 rfl ?_
    refine z_iload_n dJx4a65c_add_72be8_12 rfl ?_
    refine z_aload_n dJx4a65c_add_72be8_13 rfl ?_
    refine z_east (t0 := 4) (ci := 7) (r := (RX7, TX7, 15)) dJx4a65c_add_72be8_14 k2 rfl (List.mem_filter.mpr ⟨zTp6 (i := 21) rfl, rfl⟩) k8 rfl (vp_in_nI k3 (by omega)) ?_
    refine z_aload_n dJx4a65c_add_72be8_15 rfl ?_
    refine z_iload_n dJx4a65c_add_72be8_16 rfl ?_
    refine z_iconst (v := 1) dJx4a65c_add_72be8_17 (by decide) ?_
    refine z_iadd dJx4a65c_add_72be8_18 ?_
    rw [nI_1]
    refine z_putf dJx4a65c_add_72be8_19 fp_Jx4a65c_48 ((zu_ne hne).trans k1) rfl rfl (Nat.le_of_ble_eq_true rfl) ?_
    refine z_vret dJx4a65c_add_72be8_22 rfl k12 k13 (hQ _ _ _ ⟨rfl, ⟨md, ed1, by rw [zu_eq, List.length_append]; rfl, Or.inr ⟨cap, _, (zu_ne (Ne.symm hne)).trans (zu_eq _ _ _), by rw [List.length_append, List.length_singleton]; omega, ⟨k4, k5⟩, k6, fun i y q => ?_⟩⟩, fun x q1 q2 q3 => ?_, k11⟩)
    · rw [nI_clamp (by omega)]
      by_cases hi2 : i < N.length
      · rw [List.getElem?_append_left hi2] at q
        rw [va_up_ne _ _ (by omega)]
        exact k7 i y q
      · have hl := zR_lt q
        rw [List.length_append, List.length_singleton] at hl
        have e : i = N.length := by omega
        subst e
        rw [List.getElem?_append_right (Nat.le_refl _), Nat.sub_self] at q
        cases q
        exact va_up_self _ _ _
    · rw [zu_ne q1, zu_ne (k10 x q2 q3)]; exact k9 x q1 q2 (k10 x q2 q3)
  have gr : (N = [] ∧ ed = G.2.2 6) ∨ (∃ f, σ ed = some (zE G 10 f) ∧ N.length = 10 ∧ hi ≤ ed ∧ (∀ (i b : Nat), N[i]? = some b → f i = some b)) → ∀ ca sl, ca = 0 → sl = 0 → zWP G kJx4a65c_add_72be8 (zFM G kJx4a65c_add_72be8.2.2.2.1 Q) 6 [some (.ref a), some (.ref b), some (.ref ed), some (.int (nI N.length))] [] σ nx ca sl := by
    rintro hh ca sl rfl rfl
    refine z_aload_n dJx4a65c_add_72be8_6 rfl ?_
    refine z_callV dJx4a65c_add_72be8_7 cv_Jx4a65c_129 (c_grow0 h1 hh hN hd hnx) rfl h1 rfl rfl ⟨(Nat.le_of_ble_eq_true rfl), (Nat.le_of_ble_eq_true rfl)⟩ (Nat.le_of_ble_eq_true rfl) (Nat.le_of_ble_eq_true rfl) (Nat.le_of_ble_eq_true rfl) (fun v σ1 nx1 hx1 hq1 => ?_)
    obtain ⟨rfl, k1, ⟨cap, f, k2, k3, k4, k5, k6, k7⟩, k8, k9⟩ := hq1
    have hba : b ≠ a := fun e => by subst e; rw [h1] at hb; cases hb
    have hbn := hd b _ hb
    refine z_astore_n dJx4a65c_add_72be8_10 (by decide) ?_
    exact fin σ1 nx1 nx cap _ _ f k1 k2 k3 k4 k5 k6 k7 ((k8 b hba (by omega)).trans hb) (fun x q1 q2 q3 => k8 x q1 q3) (fun x q1 _ => by omega) k9 (Nat.le_of_ble_eq_true rfl) (Nat.le_of_ble_eq_true rfl)
  rcases h2 with ⟨rfl, rfl⟩ | ⟨cap, f, h2, h3, ⟨h4, h5⟩, h6, h7⟩
  · refine z_iload_n dJx4a65c_add_72be8_0 rfl ?_
    refine z_aload_n dJx4a65c_add_72be8_1 rfl ?_
    refine z_alen0 dJx4a65c_add_72be8_2 ?_
    refine z_icmp_ne (tgt := 11) dJx4a65c_add_72be8_3 (by decide) (fun q => absurd (rfl) q) (fun _ => ?_)
    exact gr (Or.inl ⟨rfl, rfl⟩) _ _ rfl rfl
  · have hbn := hd b _ hb
    refine z_iload_n dJx4a65c_add_72be8_0 rfl ?_
    refine z_aload_n dJx4a65c_add_72be8_1 rfl ?_
    refine z_alen (t0 := 4) (v := nI cap) dJx4a65c_add_72be8_2 h2 rfl rfl ?_
    by_cases e : N.length = cap
    · have e10 : cap = 10 := by
        rcases h6 with e2 | e2
        · exact e2
        · omega
      subst e10
      refine z_icmp_ne (tgt := 11) dJx4a65c_add_72be8_3 (by decide) (fun q => absurd ((by rw [e])) q) (fun _ => ?_)
      exact gr (Or.inr ⟨f, h2, e, h5, h7⟩) _ _ rfl rfl
    · refine z_icmp_ne (tgt := 11) dJx4a65c_add_72be8_3 (by decide) (fun _ => ?_) (fun q => absurd q ((fun q => e ((nI_eq (by omega) (by omega)).mp q))))
      exact fin σ nx ed cap _ _ f h1 h2 (by omega) h4 h5 h6 h7 hb (fun _ _ _ _ => rfl) (fun x q1 q2 e => by subst e; exact q2.elim (fun q2 => q2 _ _ h2) fun q2 => by omega) (Nat.le_refl _) (Nat.zero_le _) (Nat.zero_le _)
theorem zFi_mod : zFi RJx4a65c "java/util/ArrayList" 63 0 0 .int := ⟨RJx4a65c, TJx4a65c, 3, tyJx4a65c, rfl, by decide, (zW_in (zTp1 (i := 61) rfl) rfl), (zW_in (zTp1 (i := 62) rfl) rfl), zws_Jx4a65c, tyJx4a65c_ok, nmJx4a65c, rfl, rfl⟩
theorem zFp_mod : zFp RJxc12de 7 0 0 .int := ⟨RJx4a65c, TJx4a65c, 3, tyJx4a65c, rfl, by decide, Or.inl (zW_in (zTp1 (i := 60) rfl) rfl), zws_Jx4a65c, tyJx4a65c_ok, nmJx4a65c, rfl, rfl⟩
set_option maxRecDepth 100000 in
theorem c_list_add {G : zG} {σ : zH} {nx a b hi : Nat} {N : List Nat} {fs : List Value} (h : zList G σ a hi N) (hb : σ b = some (.inr (7, fs))) (hlen : N.length < 14) (hnx : hi ≤ nx) (hN : ∀ (i b : Nat), N[i]? = some b → ∃ fs, σ b = some (.inr (7, fs))) (hd : ∀ a e, σ a = some e → a < nx) : zM G yJx4a65c_add_9ea2d kJx4a65c_add_9ea2d [.ref a, .ref b] σ nx (fun v σ' nx' => v = some (.int 1) ∧ zList G σ' a hi (N ++ [b]) ∧ (∀ x, x ≠ a → x < nx → ((∀ cap f, σ x ≠ some (zE G cap f)) ∨ x < hi) → σ' x = σ x) ∧ nx ≤ nx') := by
  refine zM.of (ls := [some (.ref a), some (.ref b)]) (by decide +kernel) ⟨rfl, rfl, rfl⟩ (Nat.le_of_ble_eq_true rfl) (fun _ h => h) ?_
  obtain ⟨md, ed, h1, h2⟩ := h
  have hba : b ≠ a := fun e => by subst e; rw [h1] at hb; cases hb
  refine z_aload_n dJx4a65c_add_9ea2d_0 rfl ?_
  refine z_dup dJx4a65c_add_9ea2d_1 rfl ?_
  refine z_getfI dJx4a65c_add_9ea2d_2 zFi_mod h1 rfl ?_
  refine z_iconst (v := 1) dJx4a65c_add_9ea2d_5 (by decide) ?_
  refine z_iadd dJx4a65c_add_9ea2d_6 ?_
  refine z_putfI dJx4a65c_add_9ea2d_7 zFi_mod h1 rfl rfl (Nat.le_of_ble_eq_true rfl) ?_
  have k1 : zu σ a (.inr (0, [Value.int md, .ref ed, .int (nI N.length)].set 0 (.int (md + 1)))) a = some (.inr (0, [.int (md + 1), .ref ed, .int (nI N.length)])) := zu_eq _ _ _
  obtain ⟨σ1, e1⟩ : ∃ z, z = zu σ a (.inr (0, [Value.int md, .ref ed, .int (nI N.length)].set 0 (.int (md + 1)))) := ⟨_, rfl⟩
  rw [← e1] at k1
  rw [← e1]
  have k2 : ∀ x, x ≠ a → σ1 x = σ x := fun x hx => by rw [e1]; exact zu_ne hx
  have hde : ∀ cap f, σ ed = some (zE G cap f) → ed ≠ a := fun cap f q e => by subst e; rw [h1] at q; cases q
  refine z_aload_n dJx4a65c_add_9ea2d_10 rfl ?_
  refine z_aload_n dJx4a65c_add_9ea2d_11 rfl ?_
  refine z_aload_n dJx4a65c_add_9ea2d_12 rfl ?_
  refine z_getf dJx4a65c_add_9ea2d_13 fl_Jx4a65c_9 k1 rfl ?_
  refine z_aload_n dJx4a65c_add_9ea2d_16 rfl ?_
  refine z_getf dJx4a65c_add_9ea2d_17 fl_Jx4a65c_48 k1 rfl ?_
  refine z_callV dJx4a65c_add_9ea2d_20 cv_Jx4a65c_131 (c_add3 (hi := hi) (fs := fs) k1 (h2.imp id fun ⟨cap, f, q1, q2⟩ => ⟨cap, f, (k2 _ (hde _ _ q1)).trans q1, q2⟩) ((k2 b hba).trans hb) hlen (fun i y q => by obtain ⟨fs, q⟩ := hN i y q; exact ⟨fs, (k2 y (fun e => by subst e; rw [h1] at q; cases q)).trans q⟩) (fun x e q => by by_cases z : x = a; · { subst z; exact hd x _ h1 }; · { rw [k2 x z] at q; exact hd x e q }) hnx) rfl k1 rfl rfl ⟨(Nat.le_of_ble_eq_true rfl), (Nat.le_of_ble_eq_true rfl)⟩ (Nat.le_of_ble_eq_true rfl) (Nat.le_of_ble_eq_true rfl) (Nat.le_of_ble_eq_true rfl) (fun v σ2 nx2 hx2 hq2 => ?_)
  obtain ⟨rfl, g1, g2, g3⟩ := hq2
  refine z_iconst (v := 1) dJx4a65c_add_9ea2d_23 (by decide) ?_
  exact z_zret dJx4a65c_add_9ea2d_24 rfl rfl (Nat.le_of_ble_eq_true rfl) (Nat.le_of_ble_eq_true rfl) ⟨rfl, g1, fun x q1 q2 q3 => (g2 x q1 q2 (q3.imp (fun q3 cap f q => q3 cap f (by rw [k2 x q1] at q; exact q)) id)).trans (k2 x q1), g3⟩
set_option maxRecDepth 100000 in
theorem c_acol_init {G : zG} {σ : zH} {nx a : Nat} : zM G yJxa1e45_init_da8c8 kJxa1e45_init_da8c8 [.ref a] σ nx (fun v σ' nx' => v = none ∧ σ' = σ ∧ nx' = nx) := by
  refine zM.of (ls := [some (.ref a)]) (by decide +kernel) ⟨rfl, rfl, rfl⟩ (Nat.le_of_ble_eq_true rfl) (fun _ h => h) ?_
  refine z_aload_n dJxa1e45_init_da8c8_0 rfl ?_
  refine z_objInit dJxa1e45_init_da8c8_1 cv_Jxa1e45_1 (Nat.le_of_ble_eq_true rfl) (Nat.le_of_ble_eq_true rfl) ?_
  exact z_vret dJxa1e45_init_da8c8_4 rfl (Nat.le_of_ble_eq_true rfl) (Nat.le_of_ble_eq_true rfl) ⟨rfl, rfl, rfl⟩
set_option maxRecDepth 100000 in
theorem c_alist_init {G : zG} {σ : zH} {nx a : Nat} {md : Int32} {x y : Value} (h : σ a = some (.inr (0, [.int md, x, y]))) : zM G yJxc12de_init_da8c8 kJxc12de_init_da8c8 [.ref a] σ nx (fun v σ' nx' => v = none ∧ σ' = zu σ a (.inr (0, [.int 0, x, y])) ∧ nx' = nx) := by
  refine zM.of (ls := [some (.ref a)]) (by decide +kernel) ⟨rfl, rfl, rfl⟩ (Nat.le_of_ble_eq_true rfl) (fun _ h => h) ?_
  refine z_aload_n dJxc12de_init_da8c8_0 rfl ?_
  refine z_callI dJxc12de_init_da8c8_1 cv_Jxc12de_1 c_acol_init rfl rfl ⟨(Nat.le_of_ble_eq_true rfl), (Nat.le_of_ble_eq_true rfl)⟩ (Nat.le_of_ble_eq_true rfl) (Nat.le_of_ble_eq_true rfl) (Nat.le_of_ble_eq_true rfl) (fun v σ1 nx1 hx1 hq1 => ?_)
  obtain ⟨rfl, rfl, rfl⟩ := hq1
  refine z_aload_n dJxc12de_init_da8c8_4 rfl ?_
  refine z_iconst (v := 0) dJxc12de_init_da8c8_5 (by decide) ?_
  refine z_putf dJxc12de_init_da8c8_6 zFp_mod h rfl rfl (Nat.le_of_ble_eq_true rfl) ?_
  exact z_vret dJxc12de_init_da8c8_9 rfl (Nat.le_of_ble_eq_true rfl) (Nat.le_of_ble_eq_true rfl) ⟨rfl, rfl, rfl⟩
set_option maxRecDepth 100000 in
theorem c_list_init {G : zG} {σ : zH} {nx a hi : Nat} {md : Int32} {x : Value} (h : σ a = some (.inr (0, [.int md, x, .int 0]))) : zM G yJx4a65c_init_da8c8 kJx4a65c_init_da8c8 [.ref a] σ nx (fun v σ' nx' => v = none ∧ zList G σ' a hi [] ∧ (∀ x, x ≠ a → σ' x = σ x) ∧ nx' = nx) := by
  refine zM.of (ls := [some (.ref a)]) (by decide +kernel) ⟨rfl, rfl, rfl⟩ (Nat.le_of_ble_eq_true rfl) (fun _ h => h) ?_
  refine z_aload_n dJx4a65c_init_da8c8_0 rfl ?_
  refine z_callI dJx4a65c_init_da8c8_1 cv_Jx4a65c_1 (c_alist_init h) rfl rfl ⟨(Nat.le_of_ble_eq_true rfl), (Nat.le_of_ble_eq_true rfl)⟩ (Nat.le_of_ble_eq_true rfl) (Nat.le_of_ble_eq_true rfl) (Nat.le_of_ble_eq_true rfl) (fun v σ1 nx1 hx1 hq1 => ?_)
  obtain ⟨rfl, rfl, rfl⟩ := hq1
  refine z_aload_n dJx4a65c_init_da8c8_4 rfl ?_
  refine z_dflt dJx4a65c_init_da8c8_5 (zW_in (zTp1 (i := 56) rfl) rfl) ?_
  refine z_putf dJx4a65c_init_da8c8_8 fp_Jx4a65c_9 (zu_eq _ _ _) rfl rfl (Nat.le_of_ble_eq_true rfl) ?_
  exact z_vret dJx4a65c_init_da8c8_11 rfl (Nat.le_of_ble_eq_true rfl) (Nat.le_of_ble_eq_true rfl) ⟨rfl, ⟨0, G.2.2 6, zu_eq _ _ _, Or.inl ⟨rfl, rfl⟩⟩, fun x hx => by rw [zu_ne hx, zu_ne hx], rfl⟩
