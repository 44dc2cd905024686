/-! ArrayList of nodes -/
section
variable {G : zG} {k : zK} {F : zF} {pc nx ca sl : Nat} {ls : zL} {st : List Value} {σ : zH}
theorem z_eaq {a n b : Nat} {f : Nat → Option Nat} {i : Int32} (d : decode k.2.1 pc = .ok (.aaload, 1)) (hσ : σ a = some (zE G n f)) (hi : vp_in i n) (hf : f i.toNatClampNeg = some b)
    (kk : zWP G k F (pc + 1) ls (.ref b :: st) σ nx ca sl) : zWP G k F pc ls (.int i :: .ref a :: st) σ nx ca sl := by
  refine z_eald d hσ hi ?_
  rw [hf]
  exact kk
theorem z_raq {a n b : Nat} {f : Nat → Option Nat} {i : Int32} (d : decode k.2.1 pc = .ok (.aaload, 1)) (hσ : σ a = some (zR G n f)) (hi : vp_in i n) (hf : f i.toNatClampNeg = some b)
    (kk : zWP G k F (pc + 1) ls (.ref b :: st) σ nx ca sl) : zWP G k F pc ls (.int i :: .ref a :: st) σ nx ca sl := by
  refine z_rald d hσ hi ?_
  rw [hf]
  exact kk
theorem z_null (d : decode k.2.1 pc = .ok (.aconst_null, 1)) (kk : zWP G k F (pc + 1) ls (.null :: st) σ nx ca sl) : zWP G k F pc ls st σ nx ca sl := by
  intro p l e s m args below meth c A H locs la C hH hS hl
  exact lv_null C.1 C.2.1 d (kk p l e s m args below meth c A H locs la C hH hS hl)
theorem z_cast {idx b ci : Nat} {fs : List Value} {C : String} (d : decode k.2.1 pc = .ok (.checkcast idx, 3)) (hw : Cond.classLink k.1 idx C ∈ zW) (hσ : σ b = some (.inr (ci, fs))) (hci : (vwCl[ci]?).map (fun q => q.1) = some C)
    (kk : zWP G k F (pc + 3) ls (.ref b :: st) σ nx ca sl) : zWP G k F pc ls (.ref b :: st) σ nx ca sl := by
  intro p l e s m args below meth c A H locs la CC hH hS hl
  obtain ⟨hx, hb, hml, hown, hts, hK, -⟩ := id CC
  obtain ⟨ws, q0, hP, -, hq, -⟩ := hH.at hσ
  obtain ⟨r, hr1, hr2⟩ := Option.map_eq_some_iff.mp hci
  have hrv := va_recv hK hP hr1 hq
  rw [hr2] at hrv
  have hcl := (hK.1 ci r hr1).2
  rw [hr2] at hcl
  exact va_castS hx hb hown (hts _ hw) hcl hrv d (kk p l e s m args below meth c A H locs la CC hH hS hl)
/-- the ArrayList's first array, that all lists begin with -/
theorem z_dflt {idx : Nat} (d : decode k.2.1 pc = .ok (.getstatic idx, 3)) (hw : Cond.fieldLink k.1 idx RJx4a65c "DEFAULTCAPACITY_EMPTY_ELEMENTDATA" "[Ljava/lang/Object;" ∈ zW)
    (kk : zWP G k F (pc + 3) ls (.ref (G.2.2 6) :: st) σ nx ca sl) : zWP G k F pc ls st σ nx ca sl := by
  intro p l e s m args below meth c A H locs la C hH hS hl
  have K := kk p l e s m args below meth c A H locs la C hH hS hl
  obtain ⟨hx, hb, -, hown, hts, hK, hA, -, -, -, -, ho, -⟩ := id C
  exact va_gets hx hb ho.2.2.2.1 hS hown (hts _ hw) (fun _ h => h) d K
end
def zKE (G : zG) (σ σ' : zH) : Prop := ∀ b cap f, σ b = some (zE G cap f) → σ' b = σ b
def zList (G : zG) (σ : zH) (a hi : Nat) (N : List Nat) : Prop := ∃ (md : Int32) (ed : Nat), σ a = some (.inr (0, [.int md, .ref ed, .int (nI N.length)])) ∧ ((N = [] ∧ ed = G.2.2 6) ∨ ∃ (cap : Nat) (f : Nat → Option Nat), σ ed = some (zE G cap f) ∧ N.length ≤ cap ∧ (10 ≤ cap ∧ hi ≤ ed) ∧ cap ≤ 15 ∧ ∀ i b, N[i]? = some b → f i = some b)
theorem zList.fr2 {G : zG} {σ σ' : zH} {a hi : Nat} {N : List Nat} (h : zList G σ a hi N) (ha : σ' a = σ a) (hE : ∀ b, hi ≤ b → (∃ e, σ b = some e) → σ' b = σ b) : zList G σ' a hi N := by
  obtain ⟨md, ed, h1, h2⟩ := h
  refine ⟨md, ed, ha.trans h1, ?_⟩
  rcases h2 with h2 | ⟨cap, f, h2, h3, h4, h5⟩
  · exact Or.inl h2
  · exact Or.inr ⟨cap, f, (hE _ h4.2 ⟨_, h2⟩).trans h2, h3, h4, h5⟩
theorem zList.fr {G : zG} {σ σ' : zH} {a hi : Nat} {N : List Nat} (h : zList G σ a hi N) (ha : σ' a = σ a) (hE : zKE G σ σ') : zList G σ' a hi N := by
  obtain ⟨md, ed, h1, h2⟩ := h
  refine ⟨md, ed, ha.trans h1, ?_⟩
  rcases h2 with h2 | ⟨cap, f, h2, h3⟩
  · exact Or.inl h2
  · exact Or.inr ⟨cap, f, (hE _ _ _ h2).trans h2, h3⟩
theorem zRows.E {G : zG} {σ σ' : zH} {r m : Nat} {R : zP2} {E : List Nat} (h : zRows G σ r m R E) (hf : zFr σ σ' r 7) : zKE G σ σ' := by
  intro b cap f hb
  apply hf
  obtain ⟨kf, vf, ef, h1, ⟨h2, h3⟩, ⟨h4, h5⟩, ⟨h6, h7⟩, -⟩ := h
  by_cases q : b < r ∨ r + 7 ≤ b
  · exact q
  · exfalso
    rcases (show b = r ∨ b = r + 1 ∨ b = r + 1 + 1 ∨ b = r + 3 ∨ b = r + 3 + 1 ∨ b = r + 5 ∨ b = r + 5 + 1 by omega) with e | e | e | e | e | e | e <;> subst e <;> simp_all [zRC, zE, zI]
set_option maxRecDepth 100000 in
theorem c_list_size {G : zG} {σ : zH} {nx a hi : Nat} {N : List Nat} (h : zList G σ a hi N) : zM G yJx4a65c_size_8abf5 kJx4a65c_size_8abf5 [.ref a] σ nx (fun v σ' nx' => v = some (.int (nI N.length)) ∧ σ' = σ ∧ nx' = nx) := by
  refine zM.of (ls := [some (.ref a)]) (by decide +kernel) ⟨rfl, rfl, rfl⟩ (Nat.le_of_ble_eq_true rfl) (fun _ h => h) ?_
  obtain ⟨md, ed, h1, -⟩ := h
  refine z_aload_n dJx4a65c_size_8abf5_0 rfl ?_
  refine z_getf dJx4a65c_size_8abf5_1 fl_Jx4a65c_48 h1 rfl ?_
  exact z_iret dJx4a65c_size_8abf5_4 rfl (Nat.le_of_ble_eq_true rfl) (Nat.le_of_ble_eq_true rfl) ⟨rfl, rfl, rfl⟩
set_option maxRecDepth 100000 in
theorem c_chk3 {G : zG} {σ : zH} {nx i n : Nat} (h : i < n) (hn : n < 2 ^ 31) : zM G yJ3_checkIndex_8e157 kJ3_checkIndex_8e157 [.int (nI i), .int (nI n), .null] σ nx (fun v σ' nx' => v = some (.int (nI i)) ∧ σ' = σ ∧ nx' = nx) := by
  refine zM.of (ls := [some (.int (nI i)), some (.int (nI n)), some .null]) (by decide +kernel) ⟨rfl, rfl, rfl⟩ (Nat.le_of_ble_eq_true rfl) (fun _ h => h) ?_
  refine z_iload_n dJ3_checkIndex_8e157_0 rfl ?_
  refine z_if_lt (tgt := 9) dJ3_checkIndex_8e157_1 (by decide) (fun q => absurd q (nI_pos (show i < 2 ^ 31 by omega))) (fun _ => ?_)
  refine z_iload_n dJ3_checkIndex_8e157_4 rfl ?_
  refine z_iload_n dJ3_checkIndex_8e157_5 rfl ?_
  refine z_icmp_lt (tgt := 16) dJ3_checkIndex_8e157_6 (by decide) (fun _ => ?_) (fun q => absurd (nI_lt h hn) q)
  refine z_iload_n dJ3_checkIndex_8e157_16 rfl ?_
  exact z_iret dJ3_checkIndex_8e157_17 rfl (Nat.le_of_ble_eq_true rfl) (Nat.le_of_ble_eq_true rfl) ⟨rfl, rfl, rfl⟩
set_option maxRecDepth 100000 in
theorem c_chk {G : zG} {σ : zH} {nx i n : Nat} (h : i < n) (hn : n < 2 ^ 31) : zM G yJ15_checkIndex_7cf53 kJ15_checkIndex_7cf53 [.int (nI i), .int (nI n)] σ nx (fun v σ' nx' => v = some (.int (nI i)) ∧ σ' = σ ∧ nx' = nx) := by
  refine zM.of (ls := [some (.int (nI i)), some (.int (nI n))]) (by decide +kernel) ⟨rfl, rfl, rfl⟩ (Nat.le_of_ble_eq_true rfl) (fun _ h => h) ?_
  refine z_iload_n dJ15_checkIndex_7cf53_0 rfl ?_
  refine z_iload_n dJ15_checkIndex_7cf53_1 rfl ?_
  refine z_null dJ15_checkIndex_7cf53_2 ?_
  refine z_callS dJ15_checkIndex_7cf53_3 cv_J15_105 (c_chk3 h hn) rfl rfl ⟨(Nat.le_of_ble_eq_true rfl), (Nat.le_of_ble_eq_true rfl)⟩ (Nat.le_of_ble_eq_true rfl) (Nat.le_of_ble_eq_true rfl) (Nat.le_of_ble_eq_true rfl) (fun v σ1 nx1 hx1 hq1 => ?_)
  obtain ⟨rfl, rfl, rfl⟩ := hq1
  exact z_iret dJ15_checkIndex_7cf53_6 rfl (Nat.le_of_ble_eq_true rfl) (Nat.le_of_ble_eq_true rfl) ⟨rfl, rfl, rfl⟩
set_option maxRecDepth 100000 in
theorem c_elementData {G : zG} {σ : zH} {nx a i b hi : Nat} {N : List Nat} (h : zList G σ a hi N) (hib : N[i]? = some b) : zM G yJx4a65c_elementData_915e3 kJx4a65c_elementData_915e3 [.ref a, .int (nI i)] σ nx (fun v σ' nx' => v = some (.ref b) ∧ σ' = σ ∧ nx' = nx) := by
  refine zM.of (ls := [some (.ref a), some (.int (nI i))]) (by decide +kernel) ⟨rfl, rfl, rfl⟩ (Nat.le_of_ble_eq_true rfl) (fun _ h => h) ?_
  obtain ⟨md, ed, h1, ⟨rfl, -⟩ | ⟨cap, f, h2, h3, h4, h5, h6⟩⟩ := h
  · simp at hib
  · have hl := zR_lt hib
    refine z_aload_n dJx4a65c_elementData_915e3_0 rfl ?_
    refine z_getf dJx4a65c_elementData_915e3_1 fl_Jx4a65c_9 h1 rfl ?_
    refine z_iload_n dJx4a65c_elementData_915e3_4 rfl ?_
    refine z_eaq dJx4a65c_elementData_915e3_5 h2 (vp_in_nI (by omega) (by omega)) (by rw [nI_clamp (by omega)]; exact h6 i b hib) ?_
    exact z_aret dJx4a65c_elementData_915e3_6 rfl (Or.inl ⟨_, rfl⟩) (Nat.le_of_ble_eq_true rfl) (Nat.le_of_ble_eq_true rfl) ⟨rfl, rfl, rfl⟩
set_option maxRecDepth 100000 in
theorem c_list_get {G : zG} {σ : zH} {nx a i b hi : Nat} {N : List Nat} (h : zList G σ a hi N) (hib : N[i]? = some b) (hN : N.length ≤ 14) : zM G yJx4a65c_get_915e3 kJx4a65c_get_915e3 [.ref a, .int (nI i)] σ nx (fun v σ' nx' => v = some (.ref b) ∧ σ' = σ ∧ nx' = nx) := by
  refine zM.of (ls := [some (.ref a), some (.int (nI i))]) (by decide +kernel) ⟨rfl, rfl, rfl⟩ (Nat.le_of_ble_eq_true rfl) (fun _ h => h) ?_
  have hl := zR_lt hib
  obtain ⟨md, ed, h1, -⟩ := id h
  refine z_iload_n dJx4a65c_get_915e3_0 rfl ?_
  refine z_aload_n dJx4a65c_get_915e3_1 rfl ?_
  refine z_getf dJx4a65c_get_915e3_2 fl_Jx4a65c_48 h1 rfl ?_
  refine z_callS dJx4a65c_get_915e3_5 cv_Jx4a65c_118 (c_chk hl (by omega)) rfl rfl ⟨(Nat.le_of_ble_eq_true rfl), (Nat.le_of_ble_eq_true rfl)⟩ (Nat.le_of_ble_eq_true rfl) (Nat.le_of_ble_eq_true rfl) (Nat.le_of_ble_eq_true rfl) (fun v σ1 nx1 hx1 hq1 => ?_)
  obtain ⟨rfl, rfl, rfl⟩ := hq1
  refine z_pop dJx4a65c_get_915e3_8 rfl ?_
  refine z_aload_n dJx4a65c_get_915e3_9 rfl ?_
  refine z_iload_n dJx4a65c_get_915e3_10 rfl ?_
  refine z_callV dJx4a65c_get_915e3_11 cv_Jx4a65c_123 (c_elementData h hib) rfl h1 rfl rfl ⟨(Nat.le_of_ble_eq_true rfl), (Nat.le_of_ble_eq_true rfl)⟩ (Nat.le_of_ble_eq_true rfl) (Nat.le_of_ble_eq_true rfl) (Nat.le_of_ble_eq_true rfl) (fun v σ1 nx1 hx1 hq1 => ?_)
  obtain ⟨rfl, rfl, rfl⟩ := hq1
  exact z_aret dJx4a65c_get_915e3_14 rfl (Or.inl ⟨_, rfl⟩) (Nat.le_of_ble_eq_true rfl) (Nat.le_of_ble_eq_true rfl) ⟨rfl, rfl, rfl⟩
/-- ArrayList.add, of a node, up to 14 -/
theorem c_list_add {G : zG} {σ : zH} {nx a b hi : Nat} {N : List Nat} {fs : List Value} (h : zList G σ a hi N) (hb : σ b = some (.inr (7, fs))) (hN : N.length < 14) (hnx : hi ≤ nx) : zM G yJx4a65c_add_9ea2d kJx4a65c_add_9ea2d [.ref a, .ref b] σ nx (fun v σ' nx' => v = some (.int 1) ∧ zList G σ' a hi (N ++ [b]) ∧ (∀ x, x ≠ a → x < nx → (∀ cap f, σ x ≠ some (zE G cap f)) → σ' x = σ x) ∧ nx' ≤ nx + 1) := by
  sorry
