-- model
/-! the model: nodes are made -/
def znob (n : Nat) (x : Int32) : Bool := decide (x < 0) || decide (nI n ≤ x)
theorem znob_t {n : Nat} {x : Int32} : znob n x = true ↔ ¬ zis n x := by
  rw [zis_no, znob, Bool.or_eq_true, decide_eq_true_iff, decide_eq_true_iff]
theorem znob_f {n : Nat} {x : Int32} : znob n x = false ↔ zis n x := by
  cases h : znob n x with
  | true => exact ⟨fun q => (nomatch q), fun q => absurd q (znob_t.mp h)⟩
  | false =>
    refine ⟨fun _ => ?_, fun _ => rfl⟩
    by_cases c : zis n x
    · exact c
    · rw [znob_t.mpr c] at h; exact nomatch h
def zk_source (n : Nat) (x : Int32) : Nat := if x < 1 ∨ 4 < x then 1 else if n = 14 then 2 else 0
def zk_put (nt : zNT) (x : Int32) : Nat := if znob nt.length x = true then 1 else if (nt.getD x.toNatClampNeg zdf).2.1 ≠ 0 ∨ 12 ≤ (nt.getD x.toNatClampNeg zdf).2.2.2.length then 2 else 0
def zk_map (n : Nat) (x y z : Int32) : Nat := if znob n x = true then 1 else if y < 0 ∨ 4 < y ∨ (y = 3 ∧ z < 1) then 2 else if n = 14 then 3 else 0
def zk_filter (n : Nat) (x : Int32) : Nat := if znob n x = true then 1 else if n = 14 then 2 else 0
def zk_union (nt : zNT) (x y : Int32) : Nat := if znob nt.length x = true ∨ znob nt.length y = true then 1 else if nt.length = 14 ∨ 300 < zb (nt.getD x.toNatClampNeg zdf) + zb (nt.getD y.toNatClampNeg zdf) ∨ 8 < zw (nt.getD x.toNatClampNeg zdf) + zw (nt.getD y.toNatClampNeg zdf) then 2 else 0
def zk_group (n : Nat) (x y z : Int32) : Nat := if znob n x = true then 1 else if (y < 0 ∨ 3 < y) ∨ (z < 1 ∨ 4 < z) then 2 else if n = 14 then 3 else 0
def zk_join (nt : zNT) (x y z : Int32) : Nat := if znob nt.length x = true ∨ znob nt.length y = true then 1 else if z < 1 ∨ 4 < z then 2 else if nt.length = 14 ∨ 300 < zb (nt.getD x.toNatClampNeg zdf) * zb (nt.getD y.toNatClampNeg zdf) then 3 else 0
def zQm (v : Option Value) (S' : zMS) (c : Nat) (ok bad : Prop) : Prop := (∃ w : Int32, v = some (.int w)) ∧ S'.1 11 = nI c ∧ (c = 0 → ok) ∧ (c ≠ 0 → bad)
theorem zQm.ok {S' : zMS} {c : Nat} {w : Int32} {ok bad : Prop} (h : S'.1 11 = 0) (hc : c = 0) (ho : ok) : zQm (some (.int w)) S' c ok bad := ⟨⟨_, rfl⟩, by rw [h, hc]; rfl, fun _ => ho, fun q => absurd hc q⟩
theorem zQm.bad {S' : zMS} {c c' : Nat} {w : Int32} {ok bad : Prop} (h : S'.1 11 = nI c') (hc : c = c') (h0 : c' ≠ 0) (ho : bad) : zQm (some (.int w)) S' c ok bad := ⟨⟨_, rfl⟩, by rw [h, hc], fun q => absurd (hc.symm.trans q) h0, fun _ => ho⟩
section
variable {nt : zNT} {lim mem wk r tk sp cs un : Nat} {slow : Nat → Nat} {L : zNS} {A : List zAE} {S S' : zMS}
theorem zget_at {i : Nat} {e : zNX} (h : nt[i]? = some e) : nt.getD i zdf = e := by rw [List.getD_eq_getElem?_getD, h]; rfl
theorem zrM.add {e : zNX} (h : zrM S nt lim mem wk slow r L A tk sp cs un) (hl : nt.length < 14) (h0 : S'.1 0 = nI (nt.length + 1)) (h1 : S'.1 1 = 0) (hs : ∀ j, 2 ≤ j → j < 11 → S'.1 j = S.1 j) (ha : ∀ j, 9 ≤ j → S'.2 j = S.2 j) (hb : ∀ j, j < 9 → ∀ i, i ≠ nt.length → S'.2 j i = S.2 j i)
    (he : S'.2 0 nt.length = nI e.2.1 ∧ (1 ≤ e.2.1 → S'.2 1 nt.length = e.2.2.1 1) ∧ (e.2.1 = 3 ∨ e.2.1 = 5 → S'.2 2 nt.length = e.2.2.1 2) ∧ (e.2.1 = 1 ∨ e.2.1 = 4 → S'.2 3 nt.length = e.2.2.1 7) ∧ (e.2.1 = 1 → S'.2 4 nt.length = e.2.2.1 8) ∧ (e.2.1 = 2 → S'.2 4 nt.length = e.2.2.1 9 ∧ S'.2 5 nt.length = e.2.2.1 10) ∧ (e.2.1 = 0 ∨ e.2.1 = 4 ∨ e.2.1 = 5 → S'.2 6 nt.length = e.2.2.1 6) ∧ S'.2 7 nt.length = e.2.2.1 3 ∧ S'.2 8 nt.length = e.2.2.1 4) (hR : e.2.2.2 = []) (h11 : e.2.2.1 11 = 0) :
    zrM S' (nt ++ [e]) lim mem wk slow r L A tk sp cs un := by
  obtain ⟨⟨n1, n2, n3, n4⟩, -, q3, q4, q5⟩ := h
  refine ⟨⟨by rw [List.length_append]; exact h0, by rw [List.length_append]; exact hl, fun i x hx => ?_, fun i hi1 hi2 => ?_⟩, ⟨Or.inl h1, fun q => absurd (h1.symm.trans q) (by decide)⟩, q3.cg (fun j a b => hs j a (by omega)) (ha 16 (by decide)), q4.cg (hs 6 (by decide) (by decide)) (ha 18 (by decide)) (ha 19 (by decide)), q5.cg (fun j a b => hs j (by omega) b) fun j a b => ha j (by omega)⟩
  · by_cases c : i < nt.length
    · rw [List.getElem?_append_left c] at hx
      have hn := n3 i x hx
      unfold zrE at hn ⊢
      have eb := fun j hj => hb j hj i (by omega)
      rw [eb 0 (by decide), eb 1 (by decide), eb 2 (by decide), eb 3 (by decide), eb 4 (by decide), eb 5 (by decide), eb 6 (by decide), eb 7 (by decide), eb 8 (by decide), ha 9 (by decide), ha 10 (by decide), ha 11 (by decide), ha 17 (by decide)]
      exact hn
    · have hl2 := zR_lt hx
      rw [List.length_append] at hl2
      have ei : i = nt.length := by simp at hl2; omega
      subst ei
      rw [List.getElem?_append_right (Nat.le_refl _), Nat.sub_self] at hx
      cases hx
      obtain ⟨p9, p17⟩ := n4 nt.length (Nat.le_refl _) hl
      unfold zrE
      rw [hR, h11, ha 9 (by decide), ha 17 (by decide), p9, p17]
      exact ⟨he.1, he.2.1, he.2.2.1, he.2.2.2.1, he.2.2.2.2.1, he.2.2.2.2.2.1, he.2.2.2.2.2.2.1, he.2.2.2.2.2.2.2.1, he.2.2.2.2.2.2.2.2, rfl, fun k q z => by simp at z, rfl, Or.inl rfl⟩
  · rw [List.length_append] at hi1
    rw [ha 9 (by decide), ha 17 (by decide)]
    exact n4 i (by simp at hi1; omega) hi2
theorem zSTs {j i : Nat} {x : Int32} : (zST S j i x).2 j i = x := by rw [zST_j]; exact pk_us
theorem zSTn {j i i' : Nat} {x : Int32} (h : i' ≠ i) : (zST S j i x).2 j i' = S.2 j i' := by rw [zST_j]; exact pk_un h
theorem zSTo {j q i i' : Nat} {x : Int32} (h : q ≠ j) : (zST S j i x).2 q i' = S.2 q i' := by rw [zST_n _ _ _ h]
theorem zSTi {j q i i' : Nat} {x : Int32} (h : i' ≠ i) : (zST S j i x).2 q i' = S.2 q i' := by
  by_cases e : q = j
  · subst e; exact zSTn h
  · exact zSTo e
theorem zSF2 {j : Nat} {x : Int32} : (zSF S j x).2 = S.2 := rfl
theorem zrM.mk {Sp : zMS} {e : zNX} {x1 x2 x3 x4 x5 : Int32} (h : zrM S nt lim mem wk slow r L A tk sp cs un) (hl : nt.length < 14) (hs : ∀ j, 2 ≤ j → j < 11 → Sp.1 j = S.1 j) (ha : ∀ j, 9 ≤ j → Sp.2 j = S.2 j) (hb : ∀ j, j < 9 → ∀ i, i ≠ nt.length → Sp.2 j i = S.2 j i)
    (h1 : x1 = nI e.2.1) (h2 : 1 ≤ e.2.1 → x2 = e.2.2.1 1) (h3 : e.2.1 = 3 ∨ e.2.1 = 5 → x3 = e.2.2.1 2) (h4 : e.2.1 = 1 ∨ e.2.1 = 4 → Sp.2 3 nt.length = e.2.2.1 7) (h5 : e.2.1 = 1 → Sp.2 4 nt.length = e.2.2.1 8) (h6 : e.2.1 = 2 → Sp.2 4 nt.length = e.2.2.1 9 ∧ Sp.2 5 nt.length = e.2.2.1 10) (h7 : e.2.1 = 0 ∨ e.2.1 = 4 ∨ e.2.1 = 5 → Sp.2 6 nt.length = e.2.2.1 6) (h8 : x4 = e.2.2.1 3) (h9 : x5 = e.2.2.1 4) (hR : e.2.2.2 = []) (h11 : e.2.2.1 11 = 0) :
    zrM (zSF (zSF (zST (zST (zST (zST (zST Sp 0 nt.length x1) 1 nt.length x2) 2 nt.length x3) 7 nt.length x4) 8 nt.length x5) 1 0) 0 (nI (nt.length + 1))) (nt ++ [e]) lim mem wk slow r L A tk sp cs un := by
  refine h.add hl zSF_s ((zSF_n (by decide)).trans zSF_s) (fun j a b => ?_) (fun j hj => ?_) (fun j hj i hi => ?_) ⟨?_, fun q => ?_, fun q => ?_, fun q => ?_, fun q => ?_, fun q => ?_, fun q => ?_, ?_, ?_⟩ hR h11
  · rw [zSF_n (by omega), zSF_n (by omega)]; exact hs j a b
  · rw [zSF2, zSF2]
    rw [zST_n _ _ _ (by omega), zST_n _ _ _ (by omega), zST_n _ _ _ (by omega), zST_n _ _ _ (by omega), zST_n _ _ _ (by omega)]; exact ha j hj
  · rw [zSF2, zSF2]
    rw [zSTi hi, zSTi hi, zSTi hi, zSTi hi, zSTi hi]; exact hb j hj i hi
  · rw [← h1]; rw [zSF2, zSF2]; rw [zSTo, zSTo, zSTo, zSTo, zSTs] <;> decide
  · rw [← h2 q]; rw [zSF2, zSF2]; rw [zSTo, zSTo, zSTo, zSTs] <;> decide
  · rw [← h3 q]; rw [zSF2, zSF2]; rw [zSTo, zSTo, zSTs] <;> decide
  · rw [← h4 q]; rw [zSF2, zSF2]; rw [zSTo, zSTo, zSTo, zSTo, zSTo] <;> decide
  · rw [← h5 q]; rw [zSF2, zSF2]; rw [zSTo, zSTo, zSTo, zSTo, zSTo] <;> decide
  · rw [← (h6 q).1, ← (h6 q).2]; refine ⟨?_, ?_⟩ <;> (rw [zSF2, zSF2]; rw [zSTo, zSTo, zSTo, zSTo, zSTo] <;> decide)
  · rw [← h7 q]; rw [zSF2, zSF2]; rw [zSTo, zSTo, zSTo, zSTo, zSTo] <;> decide
  · rw [← h8]; rw [zSF2, zSF2]; rw [zSTo, zSTs]; decide
  · rw [← h9]; rw [zSF2, zSF2]; rw [zSTs]
theorem z11 {a b : Int32} : (zSF (zSF S' 1 a) 0 b).1 11 = S'.1 11 := by rw [zSF_n, zSF_n] <;> decide
theorem zP0 {j : Nat} {x : Int32} (h : 2 ≤ j) (h2 : j < 11) : (zSF S 11 x).1 j = S.1 j := pk_un (by omega)
theorem zrE_of (h : zrM S nt lim mem wk slow r L A tk sp cs un) {i : Nat} (hi : i < nt.length) : zrE S i (nt.getD i zdf) := by
  have hg : nt[i]? = some (nt[i]'hi) := List.getElem?_eq_getElem _
  rw [zget_at hg]
  exact h.1.2.2.1 i _ hg
theorem zWn_b (hw : zWf nt) {i : Nat} (hi : i < nt.length) : (nt.getD i zdf).2.2.1 3 = nI (zb (nt.getD i zdf)) ∧ zb (nt.getD i zdf) ≤ 300 ∧ (nt.getD i zdf).2.2.1 4 = nI (zw (nt.getD i zdf)) ∧ 1 ≤ zw (nt.getD i zdf) ∧ zw (nt.getD i zdf) ≤ 8 := by
  have hg : nt[i]? = some (nt[i]'hi) := List.getElem?_eq_getElem _
  rw [zget_at hg]
  obtain ⟨f, s, p, -, h, -⟩ := hw i _ hg
  exact h
end
section
variable {G : zG} {m : Nat} {nt : zNT} {lim mem wk r tk sp cs un : Nat} {slow : Nat → Nat} {L : zNS} {A : List zAE} {S : zMS}
set_option maxRecDepth 100000 in
theorem c_m_source {x : Int32} (h : zrM S nt lim mem wk slow r L A tk sp cs un) : zMN G yX12_source kX12_source m [.int x] S (fun v S' => zQm v S' (zk_source nt.length x) (v = some (.int (nI nt.length)) ∧ ∀ e : zNX, e.2.1 = 0 → e.2.2.2 = [] → e.2.2.1 11 = 0 → e.2.2.1 3 = nI 12 → e.2.2.1 4 = x → e.2.2.1 6 = x → zrM S' (nt ++ [e]) lim mem wk slow r L A tk sp cs un) (zrM S' nt lim mem wk slow r L A tk sp cs un)) := by
  refine zMN.of (ls := [some (.ref m), some (.int x)]) (by decide +kernel) ⟨rfl, rfl, rfl⟩ (Nat.le_of_ble_eq_true rfl) (fun _ h => h) fun Q hQ => ?_
  have hn := h.1.1
  have h14 := h.1.2.1
  have bad : ∀ c, 0 < c → c < 9 → zk_source nt.length x = c → zNW G kX12_source m Q 29 [some (.ref m), some (.int x)] [.int (nI c), .ref m] S := by
    intro c c0 c9 hc
    refine n_call dX12_source_29 cv_X12_130 c_fails rfl rfl rfl ⟨(Nat.le_of_ble_eq_true rfl), (Nat.le_of_ble_eq_true rfl)⟩ rfl rfl (Nat.le_of_ble_eq_true rfl) (fun v S1 hq1 => ?_)
    obtain ⟨rfl, rfl⟩ := hq1
    rw [if_pos (show (0 : Int32) < nI c from nI_lt (a := 0) c0 (by omega))]
    refine n_if_eq (tgt := 37) dX12_source_32 (by decide) (fun q => absurd q ((by decide))) (fun _ => ?_)
    refine n_iconst (v := (nI 0)) dX12_source_35 (by decide) ?_
    exact n_iret dX12_source_36 rfl (hQ _ _ (zQm.bad zSF_s hc (by omega) h.thr))
  have ok : ¬ (x < 1 ∨ 4 < x) → ¬ nt.length = 14 → zNW G kX12_source m Q 28 [some (.ref m), some (.int x)] [.ref m] S := by
    intro c1 c2
    have hl : nt.length < 14 := by omega
    refine n_iconst (v := (nI 0)) dX12_source_28 (by decide) ?_
    refine n_call dX12_source_29 cv_X12_130 c_fails rfl rfl rfl ⟨(Nat.le_of_ble_eq_true rfl), (Nat.le_of_ble_eq_true rfl)⟩ rfl rfl (Nat.le_of_ble_eq_true rfl) (fun v S1 hq1 => ?_)
    obtain ⟨rfl, rfl⟩ := hq1
    refine n_if_eq (tgt := 37) dX12_source_32 (by decide) (fun _ => ?_) (fun q => absurd (rfl) q)
    refine n_aload_n dX12_source_37 rfl ?_
    refine n_get dX12_source_38 fl_X12_28 rfl ?_
    refine n_aload_n dX12_source_41 rfl ?_
    refine n_getE dX12_source_42 fl_X12_123 rfl (hn) ?_
    refine n_iload_n dX12_source_45 rfl ?_
    refine n_iast (j := 6) dX12_source_46 (by decide) rfl rfl (show _ < 14 by omega) ?_
    refine n_aload_n dX12_source_47 rfl ?_
    refine n_iconst (v := (nI 0)) dX12_source_48 (by decide) ?_
    refine n_iconst (v := (nI 0)) dX12_source_49 (by decide) ?_
    refine n_iconst (v := (nI 0)) dX12_source_50 (by decide) ?_
    refine n_bipush (v := (nI 12)) dX12_source_51 (by decide) ?_
    refine n_iload_n dX12_source_53 rfl ?_
    refine n_call dX12_source_54 cv_X12_134 (c_makes (n := nt.length) hn hl) rfl rfl rfl ⟨(Nat.le_of_ble_eq_true rfl), (Nat.le_of_ble_eq_true rfl)⟩ rfl rfl (Nat.le_of_ble_eq_true rfl) (fun v S2 hq2 => ?_)
    obtain ⟨rfl, rfl⟩ := hq2
    refine n_iret dX12_source_57 rfl (hQ _ _ (zQm.ok (z11.trans (pk_us (f := S.1) (k := 11) (x := 0))) (by rw [zk_source, if_neg c1, if_neg c2]) ⟨rfl, fun e e0 eR e11 e3 e4 e6 => ?_⟩))
    exact h.mk hl (fun j a b => zP0 a b) (fun j hj => zST_n _ _ _ (by omega)) (fun j hj i hi => zSTi hi) (by rw [e0]) (fun q => absurd q (by omega)) (fun q => absurd q (by omega)) (fun q => absurd q (by omega)) (fun q => absurd q (by omega)) (fun q => absurd q (by omega)) (fun _ => zSTs.trans e6.symm) e3.symm e4.symm eR e11
  refine n_aload_n dX12_source_0 rfl ?_
  refine n_iload_n dX12_source_1 rfl ?_
  refine n_iconst (v := (nI 1)) dX12_source_2 (by decide) ?_
  refine n_icmp_lt (tgt := 11) dX12_source_3 (by decide) (fun h3 => ?_) (fun h3 => ?_)
  · refine n_iconst (v := (nI 1)) dX12_source_11 (by decide) ?_
    refine n_goto (tgt := 29) dX12_source_12 (by decide) ?_
    exact bad 1 (by decide) (by decide) (by rw [zk_source]; exact if_pos (Or.inl h3))
  · refine n_iload_n dX12_source_6 rfl ?_
    refine n_iconst (v := (nI 4)) dX12_source_7 (by decide) ?_
    refine n_icmp_le (tgt := 15) dX12_source_8 (by decide) (fun h8 => ?_) (fun h8 => ?_)
    · have c1 : ¬ (x < 1 ∨ 4 < x) := by rintro (q | q); exact h3 q; exact absurd q (Int32.not_lt.mpr h8)
      refine n_aload_n dX12_source_15 rfl ?_
      refine n_getE dX12_source_16 fl_X12_123 rfl (hn) ?_
      refine n_bipush (v := (nI 14)) dX12_source_19 (by decide) ?_
      refine n_icmp_ne (tgt := 28) dX12_source_21 (by decide) (fun h21 => ?_) (fun h21 => ?_)
      · exact ok c1 fun q => h21 (by rw [q])
      · refine n_iconst (v := (nI 2)) dX12_source_24 (by decide) ?_
        refine n_goto (tgt := 29) dX12_source_25 (by decide) ?_
        exact bad 2 (by decide) (by decide) (by rw [zk_source, if_neg c1, if_pos ((nI_eq (b := 14) (by omega) (by decide)).mp h21)])
    · refine n_iconst (v := (nI 1)) dX12_source_11 (by decide) ?_
      refine n_goto (tgt := 29) dX12_source_12 (by decide) ?_
      exact bad 1 (by decide) (by decide) (by rw [zk_source]; exact if_pos (Or.inr (Int32.not_le.mp h8)))
set_option maxRecDepth 100000 in
theorem c_m_map {x y z : Int32} (h : zrM S nt lim mem wk slow r L A tk sp cs un) : zMN G yX12_map kX12_map m [.int x, .int y, .int z] S (fun v S' => zQm v S' (zk_map nt.length x y z) (v = some (.int (nI nt.length)) ∧ ∀ e : zNX, e.2.1 = 1 → e.2.2.2 = [] → e.2.2.1 11 = 0 → e.2.2.1 1 = x → e.2.2.1 3 = (nt.getD x.toNatClampNeg zdf).2.2.1 3 → e.2.2.1 4 = (nt.getD x.toNatClampNeg zdf).2.2.1 4 → e.2.2.1 7 = y → e.2.2.1 8 = z → zrM S' (nt ++ [e]) lim mem wk slow r L A tk sp cs un) (zrM S' nt lim mem wk slow r L A tk sp cs un)) := by
  refine zMN.of (ls := [some (.ref m), some (.int x), some (.int y), some (.int z), none]) (by decide +kernel) ⟨rfl, rfl, rfl⟩ (Nat.le_of_ble_eq_true rfl) (fun _ h => h) fun Q hQ => ?_
  have hn := h.1.1
  have h14 := h.1.2.1
  have bad : ∀ (w : Int32) (c : Nat), 0 < c → c < 9 → zk_map nt.length x y z = c → zNW G kX12_map m Q 61 [some (.ref m), some (.int x), some (.int y), some (.int z), some (.int w)] [.int (nI c), .ref m] S := by
    intro w c c0 c9 hc
    refine n_call dX12_map_61 cv_X12_130 c_fails rfl rfl rfl ⟨(Nat.le_of_ble_eq_true rfl), (Nat.le_of_ble_eq_true rfl)⟩ rfl rfl (Nat.le_of_ble_eq_true rfl) (fun v S1 hq1 => ?_)
    obtain ⟨rfl, rfl⟩ := hq1
    rw [if_pos (show (0 : Int32) < nI c from nI_lt (a := 0) c0 (by omega))]
    refine n_if_eq (tgt := 69) dX12_map_64 (by decide) (fun q => absurd q ((by decide))) (fun _ => ?_)
    refine n_iconst (v := (nI 0)) dX12_map_67 (by decide) ?_
    exact n_iret dX12_map_68 rfl (hQ _ _ (zQm.bad zSF_s hc (by omega) h.thr))
  have mid : ∀ w : Int32, (¬ w = 0 ↔ ¬ (y < 0 ∨ 4 < y ∨ (y = 3 ∧ z < 1))) → zNW G kX12_map m Q 23 [some (.ref m), some (.int x), some (.int y), some (.int z), none] [.int w] S := by
    intro w hw
    refine n_istore dX12_map_23 (by decide) ?_
    refine n_aload_n dX12_map_25 rfl ?_
    refine n_aload_n dX12_map_26 rfl ?_
    refine n_iload_n dX12_map_27 rfl ?_
    refine n_call dX12_map_28 cv_X12_138 (c_is hn) rfl rfl rfl ⟨(Nat.le_of_ble_eq_true rfl), (Nat.le_of_ble_eq_true rfl)⟩ rfl rfl (Nat.le_of_ble_eq_true rfl) (fun v S1 hq1 => ?_)
    obtain ⟨rfl, rfl⟩ := hq1
    by_cases c1 : zis nt.length x
    · rw [zif_t c1]
      refine n_if_ne (tgt := 38) dX12_map_31 (by decide) (fun _ => ?_) (fun q => absurd q ((by decide)))
      refine n_iload dX12_map_38 rfl ?_
      by_cases c2 : w = 0
      · refine n_if_ne (tgt := 47) dX12_map_40 (by decide) (fun q => absurd (c2) q) (fun _ => ?_)
        refine n_iconst (v := (nI 2)) dX12_map_43 (by decide) ?_
        refine n_goto (tgt := 61) dX12_map_44 (by decide) ?_
        exact bad w 2 (by decide) (by decide) (by rw [zk_map, if_neg (by rw [znob_f.mpr c1]; decide), if_pos (by by_cases q : (y < 0 ∨ 4 < y ∨ (y = 3 ∧ z < 1)); exact q; exact absurd c2 (hw.mpr q))])
      · refine n_if_ne (tgt := 47) dX12_map_40 (by decide) (fun _ => ?_) (fun q => absurd q (c2))
        refine n_aload_n dX12_map_47 rfl ?_
        refine n_getE dX12_map_48 fl_X12_123 rfl (hn) ?_
        refine n_bipush (v := (nI 14)) dX12_map_51 (by decide) ?_
        refine n_icmp_ne (tgt := 60) dX12_map_53 (by decide) (fun h53 => ?_) (fun h53 => ?_)
        · have hl : nt.length < 14 := Nat.lt_of_le_of_ne h14 fun q => h53 (by rw [q])
          obtain ⟨i, hi, rfl⟩ := zis_of (by omega) c1
          have hE := zrE_of h hi
          unfold zrE at hE
          have hc : zk_map nt.length (nI i) y z = 0 := by rw [zk_map, if_neg (by rw [znob_f.mpr c1]; decide), if_neg (hw.mp c2), if_neg (by omega)]
          rw [nI_clamp (by omega)] at hQ
          refine n_iconst (v := (nI 0)) dX12_map_60 (by decide) ?_
          refine n_call dX12_map_61 cv_X12_130 c_fails rfl rfl rfl ⟨(Nat.le_of_ble_eq_true rfl), (Nat.le_of_ble_eq_true rfl)⟩ rfl rfl (Nat.le_of_ble_eq_true rfl) (fun v S2 hq2 => ?_)
          obtain ⟨rfl, rfl⟩ := hq2
          refine n_if_eq (tgt := 69) dX12_map_64 (by decide) (fun _ => ?_) (fun q => absurd (rfl) q)
          refine n_aload_n dX12_map_69 rfl ?_
          refine n_get dX12_map_70 fl_X12_19 rfl ?_
          refine n_aload_n dX12_map_73 rfl ?_
          refine n_getE dX12_map_74 fl_X12_123 rfl (hn) ?_
          refine n_iload_n dX12_map_77 rfl ?_
          refine n_iast (j := 3) dX12_map_78 (by decide) rfl rfl (show _ < 14 by omega) ?_
          refine n_aload_n dX12_map_79 rfl ?_
          refine n_get dX12_map_80 fl_X12_22 rfl ?_
          refine n_aload_n dX12_map_83 rfl ?_
          refine n_getE dX12_map_84 fl_X12_123 rfl (hn) ?_
          refine n_iload_n dX12_map_87 rfl ?_
          refine n_iast (j := 4) dX12_map_88 (by decide) rfl rfl (show _ < 14 by omega) ?_
          refine n_aload_n dX12_map_89 rfl ?_
          refine n_iconst (v := (nI 1)) dX12_map_90 (by decide) ?_
          refine n_iload_n dX12_map_91 rfl ?_
          refine n_iconst (v := (nI 0)) dX12_map_92 (by decide) ?_
          refine n_aload_n dX12_map_93 rfl ?_
          refine n_get dX12_map_94 fl_X12_31 rfl ?_
          refine n_iload_n dX12_map_97 rfl ?_
          refine n_iald (j := 7) dX12_map_98 (by decide) rfl rfl (show _ < 14 by omega) hE.2.2.2.2.2.2.2.1 ?_
          refine n_aload_n dX12_map_99 rfl ?_
          refine n_get dX12_map_100 fl_X12_34 rfl ?_
          refine n_iload_n dX12_map_103 rfl ?_
          refine n_iald (j := 8) dX12_map_104 (by decide) rfl rfl (show _ < 14 by omega) hE.2.2.2.2.2.2.2.2.1 ?_
          refine n_call dX12_map_105 cv_X12_134 (c_makes (n := nt.length) hn hl) rfl rfl rfl ⟨(Nat.le_of_ble_eq_true rfl), (Nat.le_of_ble_eq_true rfl)⟩ rfl rfl (Nat.le_of_ble_eq_true rfl) (fun v S2 hq2 => ?_)
          obtain ⟨rfl, rfl⟩ := hq2
          refine n_iret dX12_map_108 rfl (hQ _ _ (zQm.ok (z11.trans (pk_us (f := S1.1) (k := 11) (x := 0))) hc ⟨rfl, fun e e0 eR e11 e1 e3 e4 e7 e8 => ?_⟩))
          exact h.mk hl (fun j a b => zP0 a b) (fun j hj => (zST_n _ _ _ (by omega)).trans (zST_n _ _ _ (by omega))) (fun j hj i hi => (zSTi hi).trans (zSTi hi)) (by rw [e0]) (fun _ => e1.symm) (fun q => absurd q (by omega)) (fun q => ((zSTo (by decide)).trans zSTs).trans e7.symm) (fun q => zSTs.trans e8.symm) (fun q => absurd q (by omega)) (fun q => absurd q (by omega)) e3.symm e4.symm eR e11
        · refine n_iconst (v := (nI 3)) dX12_map_56 (by decide) ?_
          refine n_goto (tgt := 61) dX12_map_57 (by decide) ?_
          exact bad w 3 (by decide) (by decide) (by rw [zk_map, if_neg (by rw [znob_f.mpr c1]; decide), if_neg (hw.mp c2), if_pos ((nI_eq (b := 14) (by omega) (by decide)).mp h53)])
    · rw [zif_f c1]
      refine n_if_ne (tgt := 38) dX12_map_31 (by decide) (fun q => absurd (rfl) q) (fun _ => ?_)
      refine n_iconst (v := (nI 1)) dX12_map_34 (by decide) ?_
      refine n_goto (tgt := 61) dX12_map_35 (by decide) ?_
      exact bad w 1 (by decide) (by decide) (by rw [zk_map, if_pos (znob_t.mpr c1)])
  refine n_iload_n dX12_map_0 rfl ?_
  refine n_if_lt (tgt := 22) dX12_map_1 (by decide) (fun h1 => ?_) (fun h1 => ?_)
  · refine n_iconst (v := (nI 0)) dX12_map_22 (by decide) ?_
    exact mid _ ⟨fun q => absurd rfl q, fun q => absurd (Or.inl h1) q⟩
  · refine n_iload_n dX12_map_4 rfl ?_
    refine n_iconst (v := (nI 5)) dX12_map_5 (by decide) ?_
    refine n_icmp_ge (tgt := 22) dX12_map_6 (by decide) (fun h6 => ?_) (fun h6 => ?_)
    · have c4 : 4 < y := by have := Int32.le_iff_toInt_le.mp h6; rw [Int32.lt_iff_toInt_lt]; exact Int.lt_of_lt_of_le (by decide) this
      refine n_iconst (v := (nI 0)) dX12_map_22 (by decide) ?_
      exact mid _ ⟨fun q => absurd rfl q, fun q => absurd (Or.inr (Or.inl c4)) q⟩
    · have c4 : ¬ 4 < y := fun q => h6 (by have := Int32.lt_iff_toInt_lt.mp q; rw [Int32.le_iff_toInt_le]; have h5 : (nI 5).toInt = 5 := rfl; have h4 : (4 : Int32).toInt = 4 := rfl; omega)
      refine n_iload_n dX12_map_9 rfl ?_
      refine n_iconst (v := (nI 3)) dX12_map_10 (by decide) ?_
      refine n_icmp_ne (tgt := 18) dX12_map_11 (by decide) (fun h11 => ?_) (fun h11 => ?_)
      · refine n_iconst (v := (nI 1)) dX12_map_18 (by decide) ?_
        refine n_goto (tgt := 23) dX12_map_19 (by decide) ?_
        refine mid _ ⟨fun _ => ?_, fun _ => by decide⟩
        rintro (q | q | ⟨q, -⟩); exact h1 q; exact c4 q; exact h11 q
      · refine n_iload_n dX12_map_14 rfl ?_
        refine n_if_le (tgt := 22) dX12_map_15 (by decide) (fun h15 => ?_) (fun h15 => ?_)
        · refine n_iconst (v := (nI 0)) dX12_map_22 (by decide) ?_
          refine mid _ ⟨fun q => absurd rfl q, fun q => absurd (Or.inr (Or.inr ⟨h11, ?_⟩)) q⟩
          exact Int32.lt_of_le_of_lt h15 (by decide)
        · refine n_iconst (v := (nI 1)) dX12_map_18 (by decide) ?_
          refine n_goto (tgt := 23) dX12_map_19 (by decide) ?_
          refine mid _ ⟨fun _ => ?_, fun _ => by decide⟩
          rintro (q | q | ⟨-, q⟩); exact h1 q; exact c4 q; exact h15 (Int32.not_lt.mp fun w => absurd q (Int32.not_lt.mpr (by have := Int32.lt_iff_toInt_lt.mp w; rw [Int32.le_iff_toInt_le]; have h0 : (0 : Int32).toInt = 0 := rfl; have h4 : (1 : Int32).toInt = 1 := rfl; omega)))
set_option maxRecDepth 100000 in
theorem c_m_filter {x y z : Int32} (h : zrM S nt lim mem wk slow r L A tk sp cs un) : zMN G yX12_filter kX12_filter m [.int x, .int y, .int z] S (fun v S' => zQm v S' (zk_filter nt.length x) (v = some (.int (nI nt.length)) ∧ ∀ e : zNX, e.2.1 = 2 → e.2.2.2 = [] → e.2.2.1 11 = 0 → e.2.2.1 1 = x → e.2.2.1 3 = (nt.getD x.toNatClampNeg zdf).2.2.1 3 → e.2.2.1 4 = (nt.getD x.toNatClampNeg zdf).2.2.1 4 → e.2.2.1 9 = y → e.2.2.1 10 = z → zrM S' (nt ++ [e]) lim mem wk slow r L A tk sp cs un) (zrM S' nt lim mem wk slow r L A tk sp cs un)) := by
  refine zMN.of (ls := [some (.ref m), some (.int x), some (.int y), some (.int z)]) (by decide +kernel) ⟨rfl, rfl, rfl⟩ (Nat.le_of_ble_eq_true rfl) (fun _ h => h) fun Q hQ => ?_
  have hn := h.1.1
  have h14 := h.1.2.1
  have bad : ∀ c, 0 < c → c < 9 → zk_filter nt.length x = c → zNW G kX12_filter m Q 27 [some (.ref m), some (.int x), some (.int y), some (.int z)] [.int (nI c), .ref m] S := by
    intro c c0 c9 hc
    refine n_call dX12_filter_27 cv_X12_130 c_fails rfl rfl rfl ⟨(Nat.le_of_ble_eq_true rfl), (Nat.le_of_ble_eq_true rfl)⟩ rfl rfl (Nat.le_of_ble_eq_true rfl) (fun v S1 hq1 => ?_)
    obtain ⟨rfl, rfl⟩ := hq1
    rw [if_pos (show (0 : Int32) < nI c from nI_lt (a := 0) c0 (by omega))]
    refine n_if_eq (tgt := 35) dX12_filter_30 (by decide) (fun q => absurd q ((by decide))) (fun _ => ?_)
    refine n_iconst (v := (nI 0)) dX12_filter_33 (by decide) ?_
    exact n_iret dX12_filter_34 rfl (hQ _ _ (zQm.bad zSF_s hc (by omega) h.thr))
  refine n_aload_n dX12_filter_0 rfl ?_
  refine n_aload_n dX12_filter_1 rfl ?_
  refine n_iload_n dX12_filter_2 rfl ?_
  refine n_call dX12_filter_3 cv_X12_138 (c_is hn) rfl rfl rfl ⟨(Nat.le_of_ble_eq_true rfl), (Nat.le_of_ble_eq_true rfl)⟩ rfl rfl (Nat.le_of_ble_eq_true rfl) (fun v S1 hq1 => ?_)
  obtain ⟨rfl, rfl⟩ := hq1
  by_cases c1 : zis nt.length x
  · rw [zif_t c1]
    refine n_if_ne (tgt := 13) dX12_filter_6 (by decide) (fun _ => ?_) (fun q => absurd q ((by decide)))
    refine n_aload_n dX12_filter_13 rfl ?_
    refine n_getE dX12_filter_14 fl_X12_123 rfl (hn) ?_
    refine n_bipush (v := (nI 14)) dX12_filter_17 (by decide) ?_
    refine n_icmp_ne (tgt := 26) dX12_filter_19 (by decide) (fun h19 => ?_) (fun h19 => ?_)
    · have hl : nt.length < 14 := Nat.lt_of_le_of_ne h14 fun q => h19 (by rw [q])
      obtain ⟨i, hi, rfl⟩ := zis_of (by omega) c1
      have hE := zrE_of h hi
      unfold zrE at hE
      have hc : zk_filter nt.length (nI i) = 0 := by rw [zk_filter, if_neg (by rw [znob_f.mpr c1]; decide), if_neg (by omega)]
      rw [nI_clamp (by omega)] at hQ
      refine n_iconst (v := (nI 0)) dX12_filter_26 (by decide) ?_
      refine n_call dX12_filter_27 cv_X12_130 c_fails rfl rfl rfl ⟨(Nat.le_of_ble_eq_true rfl), (Nat.le_of_ble_eq_true rfl)⟩ rfl rfl (Nat.le_of_ble_eq_true rfl) (fun v S2 hq2 => ?_)
      obtain ⟨rfl, rfl⟩ := hq2
      refine n_if_eq (tgt := 35) dX12_filter_30 (by decide) (fun _ => ?_) (fun q => absurd (rfl) q)
      refine n_aload_n dX12_filter_35 rfl ?_
      refine n_get dX12_filter_36 fl_X12_22 rfl ?_
      refine n_aload_n dX12_filter_39 rfl ?_
      refine n_getE dX12_filter_40 fl_X12_123 rfl (hn) ?_
      refine n_iload_n dX12_filter_43 rfl ?_
      refine n_iast (j := 4) dX12_filter_44 (by decide) rfl rfl (show _ < 14 by omega) ?_
      refine n_aload_n dX12_filter_45 rfl ?_
      refine n_get dX12_filter_46 fl_X12_25 rfl ?_
      refine n_aload_n dX12_filter_49 rfl ?_
      refine n_getE dX12_filter_50 fl_X12_123 rfl (hn) ?_
      refine n_iload_n dX12_filter_53 rfl ?_
      refine n_iast (j := 5) dX12_filter_54 (by decide) rfl rfl (show _ < 14 by omega) ?_
      refine n_aload_n dX12_filter_55 rfl ?_
      refine n_iconst (v := (nI 2)) dX12_filter_56 (by decide) ?_
      refine n_iload_n dX12_filter_57 rfl ?_
      refine n_iconst (v := (nI 0)) dX12_filter_58 (by decide) ?_
      refine n_aload_n dX12_filter_59 rfl ?_
      refine n_get dX12_filter_60 fl_X12_31 rfl ?_
      refine n_iload_n dX12_filter_63 rfl ?_
      refine n_iald (j := 7) dX12_filter_64 (by decide) rfl rfl (show _ < 14 by omega) hE.2.2.2.2.2.2.2.1 ?_
      refine n_aload_n dX12_filter_65 rfl ?_
      refine n_get dX12_filter_66 fl_X12_34 rfl ?_
      refine n_iload_n dX12_filter_69 rfl ?_
      refine n_iald (j := 8) dX12_filter_70 (by decide) rfl rfl (show _ < 14 by omega) hE.2.2.2.2.2.2.2.2.1 ?_
      refine n_call dX12_filter_71 cv_X12_134 (c_makes (n := nt.length) hn hl) rfl rfl rfl ⟨(Nat.le_of_ble_eq_true rfl), (Nat.le_of_ble_eq_true rfl)⟩ rfl rfl (Nat.le_of_ble_eq_true rfl) (fun v S2 hq2 => ?_)
      obtain ⟨rfl, rfl⟩ := hq2
      refine n_iret dX12_filter_74 rfl (hQ _ _ (zQm.ok (z11.trans (pk_us (f := S1.1) (k := 11) (x := 0))) hc ⟨rfl, fun e e0 eR e11 e1 e3 e4 e9 e10 => ?_⟩))
      exact h.mk hl (fun j a b => zP0 a b) (fun j hj => (zST_n _ _ _ (by omega)).trans (zST_n _ _ _ (by omega))) (fun j hj i hi => (zSTi hi).trans (zSTi hi)) (by rw [e0]) (fun _ => e1.symm) (fun q => absurd q (by omega)) (fun q => absurd q (by omega)) (fun q => absurd q (by omega)) (fun q => ⟨((zSTo (by decide)).trans zSTs).trans e9.symm, zSTs.trans e10.symm⟩) (fun q => absurd q (by omega)) e3.symm e4.symm eR e11
    · refine n_iconst (v := (nI 2)) dX12_filter_22 (by decide) ?_
      refine n_goto (tgt := 27) dX12_filter_23 (by decide) ?_
      exact bad 2 (by decide) (by decide) (by rw [zk_filter, if_neg (by rw [znob_f.mpr c1]; decide), if_pos ((nI_eq (b := 14) (by omega) (by decide)).mp h19)])
  · rw [zif_f c1]
    refine n_if_ne (tgt := 13) dX12_filter_6 (by decide) (fun q => absurd (rfl) q) (fun _ => ?_)
    refine n_iconst (v := (nI 1)) dX12_filter_9 (by decide) ?_
    refine n_goto (tgt := 27) dX12_filter_10 (by decide) ?_
    exact bad 1 (by decide) (by decide) (by rw [zk_filter, if_pos (znob_t.mpr c1)])
set_option maxRecDepth 100000 in
theorem c_m_group {x y z : Int32} (h : zrM S nt lim mem wk slow r L A tk sp cs un) : zMN G yX12_group kX12_group m [.int x, .int y, .int z] S (fun v S' => zQm v S' (zk_group nt.length x y z) (v = some (.int (nI nt.length)) ∧ ∀ e : zNX, e.2.1 = 4 → e.2.2.2 = [] → e.2.2.1 11 = 0 → e.2.2.1 1 = x → e.2.2.1 3 = (nt.getD x.toNatClampNeg zdf).2.2.1 3 → e.2.2.1 4 = z → e.2.2.1 7 = y → e.2.2.1 6 = z → zrM S' (nt ++ [e]) lim mem wk slow r L A tk sp cs un) (zrM S' nt lim mem wk slow r L A tk sp cs un)) := by
  refine zMN.of (ls := [some (.ref m), some (.int x), some (.int y), some (.int z), none]) (by decide +kernel) ⟨rfl, rfl, rfl⟩ (Nat.le_of_ble_eq_true rfl) (fun _ h => h) fun Q hQ => ?_
  have hn := h.1.1
  have h14 := h.1.2.1
  have bad : ∀ (w : Int32) (c : Nat), 0 < c → c < 9 → zk_group nt.length x y z = c → zNW G kX12_group m Q 61 [some (.ref m), some (.int x), some (.int y), some (.int z), some (.int w)] [.int (nI c), .ref m] S := by
    intro w c c0 c9 hc
    refine n_call dX12_group_61 cv_X12_130 c_fails rfl rfl rfl ⟨(Nat.le_of_ble_eq_true rfl), (Nat.le_of_ble_eq_true rfl)⟩ rfl rfl (Nat.le_of_ble_eq_true rfl) (fun v S1 hq1 => ?_)
    obtain ⟨rfl, rfl⟩ := hq1
    rw [if_pos (show (0 : Int32) < nI c from nI_lt (a := 0) c0 (by omega))]
    refine n_if_eq (tgt := 69) dX12_group_64 (by decide) (fun q => absurd q ((by decide))) (fun _ => ?_)
    refine n_iconst (v := (nI 0)) dX12_group_67 (by decide) ?_
    exact n_iret dX12_group_68 rfl (hQ _ _ (zQm.bad zSF_s hc (by omega) h.thr))
  have mid : ∀ w : Int32, (¬ w = 0 ↔ ¬ ((y < 0 ∨ 3 < y) ∨ (z < 1 ∨ 4 < z))) → zNW G kX12_group m Q 23 [some (.ref m), some (.int x), some (.int y), some (.int z), none] [.int w] S := by
    intro w hw
    refine n_istore dX12_group_23 (by decide) ?_
    refine n_aload_n dX12_group_25 rfl ?_
    refine n_aload_n dX12_group_26 rfl ?_
    refine n_iload_n dX12_group_27 rfl ?_
    refine n_call dX12_group_28 cv_X12_138 (c_is hn) rfl rfl rfl ⟨(Nat.le_of_ble_eq_true rfl), (Nat.le_of_ble_eq_true rfl)⟩ rfl rfl (Nat.le_of_ble_eq_true rfl) (fun v S1 hq1 => ?_)
    obtain ⟨rfl, rfl⟩ := hq1
    by_cases c1 : zis nt.length x
    · rw [zif_t c1]
      refine n_if_ne (tgt := 38) dX12_group_31 (by decide) (fun _ => ?_) (fun q => absurd q ((by decide)))
      refine n_iload dX12_group_38 rfl ?_
      by_cases c2 : w = 0
      · refine n_if_ne (tgt := 47) dX12_group_40 (by decide) (fun q => absurd (c2) q) (fun _ => ?_)
        refine n_iconst (v := (nI 2)) dX12_group_43 (by decide) ?_
        refine n_goto (tgt := 61) dX12_group_44 (by decide) ?_
        exact bad w 2 (by decide) (by decide) (by rw [zk_group, if_neg (by rw [znob_f.mpr c1]; decide), if_pos (by by_cases q : ((y < 0 ∨ 3 < y) ∨ (z < 1 ∨ 4 < z)); exact q; exact absurd c2 (hw.mpr q))])
      · refine n_if_ne (tgt := 47) dX12_group_40 (by decide) (fun _ => ?_) (fun q => absurd q (c2))
        refine n_aload_n dX12_group_47 rfl ?_
        refine n_getE dX12_group_48 fl_X12_123 rfl (hn) ?_
        refine n_bipush (v := (nI 14)) dX12_group_51 (by decide) ?_
        refine n_icmp_ne (tgt := 60) dX12_group_53 (by decide) (fun h53 => ?_) (fun h53 => ?_)
        · have hl : nt.length < 14 := Nat.lt_of_le_of_ne h14 fun q => h53 (by rw [q])
          obtain ⟨i, hi, rfl⟩ := zis_of (by omega) c1
          have hE := zrE_of h hi
          unfold zrE at hE
          have hc : zk_group nt.length (nI i) y z = 0 := by rw [zk_group, if_neg (by rw [znob_f.mpr c1]; decide), if_neg (hw.mp c2), if_neg (by omega)]
          rw [nI_clamp (by omega)] at hQ
          refine n_iconst (v := (nI 0)) dX12_group_60 (by decide) ?_
          refine n_call dX12_group_61 cv_X12_130 c_fails rfl rfl rfl ⟨(Nat.le_of_ble_eq_true rfl), (Nat.le_of_ble_eq_true rfl)⟩ rfl rfl (Nat.le_of_ble_eq_true rfl) (fun v S2 hq2 => ?_)
          obtain ⟨rfl, rfl⟩ := hq2
          refine n_if_eq (tgt := 69) dX12_group_64 (by decide) (fun _ => ?_) (fun q => absurd (rfl) q)
          refine n_aload_n dX12_group_69 rfl ?_
          refine n_get dX12_group_70 fl_X12_19 rfl ?_
          refine n_aload_n dX12_group_73 rfl ?_
          refine n_getE dX12_group_74 fl_X12_123 rfl (hn) ?_
          refine n_iload_n dX12_group_77 rfl ?_
          refine n_iast (j := 3) dX12_group_78 (by decide) rfl rfl (show _ < 14 by omega) ?_
          refine n_aload_n dX12_group_79 rfl ?_
          refine n_get dX12_group_80 fl_X12_28 rfl ?_
          refine n_aload_n dX12_group_83 rfl ?_
          refine n_getE dX12_group_84 fl_X12_123 rfl (hn) ?_
          refine n_iload_n dX12_group_87 rfl ?_
          refine n_iast (j := 6) dX12_group_88 (by decide) rfl rfl (show _ < 14 by omega) ?_
          refine n_aload_n dX12_group_89 rfl ?_
          refine n_iconst (v := (nI 4)) dX12_group_90 (by decide) ?_
          refine n_iload_n dX12_group_91 rfl ?_
          refine n_iconst (v := (nI 0)) dX12_group_92 (by decide) ?_
          refine n_aload_n dX12_group_93 rfl ?_
          refine n_get dX12_group_94 fl_X12_31 rfl ?_
          refine n_iload_n dX12_group_97 rfl ?_
          refine n_iald (j := 7) dX12_group_98 (by decide) rfl rfl (show _ < 14 by omega) hE.2.2.2.2.2.2.2.1 ?_
          refine n_iload_n dX12_group_99 rfl ?_
          refine n_call dX12_group_100 cv_X12_134 (c_makes (n := nt.length) hn hl) rfl rfl rfl ⟨(Nat.le_of_ble_eq_true rfl), (Nat.le_of_ble_eq_true rfl)⟩ rfl rfl (Nat.le_of_ble_eq_true rfl) (fun v S2 hq2 => ?_)
          obtain ⟨rfl, rfl⟩ := hq2
          refine n_iret dX12_group_103 rfl (hQ _ _ (zQm.ok (z11.trans (pk_us (f := S1.1) (k := 11) (x := 0))) hc ⟨rfl, fun e e0 eR e11 e1 e3 e4 e7 e6 => ?_⟩))
          exact h.mk hl (fun j a b => zP0 a b) (fun j hj => (zST_n _ _ _ (by omega)).trans (zST_n _ _ _ (by omega))) (fun j hj i hi => (zSTi hi).trans (zSTi hi)) (by rw [e0]) (fun _ => e1.symm) (fun q => absurd q (by omega)) (fun q => ((zSTo (by decide)).trans zSTs).trans e7.symm) (fun q => absurd q (by omega)) (fun q => absurd q (by omega)) (fun q => zSTs.trans e6.symm) e3.symm e4.symm eR e11
        · refine n_iconst (v := (nI 3)) dX12_group_56 (by decide) ?_
          refine n_goto (tgt := 61) dX12_group_57 (by decide) ?_
          exact bad w 3 (by decide) (by decide) (by rw [zk_group, if_neg (by rw [znob_f.mpr c1]; decide), if_neg (hw.mp c2), if_pos ((nI_eq (b := 14) (by omega) (by decide)).mp h53)])
    · rw [zif_f c1]
      refine n_if_ne (tgt := 38) dX12_group_31 (by decide) (fun q => absurd (rfl) q) (fun _ => ?_)
      refine n_iconst (v := (nI 1)) dX12_group_34 (by decide) ?_
      refine n_goto (tgt := 61) dX12_group_35 (by decide) ?_
      exact bad w 1 (by decide) (by decide) (by rw [zk_group, if_pos (znob_t.mpr c1)])
  have no : ((y < 0 ∨ 3 < y) ∨ (z < 1 ∨ 4 < z)) → zNW G kX12_group m Q 22 [some (.ref m), some (.int x), some (.int y), some (.int z), none] [] S := fun q => by
    refine n_iconst (v := (nI 0)) dX12_group_22 (by decide) ?_
    exact mid _ ⟨fun w => absurd rfl w, fun w => absurd q w⟩
  refine n_iload_n dX12_group_0 rfl ?_
  refine n_if_lt (tgt := 22) dX12_group_1 (by decide) (fun h1 => ?_) (fun h1 => ?_)
  · exact no (Or.inl (Or.inl h1))
  · refine n_iload_n dX12_group_4 rfl ?_
    refine n_iconst (v := (nI 4)) dX12_group_5 (by decide) ?_
    refine n_icmp_ge (tgt := 22) dX12_group_6 (by decide) (fun h6 => ?_) (fun h6 => ?_)
    · refine no (Or.inl (Or.inr ?_))
      exact Int32.lt_of_lt_of_le (by decide) h6
    · refine n_iload_n dX12_group_9 rfl ?_
      refine n_if_le (tgt := 22) dX12_group_10 (by decide) (fun h10 => ?_) (fun h10 => ?_)
      · refine no (Or.inr (Or.inl ?_))
        exact Int32.lt_of_le_of_lt h10 (by decide)
      · refine n_iload_n dX12_group_13 rfl ?_
        refine n_iconst (v := (nI 5)) dX12_group_14 (by decide) ?_
        refine n_icmp_ge (tgt := 22) dX12_group_15 (by decide) (fun h15 => ?_) (fun h15 => ?_)
        · refine no (Or.inr (Or.inr ?_))
          exact Int32.lt_of_lt_of_le (by decide) h15
        · refine n_iconst (v := (nI 1)) dX12_group_18 (by decide) ?_
          refine n_goto (tgt := 23) dX12_group_19 (by decide) ?_
          refine mid _ ⟨fun _ => ?_, fun _ => by decide⟩
          have i6 : ¬ (4 ≤ y.toInt) := fun q => h6 (Int32.le_iff_toInt_le.mpr q)
          have i10 : ¬ (z.toInt ≤ 0) := fun q => h10 (Int32.le_iff_toInt_le.mpr q)
          have i15 : ¬ (5 ≤ z.toInt) := fun q => h15 (Int32.le_iff_toInt_le.mpr q)
          rintro ((q | q) | (q | q))
          · exact h1 q
          · have : (3 : Int) < y.toInt := Int32.lt_iff_toInt_lt.mp q; omega
          · have : z.toInt < (1 : Int) := Int32.lt_iff_toInt_lt.mp q; omega
          · have : (4 : Int) < z.toInt := Int32.lt_iff_toInt_lt.mp q; omega
end
