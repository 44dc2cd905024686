-- model
/-! the model: mark, the cache's answers, the latest run -/
def zsame (ip : Bool) (lim : Nat) (e e' : zNX) : Prop := e.2.2.1 1 = e'.2.2.1 1 ∧ e.2.2.1 2 = e'.2.2.1 2 ∧ ∀ P T : List zP2, zcont ip lim e.2.1 e.2.2.1 e.2.2.2 P T = zcont ip lim e'.2.1 e'.2.2.1 e'.2.2.2 P T
theorem zall_cg {ip : Bool} {lim : Nat} : ∀ (nt nt' : zNT) (L : List (List zP2)), nt.length = nt'.length → (∀ (i : Nat) (e e' : zNX), nt[i]? = some e → nt'[i]? = some e' → zsame ip lim e e') →
    nt.foldl (fun L e => L ++ [zcont ip lim e.2.1 e.2.2.1 e.2.2.2 (zget L (e.2.2.1 1)) (zget L (e.2.2.1 2))]) L = nt'.foldl (fun L e => L ++ [zcont ip lim e.2.1 e.2.2.1 e.2.2.2 (zget L (e.2.2.1 1)) (zget L (e.2.2.1 2))]) L
  | [], [], L, _, _ => rfl
  | [], b :: t, L, h, _ => by simp at h
  | a :: t, [], L, h, _ => by simp at h
  | a :: t, b :: u, L, h, hs => by
    obtain ⟨h1, h2, h3⟩ := hs 0 a b rfl rfl
    rw [List.foldl_cons, List.foldl_cons, h1, h2, h3]
    exact zall_cg t u _ (by simpa using h) fun i e e' p q => hs (i + 1) e e' (by simpa using p) (by simpa using q)
theorem zcont_up {ip : Bool} {lim k : Nat} {D : Nat → Int32} {R : zP2} {P T : List zP2} {b : Int32} : zcont ip lim k (upd D 11 b) R P T = zcont ip lim k D R P T := by
  have e : ∀ j, j ≠ 11 → upd D 11 b j = D j := fun j h => pk_un h
  have m1 : zmapP (upd D 11 b) = zmapP D := by funext p; simp only [zmapP, zmk, zmv, e 7 (by decide), e 8 (by decide)]
  have m2 : zsifP (upd D 11 b) = zsifP D := by funext p; simp only [zsifP, e 9 (by decide), e 10 (by decide)]
  have m3 : zgrp (upd D 11 b) = zgrp D := by
    have g0 : ∀ y, zg0 (upd D 11 b) y = zg0 D y := fun y => by simp only [zg0, e 7 (by decide)]
    have g1 : ∀ x y, zg1 (upd D 11 b) x y = zg1 D x y := fun x y => by simp only [zg1, g0, e 7 (by decide)]
    have ga : zgad (upd D 11 b) = zgad D := by funext R q; simp only [zgad, g0, g1]
    funext R; simp only [zgrp, ga]
  have m4 : ztp ip (upd D 11 b) = ztp ip D := by simp only [ztp, e 6 (by decide)]
  simp only [zcont, m1, m2, m3, m4]
theorem zcon_mark {ip : Bool} {lim i j : Nat} {nt : zNT} {b : Int32} : zcon ip lim (zmark nt i b) j = zcon ip lim nt j := by
  unfold zcon zall
  rw [zall_cg (zmark nt i b) nt [] (by rw [zmark, List.length_set]) fun k e e' h1 h2 => ?_]
  unfold zmark at h1
  by_cases c : i = k
  · subst c
    rw [List.getElem?_set_self (zR_lt h2)] at h1
    cases h1
    rw [zget_at h2]
    exact ⟨pk_un (f := e'.2.2.1) (k := 11) (x := b) (show 1 ≠ 11 by decide), pk_un (f := e'.2.2.1) (k := 11) (x := b) (show 2 ≠ 11 by decide), fun P T => zcont_up⟩
  · rw [List.getElem?_set_ne c, h2] at h1
    cases h1
    exact ⟨rfl, rfl, fun _ _ => rfl⟩
theorem zct_mark {lim i j : Nat} {nt : zNT} {b : Int32} : zct lim (zmark nt i b) j = zct lim nt j := zcon_mark
section
variable {G : zG} {m : Nat} {nt : zNT} {lim mem wk r tk sp cs un : Nat} {slow : Nat → Nat} {L : zNS} {A : List zAE} {S : zMS}
set_option maxRecDepth 100000 in
theorem c_m_mark {x b : Int32} (hb : b = 0 ∨ b = 1) (h : zrM S nt lim mem wk slow r L A tk sp cs un) : zMN G yX12_mark kX12_mark m [.int x, .int b] S (fun v S' => zQm v S' (zk_node nt.length x) (v = some (.int ((nt.getD x.toNatClampNeg zdf).2.2.1 11)) ∧ zrM S' (zmark nt x.toNatClampNeg b) lim mem wk slow r L A tk sp cs un) (zrM S' nt lim mem wk slow r L A tk sp cs un)) := by
  refine zMN.of (ls := [some (.ref m), some (.int x), some (.int b), none]) (by decide +kernel) ⟨rfl, rfl, rfl⟩ (Nat.le_of_ble_eq_true rfl) (fun _ h => h) fun Q hQ => ?_
  have hn := h.1.1
  have h14 := h.1.2.1
  have hbn : narrow .boolean (.int b) = .int b := by rcases hb with rfl | rfl <;> rfl
  refine n_aload_n dX12_mark_0 rfl ?_
  refine n_aload_n dX12_mark_1 rfl ?_
  refine n_iload_n dX12_mark_2 rfl ?_
  refine n_call dX12_mark_3 cv_X12_138 (c_is hn) rfl rfl rfl ⟨(Nat.le_of_ble_eq_true rfl), (Nat.le_of_ble_eq_true rfl)⟩ rfl rfl (Nat.le_of_ble_eq_true rfl) (fun v S1 hq1 => ?_)
  obtain ⟨rfl, hS⟩ := hq1
  subst hS
  by_cases c1 : zis nt.length x
  · rw [zif_t c1]
    obtain ⟨i, hi, rfl⟩ := zis_of (by omega) c1
    have hk : zk_node nt.length (nI i) = 0 := by rw [zk_node, if_neg (by rw [znob_f.mpr c1]; decide)]
    rw [nI_clamp (by omega)] at hQ
    have hE := zrE_of h hi
    unfold zrE at hE
    have hE17 := hE.2.2.2.2.2.2.2.2.2.2.2.1
    have hE01 := hE.2.2.2.2.2.2.2.2.2.2.2.2
    have nn : narrow .boolean (.int ((nt.getD i zdf).2.2.1 11)) = .int ((nt.getD i zdf).2.2.1 11) := by rcases hE01 with q | q <;> rw [q] <;> rfl
    refine n_if_eq (tgt := 13) dX12_mark_6 (by decide) (fun q => absurd q ((by decide))) (fun _ => ?_)
    refine n_iconst (v := (nI 0)) dX12_mark_9 (by decide) ?_
    refine n_goto (tgt := 14) dX12_mark_10 (by decide) ?_
    refine n_call dX12_mark_14 cv_X12_130 c_fails rfl rfl rfl ⟨(Nat.le_of_ble_eq_true rfl), (Nat.le_of_ble_eq_true rfl)⟩ rfl rfl (Nat.le_of_ble_eq_true rfl) (fun v S2 hq2 => ?_)
    obtain ⟨rfl, rfl⟩ := hq2
    refine n_if_eq (tgt := 22) dX12_mark_17 (by decide) (fun _ => ?_) (fun q => absurd (rfl) q)
    refine n_aload_n dX12_mark_22 rfl ?_
    refine n_get dX12_mark_23 fl_X12_71 rfl ?_
    refine n_iload_n dX12_mark_26 rfl ?_
    refine n_zald (j := 17) dX12_mark_27 (by decide) rfl rfl (show _ < 14 by omega) hE17 ?_
    refine n_istore_n dX12_mark_28 (by decide) ?_
    refine n_aload_n dX12_mark_29 rfl ?_
    refine n_get dX12_mark_30 fl_X12_71 rfl ?_
    refine n_iload_n dX12_mark_33 rfl ?_
    refine n_iload_n dX12_mark_34 rfl ?_
    refine n_zast (j := 17) dX12_mark_35 (by decide) rfl rfl (show _ < 14 by omega) hbn ?_
    refine n_iload_n dX12_mark_36 rfl ?_
    refine n_zret dX12_mark_37 rfl nn (hQ _ _ (zQm.ok (show upd S1.1 11 (nI 0) 11 = 0 from pk_us) hk ⟨rfl, ?_, ⟨h.2.1.1, fun q j hj => ?_⟩, h.2.2.1.cg (fun j a c => pk_un (by omega)) rfl, h.2.2.2.1.cg rfl rfl rfl, h.2.2.2.2.cg (fun j a c => pk_un (by omega)) fun j a c => zST_n _ _ _ (by omega)⟩))
    · refine h.1.set hi rfl (fun k e hki hkl hke hk2 => ?_) ?_ (fun k hki => ⟨rfl, zSTn hki⟩)
      · have e17 : (zST (zSF S1 11 (nI 0)) 17 i b).2 17 k = S1.2 17 k := zSTn hki
        unfold zrE at hk2 ⊢
        rw [e17]
        exact hk2
      · unfold zrE
        have hu : ∀ j, j ≠ 11 → upd (nt.getD i zdf).2.2.1 11 b j = (nt.getD i zdf).2.2.1 j := fun j hj => pk_un hj
        refine ⟨hE.1, fun q => (hE.2.1 q).trans (hu 1 (by decide)).symm, fun q => (hE.2.2.1 q).trans (hu 2 (by decide)).symm, fun q => (hE.2.2.2.1 q).trans (hu 7 (by decide)).symm, fun q => (hE.2.2.2.2.1 q).trans (hu 8 (by decide)).symm, fun q => ⟨(hE.2.2.2.2.2.1 q).1.trans (hu 9 (by decide)).symm, (hE.2.2.2.2.2.1 q).2.trans (hu 10 (by decide)).symm⟩, fun q => (hE.2.2.2.2.2.2.1 q).trans (hu 6 (by decide)).symm, hE.2.2.2.2.2.2.2.1.trans (hu 3 (by decide)).symm, hE.2.2.2.2.2.2.2.2.1.trans (hu 4 (by decide)).symm, hE.2.2.2.2.2.2.2.2.2.1, hE.2.2.2.2.2.2.2.2.2.2.1, zSTs.trans (show b = upd (nt.getD i zdf).2.2.1 11 b 11 from pk_us.symm), ?_⟩
        show upd (nt.getD i zdf).2.2.1 11 b 11 = 0 ∨ upd (nt.getD i zdf).2.2.1 11 b 11 = 1
        rw [pk_us]
        exact hb
    · rw [zct_mark]
      rw [show (zmark nt i b).length = nt.length from List.length_set] at hj
      exact (h.2.1.2 q j hj).cg fun _ _ _ => zST_n _ _ _ (by omega)
  · rw [zif_f c1]
    refine n_if_eq (tgt := 13) dX12_mark_6 (by decide) (fun _ => ?_) (fun q => absurd (rfl) q)
    refine n_iconst (v := (nI 1)) dX12_mark_13 (by decide) ?_
    refine n_call dX12_mark_14 cv_X12_130 c_fails rfl rfl rfl ⟨(Nat.le_of_ble_eq_true rfl), (Nat.le_of_ble_eq_true rfl)⟩ rfl rfl (Nat.le_of_ble_eq_true rfl) (fun v S2 hq2 => ?_)
    obtain ⟨rfl, rfl⟩ := hq2
    refine n_if_eq (tgt := 22) dX12_mark_17 (by decide) (fun q => absurd q ((by decide))) (fun _ => ?_)
    refine n_iconst (v := (nI 0)) dX12_mark_20 (by decide) ?_
    exact n_zret dX12_mark_21 rfl rfl (hQ _ _ (zQm.bad (c' := 1) zSF_s (by rw [zk_node, if_pos (znob_t.mpr c1)]) (by decide) h.thr))
set_option maxRecDepth 100000 in
theorem c_m_isCached {x : Int32} (h : zrM S nt lim mem wk slow r L A tk sp cs un) : zMN G yX12_isCached kX12_isCached m [.int x] S (fun v S' => zQm v S' (zk_node nt.length x) (v = some (.int (if zcd L x.toNatClampNeg = true then 1 else 0)) ∧ zrM S' nt lim mem wk slow r L A tk sp cs un) (zrM S' nt lim mem wk slow r L A tk sp cs un)) := by
  refine zMN.of (ls := [some (.ref m), some (.int x)]) (by decide +kernel) ⟨rfl, rfl, rfl⟩ (Nat.le_of_ble_eq_true rfl) (fun _ h => h) fun Q hQ => ?_
  have hn := h.1.1
  have h14 := h.1.2.1
  refine n_aload_n dX12_isCached_0 rfl ?_
  refine n_aload_n dX12_isCached_1 rfl ?_
  refine n_iload_n dX12_isCached_2 rfl ?_
  refine n_call dX12_isCached_3 cv_X12_138 (c_is hn) rfl rfl rfl ⟨(Nat.le_of_ble_eq_true rfl), (Nat.le_of_ble_eq_true rfl)⟩ rfl rfl (Nat.le_of_ble_eq_true rfl) (fun v S1 hq1 => ?_)
  obtain ⟨rfl, hS⟩ := hq1
  subst hS
  by_cases c1 : zis nt.length x
  · rw [zif_t c1]
    obtain ⟨i, hi, rfl⟩ := zis_of (by omega) c1
    have hk : zk_node nt.length (nI i) = 0 := by rw [zk_node, if_neg (by rw [znob_f.mpr c1]; decide)]
    rw [nI_clamp (by omega)] at hQ
    refine n_if_eq (tgt := 13) dX12_isCached_6 (by decide) (fun q => absurd q ((by decide))) (fun _ => ?_)
    refine n_iconst (v := (nI 0)) dX12_isCached_9 (by decide) ?_
    refine n_goto (tgt := 14) dX12_isCached_10 (by decide) ?_
    refine n_call dX12_isCached_14 cv_X12_130 c_fails rfl rfl rfl ⟨(Nat.le_of_ble_eq_true rfl), (Nat.le_of_ble_eq_true rfl)⟩ rfl rfl (Nat.le_of_ble_eq_true rfl) (fun v S2 hq2 => ?_)
    obtain ⟨rfl, rfl⟩ := hq2
    refine n_if_ne (tgt := 33) dX12_isCached_17 (by decide) (fun q => absurd (rfl) q) (fun _ => ?_)
    refine n_aload_n dX12_isCached_20 rfl ?_
    refine n_get dX12_isCached_21 fl_X12_75 rfl ?_
    refine n_iload_n dX12_isCached_24 rfl ?_
    refine n_zald (j := 18) dX12_isCached_25 (by decide) rfl rfl (show _ < 14 by omega) (h.2.2.2.1.1 i (by omega)) ?_
    by_cases c2 : zcd L i = true
    · rw [if_pos c2] at hQ ⊢
      refine n_if_eq (tgt := 33) dX12_isCached_26 (by decide) (fun q => absurd q ((by decide))) (fun _ => ?_)
      refine n_iconst (v := (nI 1)) dX12_isCached_29 (by decide) ?_
      refine n_goto (tgt := 34) dX12_isCached_30 (by decide) ?_
      exact n_zret dX12_isCached_34 rfl rfl (hQ _ _ (zQm.ok zSF_s hk ⟨rfl, h.thr⟩))
    · rw [if_neg c2] at hQ ⊢
      refine n_if_eq (tgt := 33) dX12_isCached_26 (by decide) (fun _ => ?_) (fun q => absurd (rfl) q)
      refine n_iconst (v := (nI 0)) dX12_isCached_33 (by decide) ?_
      exact n_zret dX12_isCached_34 rfl rfl (hQ _ _ (zQm.ok zSF_s hk ⟨rfl, h.thr⟩))
  · rw [zif_f c1]
    refine n_if_eq (tgt := 13) dX12_isCached_6 (by decide) (fun _ => ?_) (fun q => absurd (rfl) q)
    refine n_iconst (v := (nI 1)) dX12_isCached_13 (by decide) ?_
    refine n_call dX12_isCached_14 cv_X12_130 c_fails rfl rfl rfl ⟨(Nat.le_of_ble_eq_true rfl), (Nat.le_of_ble_eq_true rfl)⟩ rfl rfl (Nat.le_of_ble_eq_true rfl) (fun v S2 hq2 => ?_)
    obtain ⟨rfl, rfl⟩ := hq2
    refine n_if_ne (tgt := 33) dX12_isCached_17 (by decide) (fun _ => ?_) (fun q => absurd q ((by decide)))
    refine n_iconst (v := (nI 0)) dX12_isCached_33 (by decide) ?_
    exact n_zret dX12_isCached_34 rfl rfl (hQ _ _ (zQm.bad (c' := 1) zSF_s (by rw [zk_node, if_pos (znob_t.mpr c1)]) (by decide) h.thr))
theorem nI4_lt {x : Int32} (h : ¬ x < 0) : (x < 4 → ∃ k, k < 4 ∧ x = nI k) ∧ (¬ x < 4 → 4 ≤ x) := by
  obtain ⟨k, hk, rfl⟩ := nI_of h
  exact ⟨fun q => ⟨k, (nI_ltI (b := 4) hk (by decide)).mp q, rfl⟩, fun q => Int32.not_lt.mp q⟩
set_option maxRecDepth 100000 in
theorem c_m_setSlowness {x y : Int32} (h : zrM S nt lim mem wk slow r L A tk sp cs un) : zMN G yX12_setSlowness kX12_setSlowness m [.int x, .int y] S (fun v S' => zQm v S' (zk_slow x y) (v = some (.int (nI (slow x.toNatClampNeg))) ∧ zrM S' nt lim mem wk (zun slow x.toNatClampNeg y.toNatClampNeg) r L A tk sp cs un) (zrM S' nt lim mem wk slow r L A tk sp cs un)) := by
  refine zMN.of (ls := [some (.ref m), some (.int x), some (.int y), none]) (by decide +kernel) ⟨rfl, rfl, rfl⟩ (Nat.le_of_ble_eq_true rfl) (fun _ h => h) fun Q hQ => ?_
  have bad : ∀ c, 0 < c → c < 9 → zk_slow x y = c → zNW G kX12_setSlowness m Q 30 [some (.ref m), some (.int x), some (.int y), none] [.int (nI c), .ref m] S := by
    intro c c0 c9 hc
    refine n_call dX12_setSlowness_30 cv_X12_130 c_fails rfl rfl rfl ⟨(Nat.le_of_ble_eq_true rfl), (Nat.le_of_ble_eq_true rfl)⟩ rfl rfl (Nat.le_of_ble_eq_true rfl) (fun v S1 hq1 => ?_)
    obtain ⟨rfl, rfl⟩ := hq1
    rw [if_pos (show (0 : Int32) < nI c from nI_lt (a := 0) c0 (by omega))]
    refine n_if_eq (tgt := 38) dX12_setSlowness_33 (by decide) (fun q => absurd q ((by decide))) (fun _ => ?_)
    refine n_iconst (v := (nI 0)) dX12_setSlowness_36 (by decide) ?_
    exact n_iret dX12_setSlowness_37 rfl (hQ _ _ (zQm.bad zSF_s hc (by omega) h.thr))
  have one : (x < 0 ∨ 4 ≤ x) → zNW G kX12_setSlowness m Q 10 [some (.ref m), some (.int x), some (.int y), none] [.ref m] S := by
    intro q
    refine n_iconst (v := (nI 1)) dX12_setSlowness_10 (by decide) ?_
    refine n_goto (tgt := 30) dX12_setSlowness_11 (by decide) ?_
    exact bad 1 (by decide) (by decide) (by rw [zk_slow, if_pos q])
  refine n_aload_n dX12_setSlowness_0 rfl ?_
  refine n_iload_n dX12_setSlowness_1 rfl ?_
  refine n_if_lt (tgt := 10) dX12_setSlowness_2 (by decide) (fun h2 => ?_) (fun h2 => ?_)
  · exact one (Or.inl h2)
  · refine n_iload_n dX12_setSlowness_5 rfl ?_
    refine n_iconst (v := (nI 4)) dX12_setSlowness_6 (by decide) ?_
    refine n_icmp_lt (tgt := 14) dX12_setSlowness_7 (by decide) (fun h7 => ?_) (fun h7 => ?_)
    · obtain ⟨k, hk, rfl⟩ := (nI4_lt h2).1 h7
      have cx : ¬ (nI k < 0 ∨ 4 ≤ nI k) := by rintro (q | q); exact h2 q; exact absurd h7 (Int32.not_lt.mpr q)
      have two : (y < 1 ∨ 9 < y) → zNW G kX12_setSlowness m Q 25 [some (.ref m), some (.int (nI k)), some (.int y), none] [.ref m] S := by
        intro q
        refine n_iconst (v := (nI 2)) dX12_setSlowness_25 (by decide) ?_
        refine n_goto (tgt := 30) dX12_setSlowness_26 (by decide) ?_
        exact bad 2 (by decide) (by decide) (by rw [zk_slow, if_neg cx, if_pos q])
      refine n_iload_n dX12_setSlowness_14 rfl ?_
      refine n_iconst (v := (nI 1)) dX12_setSlowness_15 (by decide) ?_
      refine n_icmp_lt (tgt := 25) dX12_setSlowness_16 (by decide) (fun h16 => ?_) (fun h16 => ?_)
      · exact two (Or.inl h16)
      · refine n_iload_n dX12_setSlowness_19 rfl ?_
        refine n_bipush (v := (nI 9)) dX12_setSlowness_20 (by decide) ?_
        refine n_icmp_le (tgt := 29) dX12_setSlowness_22 (by decide) (fun h22 => ?_) (fun h22 => ?_)
        · obtain ⟨p, p1, p2, rfl⟩ := nI_four (n := 9) (by decide) h16 h22
          have cy : ¬ (nI p < 1 ∨ 9 < nI p) := by rintro (q | q); exact h16 q; exact absurd q (Int32.not_lt.mpr h22)
          rw [nI_clamp (show k < 2 ^ 31 by omega), nI_clamp (show p < 2 ^ 31 by omega)] at hQ
          refine n_iconst (v := (nI 0)) dX12_setSlowness_29 (by decide) ?_
          refine n_call dX12_setSlowness_30 cv_X12_130 c_fails rfl rfl rfl ⟨(Nat.le_of_ble_eq_true rfl), (Nat.le_of_ble_eq_true rfl)⟩ rfl rfl (Nat.le_of_ble_eq_true rfl) (fun v S1 hq1 => ?_)
          obtain ⟨rfl, rfl⟩ := hq1
          refine n_if_eq (tgt := 38) dX12_setSlowness_33 (by decide) (fun _ => ?_) (fun q => absurd (rfl) q)
          refine n_aload_n dX12_setSlowness_38 rfl ?_
          refine n_get dX12_setSlowness_39 fl_X12_68 rfl ?_
          refine n_iload_n dX12_setSlowness_42 rfl ?_
          refine n_iald (j := 16) dX12_setSlowness_43 (by decide) rfl rfl (show _ < 4 by omega) (h.2.2.1.2.2.2.2 k hk) ?_
          refine n_istore_n dX12_setSlowness_44 (by decide) ?_
          refine n_aload_n dX12_setSlowness_45 rfl ?_
          refine n_get dX12_setSlowness_46 fl_X12_68 rfl ?_
          refine n_iload_n dX12_setSlowness_49 rfl ?_
          refine n_iload_n dX12_setSlowness_50 rfl ?_
          refine n_iast (j := 16) dX12_setSlowness_51 (by decide) rfl rfl (show _ < 4 by omega) ?_
          refine n_iload_n dX12_setSlowness_52 rfl ?_
          refine n_iret dX12_setSlowness_53 rfl (hQ _ _ (zQm.ok (show upd S.1 11 (nI 0) 11 = 0 from pk_us) (by rw [zk_slow, if_neg cx, if_neg cy]) ⟨rfl, h.1.cg rfl fun j a => zST_n _ _ _ (by omega), h.2.1.cg rfl fun j a c => zST_n _ _ _ (by omega), ⟨h.2.2.1.1, h.2.2.1.2.1, h.2.2.1.2.2.1, h.2.2.1.2.2.2.1, fun i hi => ?_⟩, h.2.2.2.1.cg rfl rfl rfl, h.2.2.2.2.cg (fun j a c => pk_un (by omega)) fun j a c => zST_n _ _ _ (by omega)⟩))
          by_cases e : i = k
          · subst e; rw [zSTs, zun_s]
          · rw [zSTn e, zun_n e]; exact h.2.2.1.2.2.2.2 i hi
        · exact two (Or.inr (Int32.not_le.mp h22))
    · exact one (Or.inr ((nI4_lt h2).2 h7))
set_option maxRecDepth 100000 in
theorem c_m_setLimit {x : Int32} (h : zrM S nt lim mem wk slow r L A tk sp cs un) : zMN G yX12_setLimit kX12_setLimit m [.int x] S (fun v S' => zQm v S' (zk_1000 x) (v = some (.int (nI lim)) ∧ zrM S' nt x.toNatClampNeg mem wk slow r [] A tk sp cs un) (zrM S' nt lim mem wk slow r L A tk sp cs un)) := by
  refine zMN.of (ls := [some (.ref m), some (.int x), none]) (by decide +kernel) ⟨rfl, rfl, rfl⟩ (Nat.le_of_ble_eq_true rfl) (fun _ h => h) fun Q hQ => ?_
  have bad : (x < 0 ∨ 1000 < x) → zNW G kX12_setLimit m Q 12 [some (.ref m), some (.int x), none] [.ref m] S := by
    intro q
    refine n_iconst (v := (nI 1)) dX12_setLimit_12 (by decide) ?_
    refine n_goto (tgt := 17) dX12_setLimit_13 (by decide) ?_
    refine n_call dX12_setLimit_17 cv_X12_130 c_fails rfl rfl rfl ⟨(Nat.le_of_ble_eq_true rfl), (Nat.le_of_ble_eq_true rfl)⟩ rfl rfl (Nat.le_of_ble_eq_true rfl) (fun v S1 hq1 => ?_)
    obtain ⟨rfl, rfl⟩ := hq1
    refine n_if_eq (tgt := 25) dX12_setLimit_20 (by decide) (fun q => absurd q ((by decide))) (fun _ => ?_)
    refine n_iconst (v := (nI 0)) dX12_setLimit_23 (by decide) ?_
    exact n_iret dX12_setLimit_24 rfl (hQ _ _ (zQm.bad (c' := 1) zSF_s (by rw [zk_1000, if_pos q]) (by decide) h.thr))
  refine n_aload_n dX12_setLimit_0 rfl ?_
  refine n_iload_n dX12_setLimit_1 rfl ?_
  refine n_if_lt (tgt := 12) dX12_setLimit_2 (by decide) (fun h2 => ?_) (fun h2 => ?_)
  · exact bad (Or.inl h2)
  · refine n_iload_n dX12_setLimit_5 rfl ?_
    refine n_sipush (v := (nI 1000)) dX12_setLimit_6 (by decide) ?_
    refine n_icmp_le (tgt := 16) dX12_setLimit_9 (by decide) (fun h9 => ?_) (fun h9 => ?_)
    · obtain ⟨p, hp, rfl⟩ := nI_of h2
      have hc : zk_1000 (nI p) = 0 := by rw [zk_1000]; exact if_neg (by rintro (q | q); exact h2 q; exact absurd q (Int32.not_lt.mpr h9))
      rw [nI_clamp hp] at hQ
      refine n_iconst (v := (nI 0)) dX12_setLimit_16 (by decide) ?_
      refine n_call dX12_setLimit_17 cv_X12_130 c_fails rfl rfl rfl ⟨(Nat.le_of_ble_eq_true rfl), (Nat.le_of_ble_eq_true rfl)⟩ rfl rfl (Nat.le_of_ble_eq_true rfl) (fun v S1 hq1 => ?_)
      obtain ⟨rfl, rfl⟩ := hq1
      refine n_if_eq (tgt := 25) dX12_setLimit_20 (by decide) (fun _ => ?_) (fun q => absurd (rfl) q)
      refine n_aload_n dX12_setLimit_25 rfl ?_
      refine n_getE dX12_setLimit_26 fl_X12_58 rfl (h.2.2.1.1) ?_
      refine n_istore_n dX12_setLimit_29 (by decide) ?_
      refine n_aload_n dX12_setLimit_30 rfl ?_
      refine n_iload_n dX12_setLimit_31 rfl ?_
      refine n_put (j := 2) dX12_setLimit_32 fp_X12_58 (zMFs2 _ _ _) rfl rfl (Nat.le_of_ble_eq_true rfl) ?_
      refine n_aload_n dX12_setLimit_35 rfl ?_
      refine n_call dX12_setLimit_36 cv_X12_141 c_empties rfl rfl rfl ⟨(Nat.le_of_ble_eq_true rfl), (Nat.le_of_ble_eq_true rfl)⟩ rfl rfl (Nat.le_of_ble_eq_true rfl) (fun v S2 hq2 => ?_)
      obtain ⟨rfl, g1', g2, g3⟩ := hq2
      have g1 : S2.1 = upd (upd (upd S.1 11 (nI 0)) 2 (nI p)) 1 0 := g1'
      have ga : ∀ j, j ≠ 18 → S2.2 j = S.2 j := g3
      have gs : ∀ j, 3 ≤ j → j < 11 → S2.1 j = S.1 j := fun j q1 q2 => by rw [g1, pk_un (by omega), pk_un (by omega), pk_un (by omega)]
      refine n_iload_n dX12_setLimit_39 rfl ?_
      refine n_iret dX12_setLimit_40 rfl (hQ _ _ (zQm.ok (by rw [g1, pk_un (by decide), pk_un (by decide)]; exact pk_us) hc ⟨rfl, h.1.cg (by rw [g1, pk_un (by decide), pk_un (by decide), pk_un (by decide)]) fun j a => ga j (by omega), ⟨Or.inl (by rw [g1]; exact pk_us), fun q => absurd ((by rw [g1]; exact pk_us : S2.1 1 = 0).symm.trans q) (by decide)⟩, ?_, zrC_nil h.2.2.2.1 (gs 6 (by decide) (by decide)) g2, h.2.2.2.2.cg (fun j a b => gs j (by omega) b) fun j a b => ga j (by omega)⟩))
      obtain ⟨w1, w2, w3, w4, w5⟩ := h.2.2.1
      exact ⟨by rw [g1, pk_un (by decide)]; exact pk_us, (gs 3 (by decide) (by decide)).trans w2, (gs 4 (by decide) (by decide)).trans w3, (gs 5 (by decide) (by decide)).trans w4, fun k hk => by rw [ga 16 (by decide)]; exact w5 k hk⟩
    · exact bad (Or.inr (Int32.not_le.mp h9))
set_option maxRecDepth 100000 in
theorem c_m_ofAttempt {x : Int32} {j : Nat} (hj : 23 ≤ j ∧ j < 28) (h : zrM S nt lim mem wk slow r L A tk sp cs un) : zMN G yX12_ofAttempt kX12_ofAttempt m [.ref (m + 1 + j), .int x] S (fun v S' => zQm v S' (zk_node A.length x) (v = some (.int (S.2 j x.toNatClampNeg)) ∧ zrM S' nt lim mem wk slow r L A tk sp cs un) (zrM S' nt lim mem wk slow r L A tk sp cs un)) := by
  refine zMN.of (ls := [some (.ref m), some (.ref (m + 1 + j)), some (.int x)]) (by decide +kernel) ⟨rfl, rfl, rfl⟩ (Nat.le_of_ble_eq_true rfl) (fun _ h => h) fun Q hQ => ?_
  have ha := h.2.2.2.2.2.2.2.1
  have hA := h.2.2.2.2.2.2.2.2.1
  have bad : ¬ zis A.length x → zNW G kX12_ofAttempt m Q 17 [some (.ref m), some (.ref (m + 1 + j)), some (.int x)] [.ref m] S := by
    intro q
    refine n_iconst (v := (nI 1)) dX12_ofAttempt_17 (by decide) ?_
    refine n_call dX12_ofAttempt_18 cv_X12_130 c_fails rfl rfl rfl ⟨(Nat.le_of_ble_eq_true rfl), (Nat.le_of_ble_eq_true rfl)⟩ rfl rfl (Nat.le_of_ble_eq_true rfl) (fun v S1 hq1 => ?_)
    obtain ⟨rfl, rfl⟩ := hq1
    refine n_if_eq (tgt := 28) dX12_ofAttempt_21 (by decide) (fun q => absurd q ((by decide))) (fun _ => ?_)
    refine n_iconst (v := (nI 0)) dX12_ofAttempt_24 (by decide) ?_
    refine n_goto (tgt := 31) dX12_ofAttempt_25 (by decide) ?_
    exact n_iret dX12_ofAttempt_31 rfl (hQ _ _ (zQm.bad (c' := 1) zSF_s (by rw [zk_node, if_pos (znob_t.mpr q)]) (by decide) h.thr))
  refine n_aload_n dX12_ofAttempt_0 rfl ?_
  refine n_iload_n dX12_ofAttempt_1 rfl ?_
  refine n_if_lt (tgt := 17) dX12_ofAttempt_2 (by decide) (fun h2 => ?_) (fun h2 => ?_)
  · exact bad (zis_no.mpr (Or.inl h2))
  · refine n_iload_n dX12_ofAttempt_5 rfl ?_
    refine n_aload_n dX12_ofAttempt_6 rfl ?_
    refine n_getE dX12_ofAttempt_7 fl_X12_238 rfl ha ?_
    refine n_icmp_ge (tgt := 17) dX12_ofAttempt_10 (by decide) (fun h10 => ?_) (fun h10 => ?_)
    · exact bad (zis_no.mpr (Or.inr h10))
    · have c1 : zis A.length x := ⟨h2, Int32.not_le.mp h10⟩
      obtain ⟨i, hi, rfl⟩ := zis_of (by omega) c1
      rw [nI_clamp (by omega)] at hQ
      refine n_iconst (v := (nI 0)) dX12_ofAttempt_13 (by decide) ?_
      refine n_goto (tgt := 18) dX12_ofAttempt_14 (by decide) ?_
      refine n_call dX12_ofAttempt_18 cv_X12_130 c_fails rfl rfl rfl ⟨(Nat.le_of_ble_eq_true rfl), (Nat.le_of_ble_eq_true rfl)⟩ rfl rfl (Nat.le_of_ble_eq_true rfl) (fun v S1 hq1 => ?_)
      obtain ⟨rfl, rfl⟩ := hq1
      refine n_if_eq (tgt := 28) dX12_ofAttempt_21 (by decide) (fun _ => ?_) (fun q => absurd (rfl) q)
      refine n_aload_n dX12_ofAttempt_28 rfl ?_
      refine n_iload_n dX12_ofAttempt_29 rfl ?_
      refine n_iald (j := j) dX12_ofAttempt_30 (by omega) ?_ rfl ?_ rfl ?_
      · rcases (show j = 23 ∨ j = 24 ∨ j = 25 ∨ j = 26 ∨ j = 27 by omega) with q | q | q | q | q <;> subst q <;> rfl
      · rcases (show j = 23 ∨ j = 24 ∨ j = 25 ∨ j = 26 ∨ j = 27 by omega) with q | q | q | q | q <;> subst q <;> (show _ < 256; omega)
      · exact n_iret dX12_ofAttempt_31 rfl (hQ _ _ (zQm.ok zSF_s (by rw [zk_node, if_neg (by rw [znob_f.mpr c1]; decide)]) ⟨rfl, h.thr⟩))
set_option maxRecDepth 100000 in
theorem c_m_nodeOf {x : Int32} (h : zrM S nt lim mem wk slow r L A tk sp cs un) : zMN G yX12_nodeOf kX12_nodeOf m [.int x] S (fun v S' => zQm v S' (zk_node A.length x) (v = some (.int (zAc (A.getD x.toNatClampNeg (0, 0, 0, 0, 0, false)) 0)) ∧ zrM S' nt lim mem wk slow r L A tk sp cs un) (zrM S' nt lim mem wk slow r L A tk sp cs un)) := by
  refine zMN.of (ls := [some (.ref m), some (.int x)]) (by decide +kernel) ⟨rfl, rfl, rfl⟩ (Nat.le_of_ble_eq_true rfl) (fun _ h => h) fun Q hQ => ?_
  refine n_aload_n dX12_nodeOf_0 rfl ?_
  refine n_aload_n dX12_nodeOf_1 rfl ?_
  refine n_get dX12_nodeOf_2 fl_X12_90 rfl ?_
  refine n_iload_n dX12_nodeOf_5 rfl ?_
  refine n_call dX12_nodeOf_6 cv_X12_270 (c_m_ofAttempt (j := 23) (by decide) h) rfl rfl rfl ⟨(Nat.le_of_ble_eq_true rfl), (Nat.le_of_ble_eq_true rfl)⟩ rfl rfl (Nat.le_of_ble_eq_true rfl) (fun v S1 hq1 => ?_)
  obtain ⟨⟨w, rfl⟩, q1, q2, q3⟩ := hq1
  have hv : zk_node A.length x = 0 → S.2 23 x.toNatClampNeg = zAc (A.getD x.toNatClampNeg (0, 0, 0, 0, 0, false)) 0 := by
    intro q
    have hA := h.2.2.2.2.2.2.2.2.1
    have c1 : zis A.length x := by
      by_cases c : zis A.length x
      · exact c
      · rw [zk_node, if_pos (znob_t.mpr c)] at q; exact absurd q (by decide)
    obtain ⟨i, hi, rfl⟩ := zis_of (by omega) c1
    have hg : A[i]? = some (A[i]'hi) := List.getElem?_eq_getElem _
    rw [nI_clamp (by omega), List.getD_eq_getElem?_getD, hg]
    exact (h.2.2.2.2.2.2.2.2.2 i _ hg).1
  exact n_iret dX12_nodeOf_9 rfl (hQ _ _ ⟨⟨w, rfl⟩, q1, fun c => ⟨by rw [← hv c]; exact (q2 c).1, (q2 c).2⟩, q3⟩)
set_option maxRecDepth 100000 in
theorem c_m_partitionOf {x : Int32} (h : zrM S nt lim mem wk slow r L A tk sp cs un) : zMN G yX12_partitionOf kX12_partitionOf m [.int x] S (fun v S' => zQm v S' (zk_node A.length x) (v = some (.int (zAc (A.getD x.toNatClampNeg (0, 0, 0, 0, 0, false)) 1)) ∧ zrM S' nt lim mem wk slow r L A tk sp cs un) (zrM S' nt lim mem wk slow r L A tk sp cs un)) := by
  refine zMN.of (ls := [some (.ref m), some (.int x)]) (by decide +kernel) ⟨rfl, rfl, rfl⟩ (Nat.le_of_ble_eq_true rfl) (fun _ h => h) fun Q hQ => ?_
  refine n_aload_n dX12_partitionOf_0 rfl ?_
  refine n_aload_n dX12_partitionOf_1 rfl ?_
  refine n_get dX12_partitionOf_2 fl_X12_93 rfl ?_
  refine n_iload_n dX12_partitionOf_5 rfl ?_
  refine n_call dX12_partitionOf_6 cv_X12_270 (c_m_ofAttempt (j := 24) (by decide) h) rfl rfl rfl ⟨(Nat.le_of_ble_eq_true rfl), (Nat.le_of_ble_eq_true rfl)⟩ rfl rfl (Nat.le_of_ble_eq_true rfl) (fun v S1 hq1 => ?_)
  obtain ⟨⟨w, rfl⟩, q1, q2, q3⟩ := hq1
  have hv : zk_node A.length x = 0 → S.2 24 x.toNatClampNeg = zAc (A.getD x.toNatClampNeg (0, 0, 0, 0, 0, false)) 1 := by
    intro q
    have hA := h.2.2.2.2.2.2.2.2.1
    have c1 : zis A.length x := by
      by_cases c : zis A.length x
      · exact c
      · rw [zk_node, if_pos (znob_t.mpr c)] at q; exact absurd q (by decide)
    obtain ⟨i, hi, rfl⟩ := zis_of (by omega) c1
    have hg : A[i]? = some (A[i]'hi) := List.getElem?_eq_getElem _
    rw [nI_clamp (by omega), List.getD_eq_getElem?_getD, hg]
    exact (h.2.2.2.2.2.2.2.2.2 i _ hg).2.1
  exact n_iret dX12_partitionOf_9 rfl (hQ _ _ ⟨⟨w, rfl⟩, q1, fun c => ⟨by rw [← hv c]; exact (q2 c).1, (q2 c).2⟩, q3⟩)
set_option maxRecDepth 100000 in
theorem c_m_workerOf {x : Int32} (h : zrM S nt lim mem wk slow r L A tk sp cs un) : zMN G yX12_workerOf kX12_workerOf m [.int x] S (fun v S' => zQm v S' (zk_node A.length x) (v = some (.int (zAc (A.getD x.toNatClampNeg (0, 0, 0, 0, 0, false)) 2)) ∧ zrM S' nt lim mem wk slow r L A tk sp cs un) (zrM S' nt lim mem wk slow r L A tk sp cs un)) := by
  refine zMN.of (ls := [some (.ref m), some (.int x)]) (by decide +kernel) ⟨rfl, rfl, rfl⟩ (Nat.le_of_ble_eq_true rfl) (fun _ h => h) fun Q hQ => ?_
  refine n_aload_n dX12_workerOf_0 rfl ?_
  refine n_aload_n dX12_workerOf_1 rfl ?_
  refine n_get dX12_workerOf_2 fl_X12_96 rfl ?_
  refine n_iload_n dX12_workerOf_5 rfl ?_
  refine n_call dX12_workerOf_6 cv_X12_270 (c_m_ofAttempt (j := 25) (by decide) h) rfl rfl rfl ⟨(Nat.le_of_ble_eq_true rfl), (Nat.le_of_ble_eq_true rfl)⟩ rfl rfl (Nat.le_of_ble_eq_true rfl) (fun v S1 hq1 => ?_)
  obtain ⟨⟨w, rfl⟩, q1, q2, q3⟩ := hq1
  have hv : zk_node A.length x = 0 → S.2 25 x.toNatClampNeg = zAc (A.getD x.toNatClampNeg (0, 0, 0, 0, 0, false)) 2 := by
    intro q
    have hA := h.2.2.2.2.2.2.2.2.1
    have c1 : zis A.length x := by
      by_cases c : zis A.length x
      · exact c
      · rw [zk_node, if_pos (znob_t.mpr c)] at q; exact absurd q (by decide)
    obtain ⟨i, hi, rfl⟩ := zis_of (by omega) c1
    have hg : A[i]? = some (A[i]'hi) := List.getElem?_eq_getElem _
    rw [nI_clamp (by omega), List.getD_eq_getElem?_getD, hg]
    exact (h.2.2.2.2.2.2.2.2.2 i _ hg).2.2.1
  exact n_iret dX12_workerOf_9 rfl (hQ _ _ ⟨⟨w, rfl⟩, q1, fun c => ⟨by rw [← hv c]; exact (q2 c).1, (q2 c).2⟩, q3⟩)
set_option maxRecDepth 100000 in
theorem c_m_startOf {x : Int32} (h : zrM S nt lim mem wk slow r L A tk sp cs un) : zMN G yX12_startOf kX12_startOf m [.int x] S (fun v S' => zQm v S' (zk_node A.length x) (v = some (.int (zAc (A.getD x.toNatClampNeg (0, 0, 0, 0, 0, false)) 3)) ∧ zrM S' nt lim mem wk slow r L A tk sp cs un) (zrM S' nt lim mem wk slow r L A tk sp cs un)) := by
  refine zMN.of (ls := [some (.ref m), some (.int x)]) (by decide +kernel) ⟨rfl, rfl, rfl⟩ (Nat.le_of_ble_eq_true rfl) (fun _ h => h) fun Q hQ => ?_
  refine n_aload_n dX12_startOf_0 rfl ?_
  refine n_aload_n dX12_startOf_1 rfl ?_
  refine n_get dX12_startOf_2 fl_X12_99 rfl ?_
  refine n_iload_n dX12_startOf_5 rfl ?_
  refine n_call dX12_startOf_6 cv_X12_270 (c_m_ofAttempt (j := 26) (by decide) h) rfl rfl rfl ⟨(Nat.le_of_ble_eq_true rfl), (Nat.le_of_ble_eq_true rfl)⟩ rfl rfl (Nat.le_of_ble_eq_true rfl) (fun v S1 hq1 => ?_)
  obtain ⟨⟨w, rfl⟩, q1, q2, q3⟩ := hq1
  have hv : zk_node A.length x = 0 → S.2 26 x.toNatClampNeg = zAc (A.getD x.toNatClampNeg (0, 0, 0, 0, 0, false)) 3 := by
    intro q
    have hA := h.2.2.2.2.2.2.2.2.1
    have c1 : zis A.length x := by
      by_cases c : zis A.length x
      · exact c
      · rw [zk_node, if_pos (znob_t.mpr c)] at q; exact absurd q (by decide)
    obtain ⟨i, hi, rfl⟩ := zis_of (by omega) c1
    have hg : A[i]? = some (A[i]'hi) := List.getElem?_eq_getElem _
    rw [nI_clamp (by omega), List.getD_eq_getElem?_getD, hg]
    exact (h.2.2.2.2.2.2.2.2.2 i _ hg).2.2.2.1
  exact n_iret dX12_startOf_9 rfl (hQ _ _ ⟨⟨w, rfl⟩, q1, fun c => ⟨by rw [← hv c]; exact (q2 c).1, (q2 c).2⟩, q3⟩)
set_option maxRecDepth 100000 in
theorem c_m_endOf {x : Int32} (h : zrM S nt lim mem wk slow r L A tk sp cs un) : zMN G yX12_endOf kX12_endOf m [.int x] S (fun v S' => zQm v S' (zk_node A.length x) (v = some (.int (zAc (A.getD x.toNatClampNeg (0, 0, 0, 0, 0, false)) 4)) ∧ zrM S' nt lim mem wk slow r L A tk sp cs un) (zrM S' nt lim mem wk slow r L A tk sp cs un)) := by
  refine zMN.of (ls := [some (.ref m), some (.int x)]) (by decide +kernel) ⟨rfl, rfl, rfl⟩ (Nat.le_of_ble_eq_true rfl) (fun _ h => h) fun Q hQ => ?_
  refine n_aload_n dX12_endOf_0 rfl ?_
  refine n_aload_n dX12_endOf_1 rfl ?_
  refine n_get dX12_endOf_2 fl_X12_102 rfl ?_
  refine n_iload_n dX12_endOf_5 rfl ?_
  refine n_call dX12_endOf_6 cv_X12_270 (c_m_ofAttempt (j := 27) (by decide) h) rfl rfl rfl ⟨(Nat.le_of_ble_eq_true rfl), (Nat.le_of_ble_eq_true rfl)⟩ rfl rfl (Nat.le_of_ble_eq_true rfl) (fun v S1 hq1 => ?_)
  obtain ⟨⟨w, rfl⟩, q1, q2, q3⟩ := hq1
  have hv : zk_node A.length x = 0 → S.2 27 x.toNatClampNeg = zAc (A.getD x.toNatClampNeg (0, 0, 0, 0, 0, false)) 4 := by
    intro q
    have hA := h.2.2.2.2.2.2.2.2.1
    have c1 : zis A.length x := by
      by_cases c : zis A.length x
      · exact c
      · rw [zk_node, if_pos (znob_t.mpr c)] at q; exact absurd q (by decide)
    obtain ⟨i, hi, rfl⟩ := zis_of (by omega) c1
    have hg : A[i]? = some (A[i]'hi) := List.getElem?_eq_getElem _
    rw [nI_clamp (by omega), List.getD_eq_getElem?_getD, hg]
    exact (h.2.2.2.2.2.2.2.2.2 i _ hg).2.2.2.2.1
  exact n_iret dX12_endOf_9 rfl (hQ _ _ ⟨⟨w, rfl⟩, q1, fun c => ⟨by rw [← hv c]; exact (q2 c).1, (q2 c).2⟩, q3⟩)
set_option maxRecDepth 100000 in
theorem c_m_isCopy {x : Int32} (h : zrM S nt lim mem wk slow r L A tk sp cs un) : zMN G yX12_isCopy kX12_isCopy m [.int x] S (fun v S' => zQm v S' (zk_node A.length x) (v = some (.int (zAc (A.getD x.toNatClampNeg (0, 0, 0, 0, 0, false)) 5)) ∧ zrM S' nt lim mem wk slow r L A tk sp cs un) (zrM S' nt lim mem wk slow r L A tk sp cs un)) := by
  refine zMN.of (ls := [some (.ref m), some (.int x)]) (by decide +kernel) ⟨rfl, rfl, rfl⟩ (Nat.le_of_ble_eq_true rfl) (fun _ h => h) fun Q hQ => ?_
  have ha := h.2.2.2.2.2.2.2.1
  have hA := h.2.2.2.2.2.2.2.2.1
  have bad : ¬ zis A.length x → zNW G kX12_isCopy m Q 17 [some (.ref m), some (.int x)] [.ref m] S := by
    intro q
    refine n_iconst (v := (nI 1)) dX12_isCopy_17 (by decide) ?_
    refine n_call dX12_isCopy_18 cv_X12_130 c_fails rfl rfl rfl ⟨(Nat.le_of_ble_eq_true rfl), (Nat.le_of_ble_eq_true rfl)⟩ rfl rfl (Nat.le_of_ble_eq_true rfl) (fun v S1 hq1 => ?_)
    obtain ⟨rfl, rfl⟩ := hq1
    refine n_if_ne (tgt := 37) dX12_isCopy_21 (by decide) (fun _ => ?_) (fun q => absurd q ((by decide)))
    refine n_iconst (v := (nI 0)) dX12_isCopy_37 (by decide) ?_
    exact n_zret dX12_isCopy_38 rfl rfl (hQ _ _ (zQm.bad (c' := 1) zSF_s (by rw [zk_node, if_pos (znob_t.mpr q)]) (by decide) h.thr))
  refine n_aload_n dX12_isCopy_0 rfl ?_
  refine n_iload_n dX12_isCopy_1 rfl ?_
  refine n_if_lt (tgt := 17) dX12_isCopy_2 (by decide) (fun h2 => ?_) (fun h2 => ?_)
  · exact bad (zis_no.mpr (Or.inl h2))
  · refine n_iload_n dX12_isCopy_5 rfl ?_
    refine n_aload_n dX12_isCopy_6 rfl ?_
    refine n_getE dX12_isCopy_7 fl_X12_238 rfl (ha) ?_
    refine n_icmp_ge (tgt := 17) dX12_isCopy_10 (by decide) (fun h10 => ?_) (fun h10 => ?_)
    · exact bad (zis_no.mpr (Or.inr h10))
    · have c1 : zis A.length x := ⟨h2, Int32.not_le.mp h10⟩
      obtain ⟨i, hi, rfl⟩ := zis_of (by omega) c1
      have hg : A[i]? = some (A[i]'hi) := List.getElem?_eq_getElem _
      rw [nI_clamp (by omega), List.getD_eq_getElem?_getD, hg] at hQ
      generalize A[i]'hi = a at *
      have hc := (h.2.2.2.2.2.2.2.2.2 i a hg).2.2.2.2.2
      have e5 : zAc a 5 = if a.2.2.2.2.2 then 1 else 0 := rfl
      simp only [Option.getD_some] at hQ
      refine n_iconst (v := (nI 0)) dX12_isCopy_13 (by decide) ?_
      refine n_goto (tgt := 18) dX12_isCopy_14 (by decide) ?_
      refine n_call dX12_isCopy_18 cv_X12_130 c_fails rfl rfl rfl ⟨(Nat.le_of_ble_eq_true rfl), (Nat.le_of_ble_eq_true rfl)⟩ rfl rfl (Nat.le_of_ble_eq_true rfl) (fun v S1 hq1 => ?_)
      obtain ⟨rfl, rfl⟩ := hq1
      refine n_if_ne (tgt := 37) dX12_isCopy_21 (by decide) (fun q => absurd (rfl) q) (fun _ => ?_)
      refine n_aload_n dX12_isCopy_24 rfl ?_
      refine n_get dX12_isCopy_25 fl_X12_105 rfl ?_
      refine n_iload_n dX12_isCopy_28 rfl ?_
      refine n_zald (j := 28) dX12_isCopy_29 (by decide) rfl rfl (show _ < 256 by omega) hc ?_
      cases h5 : a.2.2.2.2.2 with
      | true =>
        rw [h5, if_pos rfl] at e5
        rw [e5] at hQ ⊢
        refine n_if_eq (tgt := 37) dX12_isCopy_30 (by decide) (fun q => absurd q ((by decide))) (fun _ => ?_)
        refine n_iconst (v := (nI 1)) dX12_isCopy_33 (by decide) ?_
        refine n_goto (tgt := 38) dX12_isCopy_34 (by decide) ?_
        exact n_zret dX12_isCopy_38 rfl rfl (hQ _ _ (zQm.ok zSF_s (by rw [zk_node, if_neg (by rw [znob_f.mpr c1]; decide)]) ⟨rfl, h.thr⟩))
      | false =>
        rw [h5, if_neg (by decide)] at e5
        rw [e5] at hQ ⊢
        refine n_if_eq (tgt := 37) dX12_isCopy_30 (by decide) (fun _ => ?_) (fun q => absurd (rfl) q)
        refine n_iconst (v := (nI 0)) dX12_isCopy_37 (by decide) ?_
        exact n_zret dX12_isCopy_38 rfl rfl (hQ _ _ (zQm.ok zSF_s (by rw [zk_node, if_neg (by rw [znob_f.mpr c1]; decide)]) ⟨rfl, h.thr⟩))
end
