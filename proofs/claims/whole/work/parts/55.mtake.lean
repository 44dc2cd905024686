-- model
/-! the model: tasks are taken, copies too -/
def zSR (R : zMS) (m sz : Nat) (work slow : Nat → Nat) (S : zSS) : Prop := R.1 10 = nI S.2.2.2.2.length ∧
  (∀ (k : Nat) (a : zAE), S.2.2.2.2[k]? = some a → R.2 23 k = zAc a 0 ∧ R.2 24 k = zAc a 1 ∧ R.2 25 k = zAc a 2 ∧ R.2 26 k = zAc a 3 ∧ R.2 28 k = zAc a 5) ∧
  (∀ p, p < S.1 → R.2 30 p = nI (S.2.1 p)) ∧ (∀ p, p < m → R.2 31 p = zbi (S.2.2.1 p)) ∧ (∀ k, k < sz → R.2 32 k = nI (S.2.2.2.1 k)) ∧ (∀ p, p < m → R.2 29 p = nI (work p)) ∧ ∀ k, k < 4 → R.2 16 k = nI (slow k)
def ztk (R : zMS) (n o p k tick e : Nat) (c : Int32) : zMS := zST (zST (zST (zSF (zST (zST (zST (zST (zST R 23 n (nI o)) 24 n (nI p)) 25 n (nI k)) 26 n (nI tick)) 28 n c) 10 (nI (n + 1))) 30 p (nI e)) 31 p c) 32 k (nI e)
section
variable {R : zMS} {n o p k tick e : Nat} {c : Int32}
theorem ztk_s {j : Nat} (h : j ≠ 10) : (ztk R n o p k tick e c).1 j = R.1 j := pk_un h
theorem ztk_10 : (ztk R n o p k tick e c).1 10 = nI (n + 1) := pk_us (f := R.1) (k := 10) (x := nI (n + 1))
theorem ztk_o {j : Nat} (h : j < 23 ∨ j = 27 ∨ j = 29) : (ztk R n o p k tick e c).2 j = R.2 j := by
  unfold ztk
  rw [zST_n _ _ _ (by omega), zST_n _ _ _ (by omega), zST_n _ _ _ (by omega), zSF2, zST_n _ _ _ (by omega), zST_n _ _ _ (by omega), zST_n _ _ _ (by omega), zST_n _ _ _ (by omega), zST_n _ _ _ (by omega)]
theorem ztk_23 : (ztk R n o p k tick e c).2 23 = upd (R.2 23) n (nI o) := by
  unfold ztk
  rw [zST_n _ _ _ (by decide), zST_n _ _ _ (by decide), zST_n _ _ _ (by decide), zSF2, zST_n _ _ _ (by decide), zST_n _ _ _ (by decide), zST_n _ _ _ (by decide), zST_n _ _ _ (by decide), zST_j]
theorem ztk_24 : (ztk R n o p k tick e c).2 24 = upd (R.2 24) n (nI p) := by
  unfold ztk
  rw [zST_n _ _ _ (by decide), zST_n _ _ _ (by decide), zST_n _ _ _ (by decide), zSF2, zST_n _ _ _ (by decide), zST_n _ _ _ (by decide), zST_n _ _ _ (by decide), zST_j, zST_n _ _ _ (by decide)]
theorem ztk_25 : (ztk R n o p k tick e c).2 25 = upd (R.2 25) n (nI k) := by
  unfold ztk
  rw [zST_n _ _ _ (by decide), zST_n _ _ _ (by decide), zST_n _ _ _ (by decide), zSF2, zST_n _ _ _ (by decide), zST_n _ _ _ (by decide), zST_j, zST_n _ _ _ (by decide), zST_n _ _ _ (by decide)]
theorem ztk_26 : (ztk R n o p k tick e c).2 26 = upd (R.2 26) n (nI tick) := by
  unfold ztk
  rw [zST_n _ _ _ (by decide), zST_n _ _ _ (by decide), zST_n _ _ _ (by decide), zSF2, zST_n _ _ _ (by decide), zST_j, zST_n _ _ _ (by decide), zST_n _ _ _ (by decide), zST_n _ _ _ (by decide)]
theorem ztk_28 : (ztk R n o p k tick e c).2 28 = upd (R.2 28) n c := by
  unfold ztk
  rw [zST_n _ _ _ (by decide), zST_n _ _ _ (by decide), zST_n _ _ _ (by decide), zSF2, zST_j, zST_n _ _ _ (by decide), zST_n _ _ _ (by decide), zST_n _ _ _ (by decide), zST_n _ _ _ (by decide)]
theorem ztk_30 : (ztk R n o p k tick e c).2 30 = upd (R.2 30) p (nI e) := by
  unfold ztk
  rw [zST_n _ _ _ (by decide), zST_n _ _ _ (by decide), zST_j, zSF2, zST_n _ _ _ (by decide), zST_n _ _ _ (by decide), zST_n _ _ _ (by decide), zST_n _ _ _ (by decide), zST_n _ _ _ (by decide)]
theorem ztk_31 : (ztk R n o p k tick e c).2 31 = upd (R.2 31) p c := by
  unfold ztk
  rw [zST_n _ _ _ (by decide), zST_j, zST_n _ _ _ (by decide), zSF2, zST_n _ _ _ (by decide), zST_n _ _ _ (by decide), zST_n _ _ _ (by decide), zST_n _ _ _ (by decide), zST_n _ _ _ (by decide)]
theorem ztk_32 : (ztk R n o p k tick e c).2 32 = upd (R.2 32) k (nI e) := by
  unfold ztk
  rw [zST_j, zST_n _ _ _ (by decide), zST_n _ _ _ (by decide), zSF2, zST_n _ _ _ (by decide), zST_n _ _ _ (by decide), zST_n _ _ _ (by decide), zST_n _ _ _ (by decide), zST_n _ _ _ (by decide)]
theorem zta_app {A : List zAE} {x : zAE} (hx : n = A.length) (h : ∀ (k : Nat) (a : zAE), A[k]? = some a → R.2 23 k = zAc a 0 ∧ R.2 24 k = zAc a 1 ∧ R.2 25 k = zAc a 2 ∧ R.2 26 k = zAc a 3 ∧ R.2 28 k = zAc a 5) (x0 : nI o = zAc x 0) (x1 : nI p = zAc x 1) (x2 : nI k = zAc x 2) (x3 : nI tick = zAc x 3) (x5 : c = zAc x 5) :
    ∀ (j : Nat) (a : zAE), (A ++ [x])[j]? = some a → (ztk R n o p k tick e c).2 23 j = zAc a 0 ∧ (ztk R n o p k tick e c).2 24 j = zAc a 1 ∧ (ztk R n o p k tick e c).2 25 j = zAc a 2 ∧ (ztk R n o p k tick e c).2 26 j = zAc a 3 ∧ (ztk R n o p k tick e c).2 28 j = zAc a 5 := by
  intro j a hj
  rw [ztk_23, ztk_24, ztk_25, ztk_26, ztk_28]
  by_cases q : j < A.length
  · rw [List.getElem?_append_left q] at hj
    rw [pk_un (by omega), pk_un (by omega), pk_un (by omega), pk_un (by omega), pk_un (by omega)]
    exact h j a hj
  · have hl := zR_lt hj
    rw [List.length_append, List.length_singleton] at hl
    have ej : j = A.length := by omega
    subst ej
    rw [List.getElem?_append_right (Nat.le_refl _), Nat.sub_self] at hj
    cases hj
    subst hx
    rw [pk_us, pk_us, pk_us, pk_us, pk_us]
    exact ⟨x0, x1, x2, x3, x5⟩
end
section
variable {G : zG} {m' : Nat} {R : zMS}
set_option maxRecDepth 100000 in
theorem c_takes {n o p k tick w s : Nat} {c : Int32} (hn : R.1 10 = nI n) (hn2 : n < 256) (hp : p < 8) (hk : k < 4) (hw : R.2 29 p = nI w) (hs : R.2 16 k = nI s) (hc : narrow .boolean (.int c) = .int c) : zMN G yX12_takes kX12_takes m' [.int (nI o), .int (nI p), .int (nI k), .int (nI tick), .int c] R (fun v S' => v = none ∧ S' = ztk R n o p k tick (tick + w * s) c) := by
  refine zMN.of (ls := [some (.ref m'), some (.int (nI o)), some (.int (nI p)), some (.int (nI k)), some (.int (nI tick)), some (.int c)]) (by decide +kernel) ⟨rfl, rfl, rfl⟩ (Nat.le_of_ble_eq_true rfl) (fun _ h => h) fun Q hQ => ?_
  refine n_aload_n dX12_takes_0 rfl ?_
  refine n_get dX12_takes_1 fl_X12_90 rfl ?_
  refine n_aload_n dX12_takes_4 rfl ?_
  refine n_getE dX12_takes_5 fl_X12_238 rfl (hn) ?_
  refine n_iload_n dX12_takes_8 rfl ?_
  refine n_iast (j := 23) dX12_takes_9 (by decide) rfl rfl (show _ < 256 by omega) ?_
  refine n_aload_n dX12_takes_10 rfl ?_
  refine n_get dX12_takes_11 fl_X12_93 rfl ?_
  refine n_aload_n dX12_takes_14 rfl ?_
  refine n_getE dX12_takes_15 fl_X12_238 rfl (hn) ?_
  refine n_iload_n dX12_takes_18 rfl ?_
  refine n_iast (j := 24) dX12_takes_19 (by decide) rfl rfl (show _ < 256 by omega) ?_
  refine n_aload_n dX12_takes_20 rfl ?_
  refine n_get dX12_takes_21 fl_X12_96 rfl ?_
  refine n_aload_n dX12_takes_24 rfl ?_
  refine n_getE dX12_takes_25 fl_X12_238 rfl (hn) ?_
  refine n_iload_n dX12_takes_28 rfl ?_
  refine n_iast (j := 25) dX12_takes_29 (by decide) rfl rfl (show _ < 256 by omega) ?_
  refine n_aload_n dX12_takes_30 rfl ?_
  refine n_get dX12_takes_31 fl_X12_99 rfl ?_
  refine n_aload_n dX12_takes_34 rfl ?_
  refine n_getE dX12_takes_35 fl_X12_238 rfl (hn) ?_
  refine n_iload dX12_takes_38 rfl ?_
  refine n_iast (j := 26) dX12_takes_40 (by decide) rfl rfl (show _ < 256 by omega) ?_
  refine n_aload_n dX12_takes_41 rfl ?_
  refine n_get dX12_takes_42 fl_X12_105 rfl ?_
  refine n_aload_n dX12_takes_45 rfl ?_
  refine n_getE dX12_takes_46 fl_X12_238 rfl (hn) ?_
  refine n_iload dX12_takes_49 rfl ?_
  refine n_zast (j := 28) dX12_takes_51 (by decide) rfl rfl (show _ < 256 by omega) hc ?_
  refine n_aload_n dX12_takes_52 rfl ?_
  refine n_dup dX12_takes_53 rfl ?_
  refine n_getE dX12_takes_54 fl_X12_238 rfl (hn) ?_
  refine n_iconst (v := (nI 1)) dX12_takes_57 (by decide) ?_
  refine n_iadd dX12_takes_58 ?_
  rw [nI_add]
  refine n_put (j := 10) dX12_takes_59 fp_X12_238 (zMFs10 _ _ _) rfl rfl (Nat.le_of_ble_eq_true rfl) ?_
  refine n_aload_n dX12_takes_62 rfl ?_
  refine n_get dX12_takes_63 fl_X12_111 rfl ?_
  refine n_iload_n dX12_takes_66 rfl ?_
  refine n_iload dX12_takes_67 rfl ?_
  refine n_aload_n dX12_takes_69 rfl ?_
  refine n_get dX12_takes_70 fl_X12_108 rfl ?_
  refine n_iload_n dX12_takes_73 rfl ?_
  refine n_iald (j := 29) dX12_takes_74 (by decide) rfl rfl (show _ < 8 by omega) hw ?_
  refine n_aload_n dX12_takes_75 rfl ?_
  refine n_get dX12_takes_76 fl_X12_68 rfl ?_
  refine n_iload_n dX12_takes_79 rfl ?_
  refine n_iald (j := 16) dX12_takes_80 (by decide) rfl rfl (show _ < 4 by omega) hs ?_
  refine n_imul dX12_takes_81 ?_
  rw [pk_mul]
  refine n_iadd dX12_takes_82 ?_
  rw [nI_add]
  refine n_iast (j := 30) dX12_takes_83 (by decide) rfl rfl (show _ < 8 by omega) ?_
  refine n_aload_n dX12_takes_84 rfl ?_
  refine n_get dX12_takes_85 fl_X12_114 rfl ?_
  refine n_iload_n dX12_takes_88 rfl ?_
  refine n_iload dX12_takes_89 rfl ?_
  refine n_zast (j := 31) dX12_takes_91 (by decide) rfl rfl (show _ < 8 by omega) hc ?_
  refine n_aload_n dX12_takes_92 rfl ?_
  refine n_get dX12_takes_93 fl_X12_117 rfl ?_
  refine n_iload_n dX12_takes_96 rfl ?_
  refine n_aload_n dX12_takes_97 rfl ?_
  refine n_get dX12_takes_98 fl_X12_111 rfl ?_
  refine n_iload_n dX12_takes_101 rfl ?_
  refine n_iald (j := 30) dX12_takes_102 (by decide) rfl rfl (show _ < 8 by omega) ((zSTo (j := 31) (by decide)).trans zSTs) ?_
  refine n_iast (j := 32) dX12_takes_103 (by decide) rfl rfl (show _ < 4 by omega) ?_
  exact n_vret dX12_takes_104 rfl (hQ _ _ ⟨rfl, rfl⟩)
section
variable {o m bg sz tick B : Nat} {work slow : Nat → Nat} {S : zSS}
theorem zSR_pt {k : Nat} (h : zSR R m sz work slow S) (hi : zIv o m bg sz tick S) (hl : S.1 < m) (hm : m ≤ 8) : zSR (ztk R S.2.2.2.2.length o S.1 k tick (tick + work S.1 * slow k) 0) m sz work slow (zpt work slow o tick k S) := by
  obtain ⟨h1, h2, h3, h4, h5, h6, h7⟩ := h
  obtain ⟨n, ends, cop, idle, A⟩ := S
  simp only at *
  refine ⟨?_, zta_app rfl h2 rfl rfl rfl rfl rfl, fun p hp => ?_, fun p hp => ?_, fun j hj => ?_, fun p hp => by rw [ztk_o (by decide)]; exact h6 p hp, fun j hj => by rw [ztk_o (by decide)]; exact h7 j hj⟩
  · show _ = nI (A ++ [_]).length
    rw [List.length_append, List.length_singleton]; exact ztk_10
  · show _ = nI (zun ends n _ p)
    rw [ztk_30]
    have hp' : p < n + 1 := hp
    by_cases e : p = n
    · subst e; rw [pk_us, zun_s]
    · rw [pk_un e, zun_n e]; exact h3 p (by omega)
  · show _ = zbi (cop p)
    rw [ztk_31]
    by_cases e : p = n
    · subst e
      rw [pk_us]
      cases q : cop p with
      | false => rfl
      | true => have := hi.2.2.2.2.2 p q; exact absurd this (Nat.lt_irrefl p)
    · rw [pk_un e]; exact h4 p hp
  · show _ = nI (zun idle k _ j)
    rw [ztk_32]
    by_cases e : j = k
    · subst e; rw [pk_us, zun_s]
    · rw [pk_un e, zun_n e]; exact h5 j hj
set_option maxRecDepth 100000 in
theorem c_latest (h : zSR R m sz work slow S) (hn : S.1 = m) (hm : m ≤ 8) (hb : ∀ p, p < S.1 → S.2.1 p < 2 ^ 31) (ht : tick < 2 ^ 31) : zMN G yX12_latest kX12_latest m' [.int (nI m), .int (nI tick)] R (fun v S' => v = some (.int (if (zlw S.2.1 S.2.2.1 tick m S.1).1 < m then nI (zlw S.2.1 S.2.2.1 tick m S.1).1 else -1)) ∧ S' = R) := by
  refine zMN.of (ls := [some (.ref m'), some (.int (nI m)), some (.int (nI tick)), none, none]) (by decide +kernel) ⟨rfl, rfl, rfl⟩ (Nat.le_of_ble_eq_true rfl) (fun _ h => h) fun Q hQ => ?_
  obtain ⟨h1, h2, h3, h4, h5, h6, h7⟩ := h
  have loop : ∀ (d k : Nat), k + d = m → zNW G kX12_latest m' Q 5 [some (.ref m'), some (.int (nI m)), some (.int (nI tick)), some (.int (if (zlw S.2.1 S.2.2.1 tick m k).1 < m then nI (zlw S.2.1 S.2.2.1 tick m k).1 else -1)), some (.int (nI k))] [] R := by
    intro d
    induction d with
    | zero =>
      intro k hk
      have e : k = m := by omega
      subst e
      refine n_iload dX12_latest_5 rfl ?_
      refine n_iload_n dX12_latest_7 rfl ?_
      refine n_icmp_ge (tgt := 66) dX12_latest_8 (by decide) (fun _ => ?_) (fun q => absurd ((nI_le (Nat.le_refl _) (by omega))) q)
      rw [hn] at hQ
      refine n_iload_n dX12_latest_66 rfl ?_
      exact n_iret dX12_latest_67 rfl (hQ _ _ ⟨rfl, rfl⟩)
    | succ d ih =>
      intro k hk
      have nx := ih (k + 1) (by omega)
      have e1 := h3 k (by omega)
      have e4 := h4 k (by omega)
      have b1 := hb k (by omega)
      have stp : zlw S.2.1 S.2.2.1 tick m (k + 1) = if S.2.2.1 k = false ∧ (zlw S.2.1 S.2.2.1 tick m k).2 < S.2.1 k then (k, S.2.1 k) else zlw S.2.1 S.2.2.1 tick m k := rfl
      have cop := zlw_cop (ends := S.2.1) (cop := S.2.2.1) (tick := tick) (m := m) k
      generalize zlw S.2.1 S.2.2.1 tick m k = z at *
      have keep : ¬ (S.2.2.1 k = false ∧ z.2 < S.2.1 k) → zNW G kX12_latest m' Q 58 [some (.ref m'), some (.int (nI m)), some (.int (nI tick)), some (.int (if z.1 < m then nI z.1 else -1)), some (.int (nI k))] [] R := by
        intro c
        rw [stp, if_neg c] at nx
        refine n_iload_n dX12_latest_58 rfl ?_
        refine n_istore_n dX12_latest_59 (by decide) ?_
        refine n_inc1 dX12_latest_60 rfl (by decide) ?_
        refine n_goto (tgt := 5) dX12_latest_63 (by decide) ?_
        rw [nI_1]
        exact nx
      have take : (S.2.2.1 k = false ∧ z.2 < S.2.1 k) → zNW G kX12_latest m' Q 53 [some (.ref m'), some (.int (nI m)), some (.int (nI tick)), some (.int (if z.1 < m then nI z.1 else -1)), some (.int (nI k))] [] R := by
        intro c
        rw [stp, if_pos c] at nx
        simp only at nx
        rw [if_pos (show k < m by omega)] at nx
        refine n_iload dX12_latest_53 rfl ?_
        refine n_goto (tgt := 59) dX12_latest_55 (by decide) ?_
        refine n_istore_n dX12_latest_59 (by decide) ?_
        refine n_inc1 dX12_latest_60 rfl (by decide) ?_
        refine n_goto (tgt := 5) dX12_latest_63 (by decide) ?_
        rw [nI_1]
        exact nx
      have zlo : tick ≤ z.2 := by rcases cop with e | ⟨-, -, -, e⟩; rw [e]; exact Nat.le_refl _; omega
      refine n_iload dX12_latest_5 rfl ?_
      refine n_iload_n dX12_latest_7 rfl ?_
      refine n_icmp_ge (tgt := 66) dX12_latest_8 (by decide) (fun q => absurd q ((nI_ge (show k < m by omega) (by omega)))) (fun _ => ?_)
      refine n_aload_n dX12_latest_11 rfl ?_
      refine n_get dX12_latest_12 fl_X12_111 rfl ?_
      refine n_iload dX12_latest_15 rfl ?_
      refine n_iald (j := 30) dX12_latest_17 (by decide) rfl rfl (show _ < 8 by omega) e1 ?_
      refine n_iload_n dX12_latest_18 rfl ?_
      refine n_icmp_le (tgt := 58) dX12_latest_19 (by decide) (fun h19 => ?_) (fun h19 => ?_)
      · have := (nI_leI b1 ht).mp h19
        exact keep fun w => by omega
      · have c1 : tick < S.2.1 k := Nat.not_le.mp fun w => h19 (nI_le w ht)
        refine n_aload_n dX12_latest_22 rfl ?_
        refine n_get dX12_latest_23 fl_X12_114 rfl ?_
        refine n_iload dX12_latest_26 rfl ?_
        refine n_zald (j := 31) dX12_latest_28 (by decide) rfl rfl (show _ < 8 by omega) e4 ?_
        cases q : S.2.2.1 k with
        | true =>
          refine n_if_ne (tgt := 58) dX12_latest_29 (by decide) (fun _ => ?_) (fun q => absurd q ((by decide)))
          exact keep fun w => by rw [q] at w; exact nomatch w.1
        | false =>
          refine n_if_ne (tgt := 58) dX12_latest_29 (by decide) (fun q => absurd (rfl) q) (fun _ => ?_)
          rcases cop with e | ⟨c2, c3, c4, c5⟩
          · have hz : (if z.1 < m then nI z.1 else -1) = -1 := by rw [e]; exact if_neg (Nat.lt_irrefl m)
            rw [hz] at take keep ⊢
            refine n_iload_n dX12_latest_32 rfl ?_
            refine n_iconst (v := (-1)) dX12_latest_33 (by decide) ?_
            refine n_icmp_eq (tgt := 53) dX12_latest_34 (by decide) (fun _ => ?_) (fun q => absurd (rfl) q)
            exact take ⟨q, by rw [e]; exact c1⟩
          · have hz : (if z.1 < m then nI z.1 else -1) = nI z.1 := if_pos (by omega)
            rw [hz] at take keep ⊢
            refine n_iload_n dX12_latest_32 rfl ?_
            refine n_iconst (v := (-1)) dX12_latest_33 (by decide) ?_
            refine n_icmp_eq (tgt := 53) dX12_latest_34 (by decide) (fun q => absurd q ((fun w => absurd (show nI z.1 < 0 by rw [w]; decide) (nI_pos (by omega))))) (fun _ => ?_)
            refine n_aload_n dX12_latest_37 rfl ?_
            refine n_get dX12_latest_38 fl_X12_111 rfl ?_
            refine n_iload dX12_latest_41 rfl ?_
            refine n_iald (j := 30) dX12_latest_43 (by decide) rfl rfl (show _ < 8 by omega) e1 ?_
            refine n_aload_n dX12_latest_44 rfl ?_
            refine n_get dX12_latest_45 fl_X12_111 rfl ?_
            refine n_iload_n dX12_latest_48 rfl ?_
            refine n_iald (j := 30) dX12_latest_49 (by decide) rfl rfl (show _ < 8 by omega) (h3 z.1 (by omega)) ?_
            refine n_icmp_le (tgt := 58) dX12_latest_50 (by decide) (fun h50 => ?_) (fun h50 => ?_)
            · have := (nI_leI b1 (hb _ (by omega))).mp h50
              exact keep fun w => by omega
            · exact take ⟨q, by rw [c4]; exact Nat.not_le.mp fun w => h50 (nI_le w (hb _ (by omega)))⟩
  refine n_iconst (v := (-1)) dX12_latest_0 (by decide) ?_
  refine n_istore_n dX12_latest_1 (by decide) ?_
  refine n_iconst (v := (nI 0)) dX12_latest_2 (by decide) ?_
  refine n_istore dX12_latest_3 (by decide) ?_
  have l0 := loop m 0 (by omega)
  rw [show zlw S.2.1 S.2.2.1 tick m 0 = (m, tick) from rfl, if_neg (Nat.lt_irrefl m)] at l0
  exact l0
end
end
