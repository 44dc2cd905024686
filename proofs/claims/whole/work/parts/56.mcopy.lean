-- model
/-! the model: copies -/
def zSRf (R R' : zMS) : Prop := (∀ j, j ≠ 10 → R'.1 j = R.1 j) ∧ ∀ j, (j < 23 ∨ j = 27 ∨ j = 29) → R'.2 j = R.2 j
theorem zSRf.tr {R R' R'' : zMS} (h : zSRf R R') (h2 : zSRf R' R'') : zSRf R R'' := ⟨fun j q => (h2.1 j q).trans (h.1 j q), fun j q => (h2.2 j q).trans (h.2 j q)⟩
theorem zSRf.rf (R : zMS) : zSRf R R := ⟨fun _ _ => rfl, fun _ _ => rfl⟩
theorem zSRf_k {R : zMS} {n o p k tick e : Nat} {c : Int32} : zSRf R (ztk R n o p k tick e c) := ⟨fun _ q => ztk_s q, fun _ q => ztk_o q⟩
section
variable {G : zG} {m' : Nat} {R : zMS} {o m bg sz tick B : Nat} {work slow : Nat → Nat} {S : zSS}
theorem zSR_pc {k p e : Nat} (h : zSR R m sz work slow S) (hm : S.1 = m) (hp : p < m) : zSR (zST (ztk R S.2.2.2.2.length o p k tick e (nI 1)) 32 (zwk S.2.2.2.2 (bg + p)) (nI e)) m sz work slow (zpc bg o tick e k p S) := by
  obtain ⟨h1, h2, h3, h4, h5, h6, h7⟩ := h
  obtain ⟨n, ends, cop, idle, A⟩ := S
  simp only at *
  have app := zta_app (x := (o, p, k, tick, e, true)) (c := nI 1) (R := R) (e := e) (o := o) (p := p) (k := k) (tick := tick) (n := A.length) rfl h2 rfl rfl rfl rfl rfl
  refine ⟨?_, fun j a hj => ?_, fun q hq => ?_, fun q hq => ?_, fun j hj => ?_, fun q hq => by rw [zSTo (by decide), ztk_o (by decide)]; exact h6 q hq, fun j hj => by rw [zSTo (by decide), ztk_o (by decide)]; exact h7 j hj⟩
  · show _ = nI (zse (A ++ [_]) _ _).length
    rw [zse, List.length_modify, List.length_append, List.length_singleton]; exact ztk_10 (R := R) (o := o) (p := p) (k := k) (tick := tick) (e := e) (c := nI 1)
  · have hj : (zse (A ++ [(o, p, k, tick, e, true)]) (bg + p) e)[j]? = some a := hj
    rw [zSTo (by decide), zSTo (by decide), zSTo (by decide), zSTo (by decide), zSTo (by decide)]
    rw [zse, List.getElem?_modify] at hj
    cases hb : (A ++ [(o, p, k, tick, e, true)])[j]? with
    | none => rw [hb] at hj; exact nomatch hj
    | some b =>
      rw [hb] at hj
      have r := app j b hb
      have ea : (if bg + p = j then (b.1, b.2.1, b.2.2.1, b.2.2.2.1, e, b.2.2.2.2.2) else b) = a := Option.some.inj hj
      by_cases q : bg + p = j
      · rw [if_pos q] at ea; subst ea; exact r
      · rw [if_neg q] at ea; subst ea; exact r
  · show _ = nI (zun ends p e q)
    rw [zSTo (by decide), ztk_30]
    by_cases y : q = p
    · subst y; rw [pk_us, zun_s]
    · rw [pk_un y, zun_n y]; exact h3 q hq
  · show _ = zbi (zor cop p q)
    rw [zSTo (by decide), ztk_31]
    by_cases y : q = p
    · subst y; rw [pk_us]; simp [zor, zbi]; rfl
    · rw [pk_un y, h4 q hq]; simp [zor, y]
  · show _ = nI (zun (zun idle k e) (zwk A (bg + p)) e j)
    by_cases y : j = zwk A (bg + p)
    · subst y; rw [zSTs, zun_s]
    · rw [zSTn y, zun_n y, ztk_32]
      by_cases z : j = k
      · subst z; rw [pk_us, zun_s]
      · rw [pk_un z, zun_n z]; exact h5 j hj
set_option maxRecDepth 100000 in
set_option maxHeartbeats 1000000 in
theorem c_copies {k : Nat} (h : zSR R m sz work slow S) (hi : zIv o m bg sz tick S) (hok : zOK m bg B S) (hB : B ≤ 2 ^ 31) (hn : S.1 = m) (hm : m ≤ 8) (ho : o < 14) (hk : k < 4) (hid : S.2.2.2.1 k ≤ tick) (ht : tick < 2 ^ 31) (hW : ∀ p, p < m → tick + work p * slow k < 2 ^ 31) (hold : ∀ (j : Nat) (a : zAE), S.2.2.2.2[j]? = some a → j < bg → a.1 < 14) (hA : S.2.2.2.2.length < 256) :
    zMN G yX12_copies kX12_copies m' [.int (nI o), .int (nI m), .int (nI k), .int (nI tick)] R (fun v S' => v = some (.int (zbi (zpw work slow m o bg tick (zhf m tick S) k S).2)) ∧ zSR S' m sz work slow (zpw work slow m o bg tick (zhf m tick S) k S).1 ∧ zSRf R S') := by
  refine zMN.of (ls := [some (.ref m'), some (.int (nI o)), some (.int (nI m)), some (.int (nI k)), some (.int (nI tick)), none, none, none, none]) (by decide +kernel) ⟨rfl, rfl, rfl⟩ (Nat.le_of_ble_eq_true rfl) (fun _ h => h) fun Q hQ => ?_
  obtain ⟨h1, h2, h3, h4, h5, h6, h7⟩ := id h
  have hb : ∀ p, p < S.1 → S.2.1 p < 2 ^ 31 := fun p hp => by have := hok.2.1 p hp; omega
  have hec := zec_le S.2.1 tick m
  have loop : ∀ (d q : Nat) (x7 x8 : Option Value), q + d = m → zNW G kX12_copies m' Q 6 [some (.ref m'), some (.int (nI o)), some (.int (nI m)), some (.int (nI k)), some (.int (nI tick)), some (.int (nI (zec S.2.1 tick q))), some (.int (nI q)), x7, x8] [] R := by
    intro d
    induction d with
    | zero =>
      intro q x7 x8 hq
      have e : q = m := by omega
      subst e
      refine n_iload dX12_copies_6 rfl ?_
      refine n_iload_n dX12_copies_8 rfl ?_
      refine n_icmp_ge (tgt := 40) dX12_copies_9 (by decide) (fun _ => ?_) (fun q => absurd ((nI_le (Nat.le_refl _) (by omega))) q)
      refine n_aload_n dX12_copies_40 rfl ?_
      refine n_iload_n dX12_copies_41 rfl ?_
      refine n_iload dX12_copies_42 rfl ?_
      refine n_call dX12_copies_44 cv_X12_241 (c_latest h hn hm hb ht) rfl rfl rfl ⟨(Nat.le_of_ble_eq_true rfl), (Nat.le_of_ble_eq_true rfl)⟩ rfl rfl (Nat.le_of_ble_eq_true rfl) (fun v S1 hq1 => ?_)
      obtain ⟨rfl, hS⟩ := hq1
      subst hS
      have stay : zhf q tick S = false ∨ ¬ ((zlw S.2.1 S.2.2.1 tick q S.1).1 < q ∧ tick + work (zlw S.2.1 S.2.2.1 tick q S.1).1 * slow k < S.2.1 (zlw S.2.1 S.2.2.1 tick q S.1).1) → ∀ ls, zNW G kX12_copies m' Q 90 ls [] S1 := by
        intro w ls
        have e : zpw work slow q o bg tick (zhf q tick S) k S = (S, false) := by
          unfold zpw
          rw [if_pos hid, if_neg (by omega)]
          refine if_neg fun z => ?_
          rcases w with w | w
          · rw [w] at z; exact nomatch z.1
          · exact w z.2
        rw [e] at hQ
        refine n_iconst (v := (nI 0)) dX12_copies_90 (by decide) ?_
        exact n_zret dX12_copies_91 rfl rfl (hQ _ _ ⟨rfl, h, zSRf.rf _⟩)
      refine n_istore dX12_copies_47 (by decide) ?_
      refine n_iconst (v := (nI 2)) dX12_copies_49 (by decide) ?_
      refine n_iload dX12_copies_50 rfl ?_
      refine n_imul dX12_copies_52 ?_
      rw [pk_mul]
      refine n_iload_n dX12_copies_53 rfl ?_
      by_cases c1 : 2 * zec S.2.1 tick q < q
      · have hf : zhf q tick S = false := by unfold zhf; rw [hn]; exact decide_eq_false (by omega)
        refine n_icmp_lt (tgt := 90) dX12_copies_54 (by decide) (fun _ => ?_) (fun q => absurd ((nI_lt c1 (by omega))) q)
        exact stay (Or.inl hf) _
      · have hf : zhf q tick S = true := by unfold zhf; rw [hn]; exact decide_eq_true (by omega)
        refine n_icmp_lt (tgt := 90) dX12_copies_54 (by decide) (fun q => absurd q ((nI_nlt (by omega) (by omega)))) (fun _ => ?_)
        rcases zlw_cop (ends := S.2.1) (cop := S.2.2.1) (tick := tick) (m := q) S.1 with e | ⟨z1, z2, z3, z4⟩
        · rw [e] at stay ⊢
          rw [if_neg (Nat.lt_irrefl q)]
          refine n_iload dX12_copies_57 rfl ?_
          refine n_iconst (v := (-1)) dX12_copies_59 (by decide) ?_
          refine n_icmp_eq (tgt := 90) dX12_copies_60 (by decide) (fun _ => ?_) (fun q => absurd (rfl) q)
          exact stay (Or.inr fun w => Nat.lt_irrefl _ w.1) _
        · have hpw : zpw work slow q o bg tick (zhf q tick S) k S = if tick + work (zlw S.2.1 S.2.2.1 tick q S.1).1 * slow k < S.2.1 (zlw S.2.1 S.2.2.1 tick q S.1).1 then (zpc bg o tick (tick + work (zlw S.2.1 S.2.2.1 tick q S.1).1 * slow k) k (zlw S.2.1 S.2.2.1 tick q S.1).1 S, true) else (S, false) := by
            unfold zpw
            rw [if_pos hid, if_neg (by omega), hf]
            by_cases y : tick + work (zlw S.2.1 S.2.2.1 tick q S.1).1 * slow k < S.2.1 (zlw S.2.1 S.2.2.1 tick q S.1).1
            · rw [if_pos ⟨rfl, by omega, y⟩, if_pos y]
            · rw [if_neg (fun z => y z.2.2), if_neg y]
          rw [hpw] at hQ
          generalize (zlw S.2.1 S.2.2.1 tick q S.1).1 = p at *
          rw [if_pos (show p < q by omega)]
          have hwp := hW p (by omega)
          have hbp := hb p (by omega)
          have wk4 := hok.2.2.2.2.2 p (by omega)
          refine n_iload dX12_copies_57 rfl ?_
          refine n_iconst (v := (-1)) dX12_copies_59 (by decide) ?_
          refine n_icmp_eq (tgt := 90) dX12_copies_60 (by decide) (fun q => absurd q ((fun w => absurd (show nI p < 0 by rw [w]; decide) (nI_pos (by omega))))) (fun _ => ?_)
          refine n_iload dX12_copies_63 rfl ?_
          refine n_aload_n dX12_copies_65 rfl ?_
          refine n_get dX12_copies_66 fl_X12_108 rfl ?_
          refine n_iload dX12_copies_69 rfl ?_
          refine n_iald (j := 29) dX12_copies_71 (by decide) rfl rfl (show _ < 8 by omega) (h6 p (by omega)) ?_
          refine n_aload_n dX12_copies_72 rfl ?_
          refine n_get dX12_copies_73 fl_X12_68 rfl ?_
          refine n_iload_n dX12_copies_76 rfl ?_
          refine n_iald (j := 16) dX12_copies_77 (by decide) rfl rfl (show _ < 4 by omega) (h7 k hk) ?_
          refine n_imul dX12_copies_78 ?_
          rw [pk_mul]
          refine n_iadd dX12_copies_79 ?_
          rw [nI_add]
          refine n_aload_n dX12_copies_80 rfl ?_
          refine n_get dX12_copies_81 fl_X12_111 rfl ?_
          refine n_iload dX12_copies_84 rfl ?_
          refine n_iald (j := 30) dX12_copies_86 (by decide) rfl rfl (show _ < 8 by omega) (h3 p (by omega)) ?_
          by_cases c2 : tick + work p * slow k < S.2.1 p
          · rw [if_pos c2] at hQ
            have other : ∀ (d j : Nat), j + d = S.2.2.2.2.length → zNW G kX12_copies m' Q 98 [some (.ref m'), some (.int (nI o)), some (.int (nI q)), some (.int (nI k)), some (.int (nI tick)), some (.int (nI (zec S.2.1 tick q))), some (.int (nI p)), some (.int (if bg + p < j then nI (zwk S.2.2.2.2 (bg + p)) else -1)), some (.int (nI j))] [] S1 := by
              intro d
              induction d with
              | zero =>
                intro j hj
                have e : j = S.2.2.2.2.length := by omega
                subst e
                have hlen := hi.2.1
                refine n_iload dX12_copies_98 rfl ?_
                refine n_aload_n dX12_copies_100 rfl ?_
                refine n_getE dX12_copies_101 fl_X12_238 rfl (h1) ?_
                refine n_icmp_ge (tgt := 150) dX12_copies_104 (by decide) (fun _ => ?_) (fun q => absurd ((nI_le (Nat.le_refl _) (by omega))) q)
                rw [if_pos (show bg + p < S.2.2.2.2.length by omega)]
                refine n_aload_n dX12_copies_150 rfl ?_
                refine n_iload_n dX12_copies_151 rfl ?_
                refine n_iload dX12_copies_152 rfl ?_
                refine n_iload_n dX12_copies_154 rfl ?_
                refine n_iload dX12_copies_155 rfl ?_
                refine n_iconst (v := (nI 1)) dX12_copies_157 (by decide) ?_
                refine n_call dX12_copies_158 cv_X12_244 (c_takes (c := nI 1) h1 hA (by omega) hk (h6 p (by omega)) (h7 k hk) rfl) rfl rfl rfl ⟨(Nat.le_of_ble_eq_true rfl), (Nat.le_of_ble_eq_true rfl)⟩ rfl rfl (Nat.le_of_ble_eq_true rfl) (fun v S2 hq2 => ?_)
                obtain ⟨rfl, hS⟩ := hq2
                subst hS
                have e30 : (ztk S1 S.2.2.2.2.length o p k tick (tick + work p * slow k) (nI 1)).2 30 p = nI (tick + work p * slow k) := by rw [ztk_30]; exact pk_us
                refine n_aload_n dX12_copies_161 rfl ?_
                refine n_get dX12_copies_162 fl_X12_117 rfl ?_
                refine n_iload dX12_copies_165 rfl ?_
                refine n_aload_n dX12_copies_167 rfl ?_
                refine n_get dX12_copies_168 fl_X12_111 rfl ?_
                refine n_iload dX12_copies_171 rfl ?_
                refine n_iald (j := 30) dX12_copies_173 (by decide) rfl rfl (show _ < 8 by omega) e30 ?_
                refine n_iast (j := 32) dX12_copies_174 (by decide) rfl rfl (show _ < 4 by omega) ?_
                refine n_iconst (v := (nI 1)) dX12_copies_175 (by decide) ?_
                exact n_zret dX12_copies_176 rfl rfl (hQ _ _ ⟨rfl, zSR_pc h hn (by omega), zSRf.tr zSRf_k ⟨fun _ _ => rfl, fun j w => zST_n _ _ _ (by omega)⟩⟩)
              | succ d ih =>
                intro j hj
                have hg : S.2.2.2.2[j]? = some (S.2.2.2.2[j]'(by omega)) := List.getElem?_eq_getElem _
                generalize S.2.2.2.2[j]'(by omega) = a at hg
                obtain ⟨r0, r1, r2, -⟩ := h2 j a hg
                obtain ⟨g1, g2⟩ := hi.2.2.2.1 j a hg
                have nx := ih (j + 1) (by omega)
                have skip : bg + p ≠ j → zNW G kX12_copies m' Q 140 [some (.ref m'), some (.int (nI o)), some (.int (nI q)), some (.int (nI k)), some (.int (nI tick)), some (.int (nI (zec S.2.1 tick q))), some (.int (nI p)), some (.int (if bg + p < j then nI (zwk S.2.2.2.2 (bg + p)) else -1)), some (.int (nI j))] [] S1 := by
                  intro ne
                  have e : (if bg + p < j + 1 then nI (zwk S.2.2.2.2 (bg + p)) else (-1 : Int32)) = if bg + p < j then nI (zwk S.2.2.2.2 (bg + p)) else -1 := by
                    by_cases y : bg + p < j
                    · rw [if_pos y, if_pos (by omega)]
                    · rw [if_neg y, if_neg (by omega)]
                  rw [e] at nx
                  refine n_iload dX12_copies_140 rfl ?_
                  refine n_istore dX12_copies_142 (by decide) ?_
                  refine n_inc1 dX12_copies_144 rfl (by decide) ?_
                  rw [nI_1]
                  refine n_goto (tgt := 98) dX12_copies_147 (by decide) ?_
                  exact nx
                refine n_iload dX12_copies_98 rfl ?_
                refine n_aload_n dX12_copies_100 rfl ?_
                refine n_getE dX12_copies_101 fl_X12_238 rfl (h1) ?_
                refine n_icmp_ge (tgt := 150) dX12_copies_104 (by decide) (fun q => absurd q ((nI_ge (show j < S.2.2.2.2.length by omega) (by omega)))) (fun _ => ?_)
                refine n_aload_n dX12_copies_107 rfl ?_
                refine n_get dX12_copies_108 fl_X12_90 rfl ?_
                refine n_iload dX12_copies_111 rfl ?_
                refine n_iald (j := 23) dX12_copies_113 (by decide) rfl rfl (show _ < 256 by omega) r0 ?_
                refine n_iload_n dX12_copies_114 rfl ?_
                by_cases y : j < bg
                · have a14 := hold j a hg y
                  have := g1 y
                  refine n_icmp_ne (tgt := 140) dX12_copies_115 (by decide) (fun _ => ?_) (fun q => absurd q ((fun w => this ((nI_eq (by omega) (by omega)).mp w))))
                  exact skip (by omega)
                · obtain ⟨a1, a2, a3, a4, a5⟩ := g2 (by omega)
                  refine n_icmp_ne (tgt := 140) dX12_copies_115 (by decide) (fun q => absurd ((show nI a.1 = nI o by rw [a1])) q) (fun _ => ?_)
                  refine n_aload_n dX12_copies_118 rfl ?_
                  refine n_get dX12_copies_119 fl_X12_93 rfl ?_
                  refine n_iload dX12_copies_122 rfl ?_
                  refine n_iald (j := 24) dX12_copies_124 (by decide) rfl rfl (show _ < 256 by omega) r1 ?_
                  refine n_iload dX12_copies_125 rfl ?_
                  by_cases z : bg + p = j
                  · have := a4 (by omega)
                    have e2 : zwk S.2.2.2.2 (bg + p) = a.2.2.1 := by rw [z, zwk, List.getD_eq_getElem?_getD, hg]; rfl
                    rw [if_pos (show bg + p < j + 1 by omega), e2] at nx
                    refine n_icmp_ne (tgt := 140) dX12_copies_127 (by decide) (fun q => absurd ((show nI a.2.1 = nI p by rw [show a.2.1 = p by omega])) q) (fun _ => ?_)
                    refine n_aload_n dX12_copies_130 rfl ?_
                    refine n_get dX12_copies_131 fl_X12_96 rfl ?_
                    refine n_iload dX12_copies_134 rfl ?_
                    refine n_iald (j := 25) dX12_copies_136 (by decide) rfl rfl (show _ < 256 by omega) r2 ?_
                    refine n_goto (tgt := 142) dX12_copies_137 (by decide) ?_
                    refine n_istore dX12_copies_142 (by decide) ?_
                    refine n_inc1 dX12_copies_144 rfl (by decide) ?_
                    rw [nI_1]
                    refine n_goto (tgt := 98) dX12_copies_147 (by decide) ?_
                    exact nx
                  · have ne : a.2.1 ≠ p := by
                      intro w
                      by_cases y2 : j < bg + S.1
                      · have := a4 y2; omega
                      · have := a5 (by omega); rw [w, z1] at this; exact nomatch this
                    refine n_icmp_ne (tgt := 140) dX12_copies_127 (by decide) (fun _ => ?_) (fun q => absurd q ((fun w => ne ((nI_eq (by omega) (by omega)).mp w))))
                    exact skip z
            have o0 := other S.2.2.2.2.length 0 (by omega)
            rw [if_neg (Nat.not_lt_zero _)] at o0
            refine n_icmp_lt (tgt := 92) dX12_copies_87 (by decide) (fun _ => ?_) (fun q => absurd ((nI_lt c2 (by omega))) q)
            refine n_iconst (v := (-1)) dX12_copies_92 (by decide) ?_
            refine n_istore dX12_copies_93 (by decide) ?_
            refine n_iconst (v := (nI 0)) dX12_copies_95 (by decide) ?_
            refine n_istore dX12_copies_96 (by decide) ?_
            exact o0
          · refine n_icmp_lt (tgt := 92) dX12_copies_87 (by decide) (fun q => absurd q ((nI_nlt (by omega) (by omega)))) (fun _ => ?_)
            exact stay (Or.inr fun w => c2 w.2) _
    | succ d ih =>
      intro u x7 x8 hq
      have nx := ih (u + 1) x7 x8 (by omega)
      have e1 := h3 u (by omega)
      have b1 := hb u (by omega)
      rw [zec] at nx
      refine n_iload dX12_copies_6 rfl ?_
      refine n_iload_n dX12_copies_8 rfl ?_
      refine n_icmp_ge (tgt := 40) dX12_copies_9 (by decide) (fun q => absurd q ((nI_ge (show u < m by omega) (by omega)))) (fun _ => ?_)
      refine n_iload dX12_copies_12 rfl ?_
      refine n_aload_n dX12_copies_14 rfl ?_
      refine n_get dX12_copies_15 fl_X12_111 rfl ?_
      refine n_iload dX12_copies_18 rfl ?_
      refine n_iald (j := 30) dX12_copies_20 (by decide) rfl rfl (show _ < 8 by omega) e1 ?_
      refine n_iload dX12_copies_21 rfl ?_
      by_cases c : S.2.1 u ≤ tick
      · rw [if_pos c] at nx
        refine n_icmp_gt (tgt := 30) dX12_copies_23 (by decide) (fun q => absurd q ((fun w => absurd w (Int32.not_lt.mpr (nI_le c (by omega)))))) (fun _ => ?_)
        refine n_iconst (v := (nI 1)) dX12_copies_26 (by decide) ?_
        refine n_goto (tgt := 31) dX12_copies_27 (by decide) ?_
        refine n_iadd dX12_copies_31 ?_
        rw [nI_add]
        refine n_istore dX12_copies_32 (by decide) ?_
        refine n_inc1 dX12_copies_34 rfl (by decide) ?_
        rw [nI_1]
        refine n_goto (tgt := 6) dX12_copies_37 (by decide) ?_
        exact nx
      · rw [if_neg c] at nx
        refine n_icmp_gt (tgt := 30) dX12_copies_23 (by decide) (fun _ => ?_) (fun q => absurd ((nI_lt (by omega) (by omega))) q)
        refine n_iconst (v := (nI 0)) dX12_copies_30 (by decide) ?_
        refine n_iadd dX12_copies_31 ?_
        rw [nI_add]
        refine n_istore dX12_copies_32 (by decide) ?_
        refine n_inc1 dX12_copies_34 rfl (by decide) ?_
        rw [nI_1]
        refine n_goto (tgt := 6) dX12_copies_37 (by decide) ?_
        exact nx
  refine n_iconst (v := (nI 0)) dX12_copies_0 (by decide) ?_
  refine n_istore dX12_copies_1 (by decide) ?_
  refine n_iconst (v := (nI 0)) dX12_copies_3 (by decide) ?_
  refine n_istore dX12_copies_4 (by decide) ?_
  exact loop m 0 none none (by omega)
end
