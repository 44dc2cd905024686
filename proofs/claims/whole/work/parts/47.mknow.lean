-- model
/-! the model: rows by shares; what it knows -/
theorem zKp.tr {S S1 S2 : zMS} {its : Nat} (h : zKp S S1 its) (h2 : zKp S1 S2 its) : zKp S S2 its := ⟨h2.1.trans h.1, fun j hj => (h2.2.1 j hj).trans (h.2.1 j hj), fun i hi => (h2.2.2.1 i hi).trans (h.2.2.1 i hi), fun k hk => (h2.2.2.2.1 k hk).trans (h.2.2.2.1 k hk), fun k hk => ⟨(h2.2.2.2.2 k hk).1.trans (h.2.2.2.2 k hk).1, (h2.2.2.2.2 k hk).2.trans (h.2.2.2.2 k hk).2⟩⟩
theorem zfm_kf_take (k : Int32) (R S : zP2) (j : Nat) : (zfm (zkf k (R.take j)) S).length ≤ (zfm (zkf k R) S).length := by
  have : zkf k R = zkf k (R.take j) ++ zkf k (R.drop j) := by rw [← zkf_app, List.take_append_drop]
  rw [this, zfm_app, List.length_append]
  omega
section
variable {G : zG} {m its : Nat} {S : zMS}
set_option maxRecDepth 100000 in
set_option maxHeartbeats 2000000 in
theorem c_holdsShared {f s k p hw : Nat} {P T : List zP2} {D : Nat → Int32} {X : zP2} {out : zP2 → zP2} (hi : its < 14) (hf : f < 14) (hfi : f ≠ its) (h1 : S.2 1 its = nI f) (hP : zmH S f P) (p8 : P.length ≤ 8) (p3 : P.flatten.length ≤ 300) (hp : S.2 6 its = nI p) (hp1 : 1 ≤ p) (hp8 : p ≤ 8) (hk : S.2 0 its = nI k)
    (hX : (k = 4 ∧ X = zgrp D P.flatten ∧ out = id ∧ S.2 3 its = nI hw ∧ hw ≤ 3 ∧ D 7 = nI hw) ∨ (k = 5 ∧ X = zsrt P.flatten ∧ out = (fun U => zfm U T.flatten) ∧ s < 14 ∧ s ≠ its ∧ S.2 2 its = nI s ∧ zmH S s T ∧ T.length ≤ 8 ∧ T.flatten.length ≤ 300))
    (hc : (zrng p fun i => out (zpart p X i)).flatten.length ≤ 300) :
    zMN G yX12_holdsShared kX12_holdsShared m [.int (nI its)] S (fun v S' => v = none ∧ zKp S S' its ∧ zmH S' its (zrng p fun i => out (zpart p X i))) := by
  refine zMN.of (ls := [some (.ref m), some (.int (nI its)), none, none, none, none, none, none]) (by decide +kernel) ⟨rfl, rfl, rfl⟩ (Nat.le_of_ble_eq_true rfl) (fun _ h => h) fun Q hQ => ?_
  have hu : zUp X := by rcases hX with ⟨-, rfl, -⟩ | ⟨-, rfl, -⟩; exact (zgrp_up _ _).1; exact (zsrt_up _).1
  have hkeys : ∀ x, (∃ q ∈ X, q.1 = x) ↔ ∃ q ∈ P.flatten, q.1 = x := by rcases hX with ⟨-, rfl, -⟩ | ⟨-, rfl, -⟩; exact zgrp_keys _ _; exact zsrt_keys _
  have oapp : ∀ A B, out (A ++ B) = out A ++ out B := by rcases hX with ⟨-, -, rfl, -⟩ | ⟨-, -, rfl, -⟩; exact fun _ _ => rfl; exact fun A B => zfm_app A B _
  have onil : out [] = [] := by rcases hX with ⟨-, -, rfl, -⟩ | ⟨-, -, rfl, -⟩ <;> rfl
  have outer : ∀ (d i : Nat) (S1 : zMS) (x5 x6 x7 : Option Value), i + d = p → zKp S S1 its → S1.2 12 its = nI p → zBd0 S1 its (zrng i fun i => out (zpart p X i)) →
      zNW G kX12_holdsShared m Q 24 [some (.ref m), some (.int (nI its)), some (.int (nI f)), some (.int (nI (zrng i fun i => out (zpart p X i)).flatten.length)), some (.int (nI i)), x5, x6, x7] [] S1 := by
    intro d
    induction d with
    | zero =>
      intro i S1 x5 x6 x7 hd hK hpt hB
      have e : i = p := by omega
      subst e
      refine n_iload dX12_holdsShared_24 rfl ?_
      refine n_aload_n dX12_holdsShared_26 rfl ?_
      refine n_get dX12_holdsShared_27 fl_X12_46 rfl ?_
      refine n_iload_n dX12_holdsShared_30 rfl ?_
      refine n_iald (j := 12) dX12_holdsShared_31 (by decide) rfl rfl (show _ < 14 by omega) hpt ?_
      refine n_icmp_ge (tgt := 190) dX12_holdsShared_32 (by decide) (fun _ => ?_) (fun q => absurd ((nI_le (Nat.le_refl _) (by omega))) q)
      refine n_aload_n dX12_holdsShared_190 rfl ?_
      refine n_get dX12_holdsShared_191 fl_X12_49 rfl ?_
      refine n_bipush (v := (nI 9)) dX12_holdsShared_194 (by decide) ?_
      refine n_iload_n dX12_holdsShared_196 rfl ?_
      refine n_imul dX12_holdsShared_197 ?_
      rw [pk_mul]
      refine n_aload_n dX12_holdsShared_198 rfl ?_
      refine n_get dX12_holdsShared_199 fl_X12_46 rfl ?_
      refine n_iload_n dX12_holdsShared_202 rfl ?_
      refine n_iald (j := 12) dX12_holdsShared_203 (by decide) rfl rfl (show _ < 14 by omega) hpt ?_
      refine n_iadd dX12_holdsShared_204 ?_
      rw [nI_add]
      refine n_iload_n dX12_holdsShared_205 rfl ?_
      refine n_iast (j := 13) dX12_holdsShared_206 (by decide) rfl rfl (show _ < 126 by omega) ?_
      have hb := hB.beg
      rw [zrng_len] at hb
      exact n_vret dX12_holdsShared_207 rfl (hQ _ _ ⟨rfl, hK.beg (by omega), hb.fin ((zSTo (by decide)).trans (by rw [zrng_len]; exact hpt))⟩)
    | succ d ih =>
      intro i S1 x5 x6 x7 hd hK hpt hB
      have hfl := zrng_fl (f := fun i => out (zpart p X i)) (show i < p by omega)
      have es := zrng_s i (fun i => out (zpart p X i))
      generalize hO : (zrng i fun i => out (zpart p X i)) = DN at *
      have hDl : DN.length = i := by rw [← hO, zrng_len]
      have hPP1 := hK.H hfi hP p8 p3
      refine n_iload dX12_holdsShared_24 rfl ?_
      refine n_aload_n dX12_holdsShared_26 rfl ?_
      refine n_get dX12_holdsShared_27 fl_X12_46 rfl ?_
      refine n_iload_n dX12_holdsShared_30 rfl ?_
      refine n_iald (j := 12) dX12_holdsShared_31 (by decide) rfl rfl (show _ < 14 by omega) hpt ?_
      refine n_icmp_ge (tgt := 190) dX12_holdsShared_32 (by decide) (fun q => absurd q ((nI_ge (show i < p by omega) (by omega)))) (fun _ => ?_)
      refine n_aload_n dX12_holdsShared_35 rfl ?_
      refine n_get dX12_holdsShared_36 fl_X12_49 rfl ?_
      refine n_bipush (v := (nI 9)) dX12_holdsShared_39 (by decide) ?_
      refine n_iload_n dX12_holdsShared_41 rfl ?_
      refine n_imul dX12_holdsShared_42 ?_
      rw [pk_mul]
      refine n_iload dX12_holdsShared_43 rfl ?_
      refine n_iadd dX12_holdsShared_45 ?_
      rw [nI_add]
      refine n_iload_n dX12_holdsShared_46 rfl ?_
      refine n_iast (j := 13) dX12_holdsShared_47 (by decide) rfl rfl (show _ < 126 by omega) ?_
      refine n_aload_n dX12_holdsShared_48 rfl ?_
      refine n_iload_n dX12_holdsShared_49 rfl ?_
      have hb := hB.beg
      rw [hDl] at hb
      have hK2 : zKp S (zST S1 13 (9 * its + i) (nI DN.flatten.length)) its := hK.beg (by omega)
      have hpt2 : (zST S1 13 (9 * its + i) (nI DN.flatten.length)).2 12 its = nI p := (zSTo (by decide)).trans hpt
      have while_ : ∀ (e : Nat) (a : Int) (U : zP2) (S2 : zMS) (l : Int64) (x7 : Option Value), (zab a (zpart p X i)).length ≤ e → l.toInt = znx a (zpart p P.flatten i) → zKp S S2 its → S2.2 12 its = nI p → zBd S2 its DN U → U ++ out (zab a (zpart p X i)) = out (zpart p X i) →
          zNW G kX12_holdsShared m Q 66 [some (.ref m), some (.int (nI its)), some (.int (nI f)), some (.int (nI (DN.flatten.length + U.length))), some (.int (nI i)), some (.long l), none, x7] [] S2 := by
        intro e
        induction e with
        | zero =>
          intro a U S2 l x7 he hl hK3 hpt3 hB3 hU
          rcases zshare_step (p := p) (i := i) (a := a) hu hkeys with ⟨n1, n2⟩ | ⟨k, k1, k2, k3, k4⟩
          · rw [n2, onil, List.append_nil] at hU
            subst hU
            refine n_lload dX12_holdsShared_66 rfl ?_
            refine n_ldc2 dX12_holdsShared_68 lc_X12_162 ?_
            refine n_lcmp dX12_holdsShared_71 rfl ?_
            refine n_if_ge (tgt := 184) dX12_holdsShared_72 (by decide) (fun _ => ?_) (fun q => absurd (((lg_cmp_ge _ _).mpr (Int64.le_iff_toInt_le.mpr (by rw [hl, n1]; decide +kernel)))) q)
            refine n_inc1 dX12_holdsShared_184 rfl (by decide) ?_
            refine n_goto (tgt := 24) dX12_holdsShared_187 (by decide) ?_
            rw [nI_1]
            have := ih (i + 1) S2 (some (.long l)) none x7 (by omega) hK3 hpt3 (by rw [es]; exact hB3.done)
            rw [es, zfl1] at this
            exact this
          · have : zab a (zpart p X i) = [] := List.length_eq_zero_iff.mp (by omega)
            rw [this] at k4
            have k5 := (zkf_mem (x := k) (R := X)).mp ((hkeys k).mpr (zkf_mem.mpr k3))
            exact absurd (List.append_eq_nil_iff.mp k4.symm).1 k5
        | succ e ihe =>
          intro a U S2 l x7 he hl hK3 hpt3 hB3 hU
          rcases zshare_step (p := p) (i := i) (a := a) hu hkeys with ⟨n1, n2⟩ | ⟨x, k1, k2, k3, k4⟩
          · rw [n2, onil, List.append_nil] at hU
            subst hU
            refine n_lload dX12_holdsShared_66 rfl ?_
            refine n_ldc2 dX12_holdsShared_68 lc_X12_162 ?_
            refine n_lcmp dX12_holdsShared_71 rfl ?_
            refine n_if_ge (tgt := 184) dX12_holdsShared_72 (by decide) (fun _ => ?_) (fun q => absurd (((lg_cmp_ge _ _).mpr (Int64.le_iff_toInt_le.mpr (by rw [hl, n1]; decide +kernel)))) q)
            refine n_inc1 dX12_holdsShared_184 rfl (by decide) ?_
            refine n_goto (tgt := 24) dX12_holdsShared_187 (by decide) ?_
            rw [nI_1]
            have := ih (i + 1) S2 (some (.long l)) none x7 (by omega) hK3 hpt3 (by rw [es]; exact hB3.done)
            rw [es, zfl1] at this
            exact this
          · have hx31 := Int32.toInt_lt x
            have e9 : Int64.toInt 1099511627776 = 1099511627776 := by decide +kernel
            have lx : l.toInt = x.toInt := hl.trans k1.symm
            have l32 : l.toInt32 = x := by
              have e1 : l = x.toInt64 := Int64.toInt_inj.mp (by rw [lx, Int32.toInt_toInt64])
              rw [e1]
              simp
            have k5 := (zkf_mem (x := x) (R := X)).mp ((hkeys x).mpr (zkf_mem.mpr k3))
            have hlen := congrArg List.length k4
            rw [List.length_append] at hlen
            have k6 := List.length_pos_iff.mpr k5
            rw [k4, oapp, ← List.append_assoc] at hU
            have hUl := congrArg List.length hU
            rw [List.length_append, List.length_append] at hUl
            have hPP3 := hK3.H hfi hP p8 p3
            have nxt : ∀ (S4 : zMS) (y7 : Option Value), zKp S S4 its → S4.2 12 its = nI p → zBd S4 its DN (U ++ out (zkf x X)) → zNW G kX12_holdsShared m Q 164 [some (.ref m), some (.int (nI its)), some (.int (nI f)), some (.int (nI (DN.flatten.length + (U ++ out (zkf x X)).length))), some (.int (nI i)), some (.long l), none, y7] [] S4 := by
              intro S4 y7 hK4 hpt4 hB4
              have hPP4 := hK4.H hfi hP p8 p3
              refine n_aload_n dX12_holdsShared_164 rfl ?_
              refine n_iload_n dX12_holdsShared_165 rfl ?_
              refine n_lload dX12_holdsShared_166 rfl ?_
              refine n_iload dX12_holdsShared_168 rfl ?_
              refine n_aload_n dX12_holdsShared_170 rfl ?_
              refine n_get dX12_holdsShared_171 fl_X12_46 rfl ?_
              refine n_iload_n dX12_holdsShared_174 rfl ?_
              refine n_iald (j := 12) dX12_holdsShared_175 (by decide) rfl rfl (show _ < 14 by omega) hpt4 ?_
              refine n_call dX12_holdsShared_176 cv_X12_166 (c_next (i := i) (p := p) hf hPP4 p8 p3 hp1 hp8 (by omega)) rfl rfl rfl ⟨(Nat.le_of_ble_eq_true rfl), (Nat.le_of_ble_eq_true rfl)⟩ rfl rfl (Nat.le_of_ble_eq_true rfl) (fun v S5 hq5 => ?_)
              obtain ⟨⟨l2, rfl, hl2⟩, rfl⟩ := hq5
              refine n_lstore dX12_holdsShared_179 (by decide) ?_
              refine n_goto (tgt := 66) dX12_holdsShared_181 (by decide) ?_
              rw [lx] at hl2
              exact ihe x.toInt _ S5 l2 y7 (by omega) hl2 hK4 hpt4 hB4 hU
            refine n_lload dX12_holdsShared_66 rfl ?_
            refine n_ldc2 dX12_holdsShared_68 lc_X12_162 ?_
            refine n_lcmp dX12_holdsShared_71 rfl ?_
            refine n_if_ge (tgt := 184) dX12_holdsShared_72 (by decide) (fun q => absurd q ((fun w => by have := Int64.le_iff_toInt_le.mp ((lg_cmp_ge _ _).mp w); rw [lx, e9] at this; omega))) (fun _ => ?_)
            refine n_aload_n dX12_holdsShared_75 rfl ?_
            refine n_get dX12_holdsShared_76 fl_X12_7 rfl ?_
            refine n_iload_n dX12_holdsShared_79 rfl ?_
            refine n_iald (j := 0) dX12_holdsShared_80 (by decide) rfl rfl (show _ < 14 by omega) (hK3.v (by decide) hk) ?_
            refine n_iconst (v := (nI 4)) dX12_holdsShared_81 (by decide) ?_
            rcases hX with ⟨rfl, rfl, rfl, g1, g2, g3⟩ | ⟨rfl, rfl, rfl, g1, g2, g3, g4, g5, g6⟩
            · obtain ⟨w, hw2⟩ := zagg_ne (D := D) k3
              have ez : zkf x (zgrp D P.flatten) = [(x, w)] := by rw [zgrp_kf, hw2]; rfl
              have ew : zav D (zkf x P.flatten) = w := by unfold zav; rw [hw2]; rfl
              rw [ez] at nxt hUl
              simp only [id, List.length_singleton] at nxt hUl
              simp only [id] at hfl hc
              refine n_icmp_ne (tgt := 108) dX12_holdsShared_82 (by decide) (fun q => absurd (rfl) q) (fun _ => ?_)
              refine n_aload_n dX12_holdsShared_85 rfl ?_
              refine n_iload_n dX12_holdsShared_86 rfl ?_
              refine n_iload_n dX12_holdsShared_87 rfl ?_
              refine n_lload dX12_holdsShared_88 rfl ?_
              refine n_l2i dX12_holdsShared_90 ?_
              rw [l32]
              refine n_aload_n dX12_holdsShared_91 rfl ?_
              refine n_iload_n dX12_holdsShared_92 rfl ?_
              refine n_lload dX12_holdsShared_93 rfl ?_
              refine n_l2i dX12_holdsShared_95 ?_
              rw [l32]
              refine n_call dX12_holdsShared_96 cv_X12_170 (c_grouped hi hf (hK3.v (by decide) h1) (hK3.v (by decide) g1) g2 g3 hPP3 p8 p3) rfl rfl rfl ⟨(Nat.le_of_ble_eq_true rfl), (Nat.le_of_ble_eq_true rfl)⟩ rfl rfl (Nat.le_of_ble_eq_true rfl) (fun v S5 hq5 => ?_)
              obtain ⟨rfl, hS⟩ := hq5
              subst hS
              rw [ew]
              refine n_call dX12_holdsShared_99 cv_X12_155 (c_adds hi (by omega)) rfl rfl rfl ⟨(Nat.le_of_ble_eq_true rfl), (Nat.le_of_ble_eq_true rfl)⟩ rfl rfl (Nat.le_of_ble_eq_true rfl) (fun v S5 hq5 => ?_)
              obtain ⟨rfl, rfl⟩ := hq5
              refine n_inc1 dX12_holdsShared_102 rfl (by decide) ?_
              refine n_goto (tgt := 164) dX12_holdsShared_105 (by decide) ?_
              rw [nI_1]
              have := nxt _ x7 (hK3.row (n := DN.flatten.length + U.length) (x := x) (y := w) (by omega)) ((zSTo (by decide)).trans ((zSTo (by decide)).trans hpt3)) (hB3.row rfl)
              rw [List.length_append, List.length_singleton, ← Nat.add_assoc] at this
              exact this
            · have ez : zkf x (zsrt P.flatten) = zkf x P.flatten := zsrt_kf x _
              rw [ez] at nxt hUl
              simp only at nxt hUl hfl hc
              refine n_icmp_ne (tgt := 108) dX12_holdsShared_82 (by decide) (fun _ => ?_) (fun q => absurd q ((by decide)))
              refine n_sipush (v := (nI 300)) dX12_holdsShared_108 (by decide) ?_
              refine n_iload_n dX12_holdsShared_111 rfl ?_
              refine n_imul dX12_holdsShared_112 ?_
              rw [pk_mul]
              refine n_istore dX12_holdsShared_113 (by decide) ?_
              have rows : ∀ (e2 j : Nat) (S4 : zMS), j + e2 = P.flatten.length → zKp S S4 its → S4.2 12 its = nI p → zBd S4 its DN (U ++ zfm (zkf x (P.flatten.take j)) T.flatten) →
                  zNW G kX12_holdsShared m Q 115 [some (.ref m), some (.int (nI its)), some (.int (nI f)), some (.int (nI (DN.flatten.length + (U ++ zfm (zkf x (P.flatten.take j)) T.flatten).length))), some (.int (nI i)), some (.long l), none, some (.int (nI (300 * f + j)))] [] S4 := by
                intro e2
                induction e2 with
                | zero =>
                  intro j S4 he4 hK4 hpt4 hB4
                  have ej : j = P.flatten.length := by omega
                  subst ej
                  have hPP4 := hK4.H hfi hP p8 p3
                  refine n_iload dX12_holdsShared_115 rfl ?_
                  refine n_sipush (v := (nI 300)) dX12_holdsShared_117 (by decide) ?_
                  refine n_iload_n dX12_holdsShared_120 rfl ?_
                  refine n_imul dX12_holdsShared_121 ?_
                  rw [pk_mul]
                  refine n_aload_n dX12_holdsShared_122 rfl ?_
                  refine n_iload_n dX12_holdsShared_123 rfl ?_
                  refine n_call dX12_holdsShared_124 cv_X12_152 (c_all hf hPP4 p8) rfl rfl rfl ⟨(Nat.le_of_ble_eq_true rfl), (Nat.le_of_ble_eq_true rfl)⟩ rfl rfl (Nat.le_of_ble_eq_true rfl) (fun v S5 hq5 => ?_)
                  obtain ⟨rfl, rfl⟩ := hq5
                  refine n_iadd dX12_holdsShared_127 ?_
                  rw [nI_add]
                  refine n_icmp_ge (tgt := 164) dX12_holdsShared_128 (by decide) (fun _ => ?_) (fun q => absurd ((nI_le (Nat.le_refl _) (by omega))) q)
                  rw [List.take_length] at hB4 ⊢
                  exact nxt _ _ hK4 hpt4 hB4
                | succ e2 ihr =>
                  intro j S4 he4 hK4 hpt4 hB4
                  have hg : P.flatten[j]? = some (P.flatten[j]'(by omega)) := List.getElem?_eq_getElem _
                  generalize P.flatten[j]'(by omega) = q at hg
                  have hPP4 := hK4.H hfi hP p8 p3
                  have hTT4 := hK4.H g2 g4 g5 g6
                  obtain ⟨r1, r2⟩ := hPP4.2.2 j q hg
                  have hle := zfm_kf_take x P.flatten T.flatten (j + 1)
                  have esn : zkf x (P.flatten.take (j + 1)) = zkf x (P.flatten.take j) ++ zkf x [q] := by rw [ztake hg, zkf_app]
                  refine n_iload dX12_holdsShared_115 rfl ?_
                  refine n_sipush (v := (nI 300)) dX12_holdsShared_117 (by decide) ?_
                  refine n_iload_n dX12_holdsShared_120 rfl ?_
                  refine n_imul dX12_holdsShared_121 ?_
                  rw [pk_mul]
                  refine n_aload_n dX12_holdsShared_122 rfl ?_
                  refine n_iload_n dX12_holdsShared_123 rfl ?_
                  refine n_call dX12_holdsShared_124 cv_X12_152 (c_all hf hPP4 p8) rfl rfl rfl ⟨(Nat.le_of_ble_eq_true rfl), (Nat.le_of_ble_eq_true rfl)⟩ rfl rfl (Nat.le_of_ble_eq_true rfl) (fun v S5 hq5 => ?_)
                  obtain ⟨rfl, rfl⟩ := hq5
                  refine n_iadd dX12_holdsShared_127 ?_
                  rw [nI_add]
                  refine n_icmp_ge (tgt := 164) dX12_holdsShared_128 (by decide) (fun q => absurd q ((nI_ge (show 300 * f + j < 300 * f + P.flatten.length by omega) (by omega)))) (fun _ => ?_)
                  refine n_aload_n dX12_holdsShared_131 rfl ?_
                  refine n_get dX12_holdsShared_132 fl_X12_52 rfl ?_
                  refine n_iload dX12_holdsShared_135 rfl ?_
                  refine n_iald (j := 14) dX12_holdsShared_137 (by decide) rfl rfl (show _ < 4200 by omega) r1 ?_
                  refine n_i2l dX12_holdsShared_138 ?_
                  refine n_lload dX12_holdsShared_139 rfl ?_
                  refine n_lcmp dX12_holdsShared_141 rfl ?_
                  by_cases c : q.1 = x
                  · have ek : zkf x [q] = [q] := zkf_cons_t c
                    have em : zfm [q] T.flatten = zmat q T.flatten := by simp [zfm]
                    rw [ek] at esn
                    rw [esn, zfm_app, em, List.length_append] at hle
                    have ul : (U ++ zfm (zkf x (P.flatten.take j)) T.flatten).length = U.length + (zfm (zkf x (P.flatten.take j)) T.flatten).length := List.length_append
                    have e5 : (U ++ (zfm (zkf x (P.flatten.take j)) T.flatten ++ zmat q T.flatten)).length = (U ++ zfm (zkf x (P.flatten.take j)) T.flatten).length + (zmat q T.flatten).length := by rw [← List.append_assoc, List.length_append]
                    refine n_if_ne (tgt := 156) dX12_holdsShared_142 (by decide) (fun q => absurd (((lg_cmp_eq _ _).mpr (Int64.toInt_inj.mp (by rw [Int32.toInt_toInt64, lx, c])))) q) (fun _ => ?_)
                    refine n_aload_n dX12_holdsShared_145 rfl ?_
                    refine n_iload_n dX12_holdsShared_146 rfl ?_
                    refine n_iload dX12_holdsShared_147 rfl ?_
                    refine n_iload_n dX12_holdsShared_149 rfl ?_
                    refine n_call dX12_holdsShared_150 cv_X12_173 (c_joins hi g1 g2 (hK4.v (by decide) g3) hTT4 g5 g6 (by omega) (by omega) r1 r2 (by omega)) rfl rfl rfl ⟨(Nat.le_of_ble_eq_true rfl), (Nat.le_of_ble_eq_true rfl)⟩ rfl rfl (Nat.le_of_ble_eq_true rfl) (fun v S6 hq6 => ?_)
                    obtain ⟨rfl, q1, q2, q3⟩ := hq6
                    refine n_goto (tgt := 157) dX12_holdsShared_153 (by decide) ?_
                    refine n_istore_n dX12_holdsShared_157 (by decide) ?_
                    refine n_inc1 dX12_holdsShared_158 rfl (by decide) ?_
                    refine n_goto (tgt := 115) dX12_holdsShared_161 (by decide) ?_
                    rw [nI_1]
                    have hB6 := q3 _ _ hB4 rfl
                    have := ihr (j + 1) S6 (by omega) (hK4.tr q1) (q2.trans hpt4) (by rw [esn, zfm_app, em, ← List.append_assoc]; exact hB6)
                    rw [esn, zfm_app, em, e5, ← Nat.add_assoc, ← Nat.add_assoc] at this
                    exact this
                  · have ek : zkf x [q] = [] := zkf_cons_f c
                    rw [ek, List.append_nil] at esn
                    refine n_if_ne (tgt := 156) dX12_holdsShared_142 (by decide) (fun _ => ?_) (fun q => absurd q ((fun w => c (Int32.toInt_inj.mp (by have := congrArg Int64.toInt ((lg_cmp_eq _ _).mp w); rw [Int32.toInt_toInt64, lx] at this; exact this)))))
                    refine n_iload_n dX12_holdsShared_156 rfl ?_
                    refine n_istore_n dX12_holdsShared_157 (by decide) ?_
                    refine n_inc1 dX12_holdsShared_158 rfl (by decide) ?_
                    refine n_goto (tgt := 115) dX12_holdsShared_161 (by decide) ?_
                    rw [nI_1]
                    have := ihr (j + 1) S5 (by omega) hK4 hpt4 (by rw [esn]; exact hB4)
                    rw [esn] at this
                    exact this
              have r0 := rows P.flatten.length 0 S2 (by omega) hK3 hpt3 (by rw [List.take_zero]; show zBd S2 its DN (U ++ []); rw [List.append_nil]; exact hB3)
              rw [List.take_zero, show zfm (zkf x []) T.flatten = [] from rfl, List.append_nil] at r0
              exact r0
      have hPP2 := hK2.H hfi hP p8 p3
      refine n_ldc2 dX12_holdsShared_50 lc_X12_164 ?_
      refine n_iload dX12_holdsShared_53 rfl ?_
      refine n_aload_n dX12_holdsShared_55 rfl ?_
      refine n_get dX12_holdsShared_56 fl_X12_46 rfl ?_
      refine n_iload_n dX12_holdsShared_59 rfl ?_
      refine n_iald (j := 12) dX12_holdsShared_60 (by decide) rfl rfl (show _ < 14 by omega) hpt2 ?_
      refine n_call dX12_holdsShared_61 cv_X12_166 (c_next (i := i) (p := p) hf hPP2 p8 p3 hp1 hp8 (by omega)) rfl rfl rfl ⟨(Nat.le_of_ble_eq_true rfl), (Nat.le_of_ble_eq_true rfl)⟩ rfl rfl (Nat.le_of_ble_eq_true rfl) (fun v S3 hq3 => ?_)
      obtain ⟨⟨l, rfl, hl⟩, rfl⟩ := hq3
      refine n_lstore dX12_holdsShared_64 (by decide) ?_
      have ea : Int64.toInt (-1099511627776) = -1099511627776 := by decide +kernel
      rw [ea] at hl
      exact while_ _ _ [] _ l x7 (Nat.le_refl _) hl hK2 hpt2 hb (by rw [zab_all (by decide)]; rfl)
  refine n_aload_n dX12_holdsShared_0 rfl ?_
  refine n_get dX12_holdsShared_1 fl_X12_13 rfl ?_
  refine n_iload_n dX12_holdsShared_4 rfl ?_
  refine n_iald (j := 1) dX12_holdsShared_5 (by decide) rfl rfl (show _ < 14 by omega) h1 ?_
  refine n_istore_n dX12_holdsShared_6 (by decide) ?_
  refine n_aload_n dX12_holdsShared_7 rfl ?_
  refine n_get dX12_holdsShared_8 fl_X12_46 rfl ?_
  refine n_iload_n dX12_holdsShared_11 rfl ?_
  refine n_aload_n dX12_holdsShared_12 rfl ?_
  refine n_get dX12_holdsShared_13 fl_X12_28 rfl ?_
  refine n_iload_n dX12_holdsShared_16 rfl ?_
  refine n_iald (j := 6) dX12_holdsShared_17 (by decide) rfl rfl (show _ < 14 by omega) hp ?_
  refine n_iast (j := 12) dX12_holdsShared_18 (by decide) rfl rfl (show _ < 14 by omega) ?_
  refine n_iconst (v := (nI 0)) dX12_holdsShared_19 (by decide) ?_
  refine n_istore_n dX12_holdsShared_20 (by decide) ?_
  refine n_iconst (v := (nI 0)) dX12_holdsShared_21 (by decide) ?_
  refine n_istore dX12_holdsShared_22 (by decide) ?_
  exact outer p 0 _ none none none (by omega) zKp.rf.par zSTs zBd0.nil
end
