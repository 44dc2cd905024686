-- model
/-! the model: broad joins, the next key, groups -/
theorem zfm_app (A B S : zP2) : zfm (A ++ B) S = zfm A S ++ zfm B S := by simp [zfm]
section
variable {G : zG} {m its : Nat} {S : zMS}
set_option maxRecDepth 100000 in
set_option maxHeartbeats 1000000 in
theorem c_holdsBroad {f s : Nat} {P T : List zP2} (hi : its < 14) (hf : f < 14) (hfi : f ≠ its) (hs : s < 14) (hsi : s ≠ its) (h1 : S.2 1 its = nI f) (h2 : S.2 2 its = nI s) (hP : zmH S f P) (p8 : P.length ≤ 8) (p3 : P.flatten.length ≤ 300) (hT : zmH S s T) (t8 : T.length ≤ 8) (t3 : T.flatten.length ≤ 300) (hc : (P.map (zfmP T.flatten)).flatten.length ≤ 300) :
    zMN G yX12_holdsBroad kX12_holdsBroad m [.int (nI its)] S (fun v S' => v = none ∧ zKp S S' its ∧ zmH S' its (P.map (zfmP T.flatten))) := by
  refine zMN.of (ls := [some (.ref m), some (.int (nI its)), none, none, none, none]) (by decide +kernel) ⟨rfl, rfl, rfl⟩ (Nat.le_of_ble_eq_true rfl) (fun _ h => h) fun Q hQ => ?_
  have outer : ∀ (d p : Nat) (S1 : zMS) (x5 : Option Value), p + d = P.length → zKp S S1 its → S1.2 12 its = nI P.length → zBd0 S1 its ((P.take p).map (zfmP T.flatten)) →
      zNW G kX12_holdsBroad m Q 24 [some (.ref m), some (.int (nI its)), some (.int (nI f)), some (.int (nI ((P.take p).map (zfmP T.flatten)).flatten.length)), some (.int (nI p)), x5] [] S1 := by
    intro d
    induction d with
    | zero =>
      intro p S1 x5 hd hK hpt hB
      have e : p = P.length := by omega
      subst e
      refine n_iload dX12_holdsBroad_24 rfl ?_
      refine n_aload_n dX12_holdsBroad_26 rfl ?_
      refine n_get dX12_holdsBroad_27 fl_X12_46 rfl ?_
      refine n_iload_n dX12_holdsBroad_30 rfl ?_
      refine n_iald (j := 12) dX12_holdsBroad_31 (by decide) rfl rfl (show _ < 14 by omega) hpt ?_
      refine n_icmp_ge (tgt := 104) dX12_holdsBroad_32 (by decide) (fun _ => ?_) (fun q => absurd ((nI_le (Nat.le_refl _) (by omega))) q)
      refine n_aload_n dX12_holdsBroad_104 rfl ?_
      refine n_get dX12_holdsBroad_105 fl_X12_49 rfl ?_
      refine n_bipush (v := (nI 9)) dX12_holdsBroad_108 (by decide) ?_
      refine n_iload_n dX12_holdsBroad_110 rfl ?_
      refine n_imul dX12_holdsBroad_111 ?_
      rw [pk_mul]
      refine n_aload_n dX12_holdsBroad_112 rfl ?_
      refine n_get dX12_holdsBroad_113 fl_X12_46 rfl ?_
      refine n_iload_n dX12_holdsBroad_116 rfl ?_
      refine n_iald (j := 12) dX12_holdsBroad_117 (by decide) rfl rfl (show _ < 14 by omega) hpt ?_
      refine n_iadd dX12_holdsBroad_118 ?_
      rw [nI_add]
      refine n_iload_n dX12_holdsBroad_119 rfl ?_
      refine n_iast (j := 13) dX12_holdsBroad_120 (by decide) rfl rfl (show _ < 126 by omega) ?_
      have hb := hB.beg
      rw [List.length_map, List.length_take, Nat.min_self, List.take_length] at hb
      rw [List.take_length]
      exact n_vret dX12_holdsBroad_121 rfl (hQ _ _ ⟨rfl, hK.beg (by omega), hb.fin ((zSTo (by decide)).trans (by rw [List.length_map]; exact hpt))⟩)
    | succ d ih =>
      intro p S1 x5 hd hK hpt hB
      have hg : P[p]? = some (P[p]'(by omega)) := List.getElem?_eq_getElem _
      generalize P[p]'(by omega) = pp at hg
      have hpl : ((P.take p).map (zfmP T.flatten)).length = p := by rw [List.length_map, List.length_take]; omega
      have htk := zfl1 (P.take p) pp
      rw [← ztake hg] at htk
      have hsub : (P.take (p + 1)).flatten.length ≤ P.flatten.length := by
        have : P.flatten = (P.take (p + 1)).flatten ++ (P.drop (p + 1)).flatten := by rw [← List.flatten_append, List.take_append_drop]
        rw [this, List.length_append]
        omega
      have hout : ((P.take p).map (zfmP T.flatten)).flatten.length + (zfm pp T.flatten).length ≤ 300 := by
        have e1 : P.map (zfmP T.flatten) = ((P.take p).map (zfmP T.flatten) ++ [zfm pp T.flatten]) ++ (P.drop (p + 1)).map (zfmP T.flatten) := by
          conv => lhs; rw [zpre_flat hg, List.map_append, List.map_cons]
          rw [List.append_assoc]
          rfl
        rw [e1, List.flatten_append, List.length_append, zfl1] at hc
        omega
      refine n_iload dX12_holdsBroad_24 rfl ?_
      refine n_aload_n dX12_holdsBroad_26 rfl ?_
      refine n_get dX12_holdsBroad_27 fl_X12_46 rfl ?_
      refine n_iload_n dX12_holdsBroad_30 rfl ?_
      refine n_iald (j := 12) dX12_holdsBroad_31 (by decide) rfl rfl (show _ < 14 by omega) hpt ?_
      refine n_icmp_ge (tgt := 104) dX12_holdsBroad_32 (by decide) (fun q => absurd q ((nI_ge (show p < P.length by omega) (by omega)))) (fun _ => ?_)
      refine n_aload_n dX12_holdsBroad_35 rfl ?_
      refine n_get dX12_holdsBroad_36 fl_X12_49 rfl ?_
      refine n_bipush (v := (nI 9)) dX12_holdsBroad_39 (by decide) ?_
      refine n_iload_n dX12_holdsBroad_41 rfl ?_
      refine n_imul dX12_holdsBroad_42 ?_
      rw [pk_mul]
      refine n_iload dX12_holdsBroad_43 rfl ?_
      refine n_iadd dX12_holdsBroad_45 ?_
      rw [nI_add]
      refine n_iload_n dX12_holdsBroad_46 rfl ?_
      refine n_iast (j := 13) dX12_holdsBroad_47 (by decide) rfl rfl (show _ < 126 by omega) ?_
      refine n_sipush (v := (nI 300)) dX12_holdsBroad_48 (by decide) ?_
      refine n_iload_n dX12_holdsBroad_51 rfl ?_
      have hb := hB.beg
      rw [hpl] at hb
      have hK2 : zKp S (zST S1 13 (9 * its + p) (nI ((P.take p).map (zfmP T.flatten)).flatten.length)) its := hK.beg (by omega)
      have hPP2 := hK2.H hfi hP p8 p3
      refine n_imul dX12_holdsBroad_52 ?_
      rw [pk_mul]
      refine n_aload_n dX12_holdsBroad_53 rfl ?_
      refine n_iload_n dX12_holdsBroad_54 rfl ?_
      refine n_iload dX12_holdsBroad_55 rfl ?_
      refine n_call dX12_holdsBroad_57 cv_X12_148 (c_at hf (by omega) (hPP2.2.1 p (by omega))) rfl rfl rfl ⟨(Nat.le_of_ble_eq_true rfl), (Nat.le_of_ble_eq_true rfl)⟩ rfl rfl (Nat.le_of_ble_eq_true rfl) (fun v S2 hq2 => ?_)
      obtain ⟨rfl, rfl⟩ := hq2
      refine n_iadd dX12_holdsBroad_60 ?_
      rw [nI_add]
      refine n_istore dX12_holdsBroad_61 (by decide) ?_
      generalize hDn : (P.take p).map (zfmP T.flatten) = DN at *
      generalize hB0 : (P.take p).flatten.length = b at *
      have inner : ∀ (e j : Nat) (S3 : zMS), j + e = pp.length → zKp S S3 its → S3.2 12 its = nI P.length → zBd S3 its DN (zfm (pp.take j) T.flatten) →
          zNW G kX12_holdsBroad m Q 63 [some (.ref m), some (.int (nI its)), some (.int (nI f)), some (.int (nI (DN.flatten.length + (zfm (pp.take j) T.flatten).length))), some (.int (nI p)), some (.int (nI (300 * f + b + j)))] [] S3 := by
        intro e
        induction e with
        | zero =>
          intro j S3 he hK3 hpt3 hB3
          have ej : j = pp.length := by omega
          subst ej
          have hPP3 := hK3.H hfi hP p8 p3
          refine n_iload dX12_holdsBroad_63 rfl ?_
          refine n_sipush (v := (nI 300)) dX12_holdsBroad_65 (by decide) ?_
          refine n_iload_n dX12_holdsBroad_68 rfl ?_
          refine n_imul dX12_holdsBroad_69 ?_
          rw [pk_mul]
          refine n_aload_n dX12_holdsBroad_70 rfl ?_
          refine n_iload_n dX12_holdsBroad_71 rfl ?_
          refine n_iload dX12_holdsBroad_72 rfl ?_
          refine n_iconst (v := (nI 1)) dX12_holdsBroad_74 (by decide) ?_
          refine n_iadd dX12_holdsBroad_75 ?_
          rw [nI_add]
          refine n_call dX12_holdsBroad_76 cv_X12_148 (c_at hf (by omega) (hPP3.2.1 (p + 1) (by omega))) rfl rfl rfl ⟨(Nat.le_of_ble_eq_true rfl), (Nat.le_of_ble_eq_true rfl)⟩ rfl rfl (Nat.le_of_ble_eq_true rfl) (fun v S4 hq4 => ?_)
          obtain ⟨rfl, rfl⟩ := hq4
          refine n_iadd dX12_holdsBroad_79 ?_
          rw [nI_add]
          refine n_icmp_ge (tgt := 98) dX12_holdsBroad_80 (by decide) (fun _ => ?_) (fun q => absurd ((nI_le (by omega) (by omega))) q)
          refine n_inc1 dX12_holdsBroad_98 rfl (by decide) ?_
          refine n_goto (tgt := 24) dX12_holdsBroad_101 (by decide) ?_
          rw [nI_1]
          rw [List.take_length] at hB3 ⊢
          have e2 : (P.take (p + 1)).map (zfmP T.flatten) = DN ++ [zfm pp T.flatten] := by rw [zmap_tk hg, hDn]; rfl
          have := ih (p + 1) S4 (some (.int (nI (300 * f + b + pp.length)))) (by omega) hK3 hpt3 (by rw [e2]; exact hB3.done)
          rw [e2, zfl1] at this
          exact this
        | succ e ihe =>
          intro j S3 he hK3 hpt3 hB3
          have hq : pp[j]? = some (pp[j]'(by omega)) := List.getElem?_eq_getElem _
          generalize pp[j]'(by omega) = q at hq
          have hPP3 := hK3.H hfi hP p8 p3
          have hTT3 := hK3.H hsi hT t8 t3
          have hat := zflat_at hg hq
          rw [hB0] at hat
          obtain ⟨r1, r2⟩ := hPP3.2.2 _ q hat
          rw [← Nat.add_assoc] at r1 r2
          have hsn := zfm_snoc (pp.take j) T.flatten q
          rw [← ztake hq] at hsn
          have hle := zfm_take pp T.flatten (j + 1)
          rw [hsn, List.length_append] at hle
          refine n_iload dX12_holdsBroad_63 rfl ?_
          refine n_sipush (v := (nI 300)) dX12_holdsBroad_65 (by decide) ?_
          refine n_iload_n dX12_holdsBroad_68 rfl ?_
          refine n_imul dX12_holdsBroad_69 ?_
          rw [pk_mul]
          refine n_aload_n dX12_holdsBroad_70 rfl ?_
          refine n_iload_n dX12_holdsBroad_71 rfl ?_
          refine n_iload dX12_holdsBroad_72 rfl ?_
          refine n_iconst (v := (nI 1)) dX12_holdsBroad_74 (by decide) ?_
          refine n_iadd dX12_holdsBroad_75 ?_
          rw [nI_add]
          refine n_call dX12_holdsBroad_76 cv_X12_148 (c_at hf (by omega) (hPP3.2.1 (p + 1) (by omega))) rfl rfl rfl ⟨(Nat.le_of_ble_eq_true rfl), (Nat.le_of_ble_eq_true rfl)⟩ rfl rfl (Nat.le_of_ble_eq_true rfl) (fun v S4 hq4 => ?_)
          obtain ⟨rfl, rfl⟩ := hq4
          refine n_iadd dX12_holdsBroad_79 ?_
          rw [nI_add]
          refine n_icmp_ge (tgt := 98) dX12_holdsBroad_80 (by decide) (fun q => absurd q ((nI_ge (show 300 * f + b + j < 300 * f + (P.take (p + 1)).flatten.length by omega) (by omega)))) (fun _ => ?_)
          refine n_aload_n dX12_holdsBroad_83 rfl ?_
          refine n_iload_n dX12_holdsBroad_84 rfl ?_
          refine n_iload dX12_holdsBroad_85 rfl ?_
          refine n_iload_n dX12_holdsBroad_87 rfl ?_
          refine n_call dX12_holdsBroad_88 cv_X12_173 (c_joins hi hs hsi (hK3.v (by decide) h2) hTT3 t8 t3 (by omega) (by omega) r1 r2 (by omega)) rfl rfl rfl ⟨(Nat.le_of_ble_eq_true rfl), (Nat.le_of_ble_eq_true rfl)⟩ rfl rfl (Nat.le_of_ble_eq_true rfl) (fun v S5 hq5 => ?_)
          obtain ⟨rfl, q1, q2, q3⟩ := hq5
          refine n_istore_n dX12_holdsBroad_91 (by decide) ?_
          refine n_inc1 dX12_holdsBroad_92 rfl (by decide) ?_
          refine n_goto (tgt := 63) dX12_holdsBroad_95 (by decide) ?_
          rw [nI_1]
          have hK5 : zKp S S5 its := ⟨q1.1.trans hK3.1, fun j hj => (q1.2.1 j hj).trans (hK3.2.1 j hj), fun i hi => (q1.2.2.1 i hi).trans (hK3.2.2.1 i hi), fun k hk => (q1.2.2.2.1 k hk).trans (hK3.2.2.2.1 k hk), fun k hk => ⟨(q1.2.2.2.2 k hk).1.trans (hK3.2.2.2.2 k hk).1, (q1.2.2.2.2 k hk).2.trans (hK3.2.2.2.2 k hk).2⟩⟩
          have := ihe (j + 1) S5 (by omega) hK5 (q2.trans hpt3) (by rw [hsn]; exact q3 _ _ hB3 rfl)
          rw [hsn, List.length_append, ← Nat.add_assoc, ← Nat.add_assoc] at this
          exact this
      exact inner pp.length 0 _ (by omega) hK2 ((zSTo (by decide)).trans hpt) hb
  refine n_aload_n dX12_holdsBroad_0 rfl ?_
  refine n_get dX12_holdsBroad_1 fl_X12_13 rfl ?_
  refine n_iload_n dX12_holdsBroad_4 rfl ?_
  refine n_iald (j := 1) dX12_holdsBroad_5 (by decide) rfl rfl (show _ < 14 by omega) h1 ?_
  refine n_istore_n dX12_holdsBroad_6 (by decide) ?_
  refine n_aload_n dX12_holdsBroad_7 rfl ?_
  refine n_get dX12_holdsBroad_8 fl_X12_46 rfl ?_
  refine n_iload_n dX12_holdsBroad_11 rfl ?_
  refine n_aload_n dX12_holdsBroad_12 rfl ?_
  refine n_get dX12_holdsBroad_13 fl_X12_46 rfl ?_
  refine n_iload_n dX12_holdsBroad_16 rfl ?_
  refine n_iald (j := 12) dX12_holdsBroad_17 (by decide) rfl rfl (show _ < 14 by omega) hP.1 ?_
  refine n_iast (j := 12) dX12_holdsBroad_18 (by decide) rfl rfl (show _ < 14 by omega) ?_
  refine n_iconst (v := (nI 0)) dX12_holdsBroad_19 (by decide) ?_
  refine n_istore_n dX12_holdsBroad_20 (by decide) ?_
  refine n_iconst (v := (nI 0)) dX12_holdsBroad_21 (by decide) ?_
  refine n_istore dX12_holdsBroad_22 (by decide) ?_
  exact outer P.length 0 _ none (by omega) zKp.rf.par zSTs zBd0.nil
set_option maxRecDepth 100000 in
theorem c_next {f p i : Nat} {a : Int64} {P : List zP2} (hf : f < 14) (hP : zmH S f P) (p8 : P.length ≤ 8) (p3 : P.flatten.length ≤ 300) (h0 : 1 ≤ p) (h8 : p ≤ 8) (hi : i < 8) : zMN G yX12_next kX12_next m [.int (nI f), .long a, .int (nI i), .int (nI p)] S (fun v S' => (∃ l : Int64, v = some (.long l) ∧ l.toInt = znx a.toInt (zpart p P.flatten i)) ∧ S' = S) := by
  refine zMN.of (ls := [some (.ref m), some (.int (nI f)), some (.long a), none, some (.int (nI i)), some (.int (nI p)), none, none, none]) (by decide +kernel) ⟨rfl, rfl, rfl⟩ (Nat.le_of_ble_eq_true rfl) (fun _ h => h) fun Q hQ => ?_
  have hp0 : (0 : Int32) < nI p := nI_lt (a := 0) h0 (by omega)
  have loop : ∀ (e j : Nat) (l : Int64), j + e = P.flatten.length → l.toInt = znx a.toInt (zpart p (P.flatten.take j) i) →
      zNW G kX12_next m Q 12 [some (.ref m), some (.int (nI f)), some (.long a), none, some (.int (nI i)), some (.int (nI p)), some (.long l), none, some (.int (nI (300 * f + j)))] [] S := by
    intro e
    induction e with
    | zero =>
      intro j l he hl
      have ej : j = P.flatten.length := by omega
      subst ej
      refine n_iload dX12_next_12 rfl ?_
      refine n_sipush (v := (nI 300)) dX12_next_14 (by decide) ?_
      refine n_iload_n dX12_next_17 rfl ?_
      refine n_imul dX12_next_18 ?_
      rw [pk_mul]
      refine n_aload_n dX12_next_19 rfl ?_
      refine n_iload_n dX12_next_20 rfl ?_
      refine n_call dX12_next_21 cv_X12_152 (c_all hf hP p8) rfl rfl rfl ⟨(Nat.le_of_ble_eq_true rfl), (Nat.le_of_ble_eq_true rfl)⟩ rfl rfl (Nat.le_of_ble_eq_true rfl) (fun v S2 hq2 => ?_)
      obtain ⟨rfl, rfl⟩ := hq2
      refine n_iadd dX12_next_24 ?_
      rw [nI_add]
      refine n_icmp_ge (tgt := 93) dX12_next_25 (by decide) (fun _ => ?_) (fun q => absurd ((nI_le (Nat.le_refl _) (by omega))) q)
      refine n_lload dX12_next_93 rfl ?_
      rw [List.take_length] at hl
      exact n_lret dX12_next_95 rfl (hQ _ _ ⟨⟨l, rfl, hl⟩, rfl⟩)
    | succ e ih =>
      intro j l he hl
      have hg : P.flatten[j]? = some (P.flatten[j]'(by omega)) := List.getElem?_eq_getElem _
      generalize P.flatten[j]'(by omega) = q at hg
      have r1 := (hP.2.2 j q hg).1
      have hsn := zpart_snoc p (P.flatten.take j) i q
      rw [← ztake hg] at hsn
      have lcl : ∀ x : Int32, x.toInt64.toInt = x.toInt := fun x => Int32.toInt_toInt64 x
      have keep : ¬ (zmd q.1 (nI p) = nI i ∧ a.toInt < q.1.toInt ∧ q.1.toInt < l.toInt) → zNW G kX12_next m Q 83 [some (.ref m), some (.int (nI f)), some (.long a), none, some (.int (nI i)), some (.int (nI p)), some (.long l), none, some (.int (nI (300 * f + j)))] [] S := by
        intro c
        refine n_lload dX12_next_83 rfl ?_
        refine n_lstore dX12_next_85 (by decide) ?_
        refine n_inc1 dX12_next_87 rfl (by decide) ?_
        refine n_goto (tgt := 12) dX12_next_90 (by decide) ?_
        rw [nI_1]
        refine ih (j + 1) l (by omega) ?_
        rw [hsn]
        by_cases c2 : zmd q.1 (nI p) = nI i
        · rw [if_pos c2, znx_snoc, znx1, ← hl, if_neg (fun w => c ⟨c2, w⟩)]
        · rw [if_neg c2, List.append_nil]; exact hl
      refine n_iload dX12_next_12 rfl ?_
      refine n_sipush (v := (nI 300)) dX12_next_14 (by decide) ?_
      refine n_iload_n dX12_next_17 rfl ?_
      refine n_imul dX12_next_18 ?_
      rw [pk_mul]
      refine n_aload_n dX12_next_19 rfl ?_
      refine n_iload_n dX12_next_20 rfl ?_
      refine n_call dX12_next_21 cv_X12_152 (c_all hf hP p8) rfl rfl rfl ⟨(Nat.le_of_ble_eq_true rfl), (Nat.le_of_ble_eq_true rfl)⟩ rfl rfl (Nat.le_of_ble_eq_true rfl) (fun v S2 hq2 => ?_)
      obtain ⟨rfl, hS⟩ := hq2
      subst hS
      refine n_iadd dX12_next_24 ?_
      rw [nI_add]
      refine n_icmp_ge (tgt := 93) dX12_next_25 (by decide) (fun q => absurd q ((nI_ge (show 300 * f + j < 300 * f + P.flatten.length by omega) (by omega)))) (fun _ => ?_)
      refine n_aload_n dX12_next_28 rfl ?_
      refine n_get dX12_next_29 fl_X12_52 rfl ?_
      refine n_iload dX12_next_32 rfl ?_
      refine n_iald (j := 14) dX12_next_34 (by decide) rfl rfl (show _ < 4200 by omega) r1 ?_
      refine n_i2l dX12_next_35 ?_
      refine n_lload_n dX12_next_36 rfl ?_
      refine n_lcmp dX12_next_37 rfl ?_
      refine n_if_le (tgt := 83) dX12_next_38 (by decide) (fun h38 => ?_) (fun h38 => ?_)
      · have := Int64.le_iff_toInt_le.mp ((lg_cmp_le _ _).mp h38)
        rw [lcl] at this
        exact keep fun w => by omega
      · have c1 : a.toInt < q.1.toInt := Int.not_le.mp fun w => h38 ((lg_cmp_le _ _).mpr (Int64.le_iff_toInt_le.mpr (by rw [lcl]; exact w)))
        refine n_aload_n dX12_next_41 rfl ?_
        refine n_get dX12_next_42 fl_X12_52 rfl ?_
        refine n_iload dX12_next_45 rfl ?_
        refine n_iald (j := 14) dX12_next_47 (by decide) rfl rfl (show _ < 4200 by omega) r1 ?_
        refine n_i2l dX12_next_48 ?_
        refine n_lload dX12_next_49 rfl ?_
        refine n_lcmp dX12_next_51 rfl ?_
        refine n_if_ge (tgt := 83) dX12_next_52 (by decide) (fun h52 => ?_) (fun h52 => ?_)
        · have := Int64.le_iff_toInt_le.mp ((lg_cmp_ge _ _).mp h52)
          rw [lcl] at this
          exact keep fun w => by omega
        · have c2 : q.1.toInt < l.toInt := Int.not_le.mp fun w => h52 ((lg_cmp_ge _ _).mpr (Int64.le_iff_toInt_le.mpr (by rw [lcl]; exact w)))
          refine n_aload_n dX12_next_55 rfl ?_
          refine n_get dX12_next_56 fl_X12_52 rfl ?_
          refine n_iload dX12_next_59 rfl ?_
          refine n_iald (j := 14) dX12_next_61 (by decide) rfl rfl (show _ < 4200 by omega) r1 ?_
          refine n_iload dX12_next_62 rfl ?_
          refine n_callS dX12_next_64 cv_X12_159 (fun _ _ => (c_share hp0)) rfl rfl ⟨(Nat.le_of_ble_eq_true rfl), (Nat.le_of_ble_eq_true rfl)⟩ rfl rfl (Nat.le_of_ble_eq_true rfl) (fun v hq3 => ?_)
          subst hq3
          refine n_iload dX12_next_67 rfl ?_
          refine n_icmp_ne (tgt := 83) dX12_next_69 (by decide) (fun h69 => ?_) (fun h69 => ?_)
          · exact keep fun w => h69 w.1
          · refine n_aload_n dX12_next_72 rfl ?_
            refine n_get dX12_next_73 fl_X12_52 rfl ?_
            refine n_iload dX12_next_76 rfl ?_
            refine n_iald (j := 14) dX12_next_78 (by decide) rfl rfl (show _ < 4200 by omega) r1 ?_
            refine n_i2l dX12_next_79 ?_
            refine n_goto (tgt := 85) dX12_next_80 (by decide) ?_
            refine n_lstore dX12_next_85 (by decide) ?_
            refine n_inc1 dX12_next_87 rfl (by decide) ?_
            refine n_goto (tgt := 12) dX12_next_90 (by decide) ?_
            rw [nI_1]
            refine ih (j + 1) _ (by omega) ?_
            rw [hsn, if_pos h69, znx_snoc, znx1, ← hl, if_pos ⟨c1, c2⟩, lcl]
  refine n_ldc2 dX12_next_0 lc_X12_162 ?_
  refine n_lstore dX12_next_3 (by decide) ?_
  refine n_sipush (v := (nI 300)) dX12_next_5 (by decide) ?_
  refine n_iload_n dX12_next_8 rfl ?_
  refine n_imul dX12_next_9 ?_
  rw [pk_mul]
  refine n_istore dX12_next_10 (by decide) ?_
  exact loop P.flatten.length 0 _ (by omega) (by rw [List.take_zero]; show Int64.toInt 1099511627776 = (1099511627776 : Int); decide +kernel)
/-- a group's value so far -/
def zav (D : Nat → Int32) (R : zP2) : Int32 := (zagg D R).getD 0
theorem zagg_none {D : Nat → Int32} {R : zP2} : zagg D R = none ↔ R = [] := by
  constructor
  · intro h
    by_cases c : R = []
    · exact c
    · obtain ⟨w, hw⟩ := zagg_ne (D := D) c
      rw [h] at hw
      exact nomatch hw
  · intro h; rw [h]; rfl
theorem zav_snoc {D : Nat → Int32} {R : zP2} {q : Int32 × Int32} : zav D (R ++ [q]) = if R = [] then zg0 D q.2 else zg1 D (zav D R) q.2 := by
  unfold zav
  rw [zagg_snoc]
  cases h : zagg D R with
  | none => rw [if_pos (zagg_none.mp h)]; rfl
  | some w =>
    rw [if_neg]
    · rfl
    · intro e; rw [zagg_none.mpr e] at h; exact nomatch h
set_option maxRecDepth 100000 in
theorem c_grouped {f h : Nat} {x : Int32} {D : Nat → Int32} {P : List zP2} (hi : its < 14) (hf : f < 14) (h1 : S.2 1 its = nI f) (hh : S.2 3 its = nI h) (h3 : h ≤ 3) (hD : D 7 = nI h) (hP : zmH S f P) (p8 : P.length ≤ 8) (p3 : P.flatten.length ≤ 300) : zMN G yX12_grouped kX12_grouped m [.int (nI its), .int x] S (fun v S' => v = some (.int (zav D (zkf x P.flatten))) ∧ S' = S) := by
  refine zMN.of (ls := [some (.ref m), some (.int (nI its)), some (.int x), none, none, none, none, none, none]) (by decide +kernel) ⟨rfl, rfl, rfl⟩ (Nat.le_of_ble_eq_true rfl) (fun _ h => h) fun Q hQ => ?_
  have loop : ∀ (e j : Nat) (x7 x8 : Option Value), j + e = P.flatten.length →
      zNW G kX12_grouped m Q 20 [some (.ref m), some (.int (nI its)), some (.int x), some (.int (nI f)), some (.int (nI (zkf x (P.flatten.take j)).length)), some (.int (zav D (zkf x (P.flatten.take j)))), some (.int (nI (300 * f + j))), x7, x8] [] S := by
    intro e
    induction e with
    | zero =>
      intro j x7 x8 he
      have ej : j = P.flatten.length := by omega
      subst ej
      refine n_iload dX12_grouped_20 rfl ?_
      refine n_sipush (v := (nI 300)) dX12_grouped_22 (by decide) ?_
      refine n_iload_n dX12_grouped_25 rfl ?_
      refine n_imul dX12_grouped_26 ?_
      rw [pk_mul]
      refine n_aload_n dX12_grouped_27 rfl ?_
      refine n_iload_n dX12_grouped_28 rfl ?_
      refine n_call dX12_grouped_29 cv_X12_152 (c_all hf hP p8) rfl rfl rfl ⟨(Nat.le_of_ble_eq_true rfl), (Nat.le_of_ble_eq_true rfl)⟩ rfl rfl (Nat.le_of_ble_eq_true rfl) (fun v S2 hq2 => ?_)
      obtain ⟨rfl, hS⟩ := hq2
      subst hS
      refine n_iadd dX12_grouped_32 ?_
      rw [nI_add]
      refine n_icmp_ge (tgt := 157) dX12_grouped_33 (by decide) (fun _ => ?_) (fun q => absurd ((nI_le (Nat.le_refl _) (by omega))) q)
      rw [List.take_length]
      refine n_iload dX12_grouped_157 rfl ?_
      exact n_iret dX12_grouped_159 rfl (hQ _ _ ⟨rfl, rfl⟩)
    | succ e ih =>
      intro j x7 x8 he
      have hg : P.flatten[j]? = some (P.flatten[j]'(by omega)) := List.getElem?_eq_getElem _
      generalize P.flatten[j]'(by omega) = q at hg
      obtain ⟨r1, r2⟩ := hP.2.2 j q hg
      have hlen : (zkf x (P.flatten.take j)).length ≤ 300 := Nat.le_trans (List.length_filter_le _ _) (by rw [List.length_take]; omega)
      refine n_iload dX12_grouped_20 rfl ?_
      refine n_sipush (v := (nI 300)) dX12_grouped_22 (by decide) ?_
      refine n_iload_n dX12_grouped_25 rfl ?_
      refine n_imul dX12_grouped_26 ?_
      rw [pk_mul]
      refine n_aload_n dX12_grouped_27 rfl ?_
      refine n_iload_n dX12_grouped_28 rfl ?_
      refine n_call dX12_grouped_29 cv_X12_152 (c_all hf hP p8) rfl rfl rfl ⟨(Nat.le_of_ble_eq_true rfl), (Nat.le_of_ble_eq_true rfl)⟩ rfl rfl (Nat.le_of_ble_eq_true rfl) (fun v S2 hq2 => ?_)
      obtain ⟨rfl, hS⟩ := hq2
      subst hS
      refine n_iadd dX12_grouped_32 ?_
      rw [nI_add]
      refine n_icmp_ge (tgt := 157) dX12_grouped_33 (by decide) (fun q => absurd q ((nI_ge (show 300 * f + j < 300 * f + P.flatten.length by omega) (by omega)))) (fun _ => ?_)
      refine n_aload_n dX12_grouped_36 rfl ?_
      refine n_get dX12_grouped_37 fl_X12_52 rfl ?_
      refine n_iload dX12_grouped_40 rfl ?_
      refine n_iald (j := 14) dX12_grouped_42 (by decide) rfl rfl (show _ < 4200 by omega) r1 ?_
      refine n_iload_n dX12_grouped_43 rfl ?_
      refine n_icmp_ne (tgt := 151) dX12_grouped_44 (by decide) (fun h44 => ?_) (fun h44 => ?_)
      · have e1 : zkf x (P.flatten.take (j + 1)) = zkf x (P.flatten.take j) := by rw [ztake hg, zkf_app, zkf_cons_f h44]; exact List.append_nil _
        refine n_inc1 dX12_grouped_151 rfl (by decide) ?_
        refine n_goto (tgt := 20) dX12_grouped_154 (by decide) ?_
        rw [nI_1]
        have := ih (j + 1) x7 x8 (by omega)
        rw [e1] at this
        exact this
      · have e1 : zkf x (P.flatten.take (j + 1)) = zkf x (P.flatten.take j) ++ [q] := by rw [ztake hg, zkf_app, zkf_cons_t h44]; rfl
        generalize zkf x (P.flatten.take j) = K at *
        have go : ∀ (w : Int32) (y7 y8 : Option Value), (if K = [] then zg0 D q.2 else zg1 D (zav D K) q.2) = w → zNW G kX12_grouped m Q 146 [some (.ref m), some (.int (nI its)), some (.int x), some (.int (nI f)), some (.int (nI K.length)), some (.int (zav D K)), some (.int (nI (300 * f + j))), y7, y8] [.int w] S2 := by
          intro w y7 y8 hw
          refine n_istore dX12_grouped_146 (by decide) ?_
          refine n_inc1 dX12_grouped_148 rfl (by decide) ?_
          refine n_inc1 dX12_grouped_151 rfl (by decide) ?_
          refine n_goto (tgt := 20) dX12_grouped_154 (by decide) ?_
          rw [nI_1, nI_1]
          have := ih (j + 1) y7 y8 (by omega)
          rw [e1, zav_snoc, hw, List.length_append, List.length_singleton] at this
          exact this
        refine n_aload_n dX12_grouped_47 rfl ?_
        refine n_get dX12_grouped_48 fl_X12_55 rfl ?_
        refine n_iload dX12_grouped_51 rfl ?_
        refine n_iald (j := 15) dX12_grouped_53 (by decide) rfl rfl (show _ < 4200 by omega) r2 ?_
        refine n_istore dX12_grouped_54 (by decide) ?_
        refine n_aload_n dX12_grouped_56 rfl ?_
        refine n_get dX12_grouped_57 fl_X12_19 rfl ?_
        refine n_iload_n dX12_grouped_60 rfl ?_
        refine n_iald (j := 3) dX12_grouped_61 (by decide) rfl rfl (show _ < 14 by omega) hh ?_
        refine n_iconst (v := (nI 1)) dX12_grouped_62 (by decide) ?_
        have tail : ∀ y : Int32, (h = 1 ∨ h = 2 → K ≠ [] → (if y = 0 then zav D K else q.2) = zg1 D (zav D K) q.2) → zNW G kX12_grouped m Q 93 [some (.ref m), some (.int (nI its)), some (.int x), some (.int (nI f)), some (.int (nI K.length)), some (.int (zav D K)), some (.int (nI (300 * f + j))), some (.int q.2), x8] [.int y] S2 := by
          intro y hy
          refine n_istore dX12_grouped_93 (by decide) ?_
          refine n_aload_n dX12_grouped_95 rfl ?_
          refine n_get dX12_grouped_96 fl_X12_19 rfl ?_
          refine n_iload_n dX12_grouped_99 rfl ?_
          refine n_iald (j := 3) dX12_grouped_100 (by decide) rfl rfl (show _ < 14 by omega) hh ?_
          refine n_iconst (v := (nI 3)) dX12_grouped_101 (by decide) ?_
          rcases (show h = 0 ∨ h = 1 ∨ h = 2 ∨ h = 3 by omega) with e | e | e | e <;> subst e
          · refine n_icmp_ne (tgt := 112) dX12_grouped_102 (by decide) (fun _ => ?_) (fun q => absurd q ((by decide)))
            refine n_aload_n dX12_grouped_112 rfl ?_
            refine n_get dX12_grouped_113 fl_X12_19 rfl ?_
            refine n_iload_n dX12_grouped_116 rfl ?_
            refine n_iald (j := 3) dX12_grouped_117 (by decide) rfl rfl (show _ < 14 by omega) hh ?_
            refine n_if_ne (tgt := 129) dX12_grouped_118 (by decide) (fun q => absurd (rfl) q) (fun _ => ?_)
            refine n_iload dX12_grouped_121 rfl ?_
            refine n_iload dX12_grouped_123 rfl ?_
            refine n_iadd dX12_grouped_125 ?_
            refine n_goto (tgt := 146) dX12_grouped_126 (by decide) ?_
            refine go _ _ _ ?_
            by_cases c : K = []
            · rw [if_pos c, c]
              simp only [zg0, hD]
              exact (Int32.zero_add _).symm
            · rw [if_neg c]; simp only [zg1, zg0, hD]; rfl
          · refine n_icmp_ne (tgt := 112) dX12_grouped_102 (by decide) (fun _ => ?_) (fun q => absurd q ((by decide)))
            refine n_aload_n dX12_grouped_112 rfl ?_
            refine n_get dX12_grouped_113 fl_X12_19 rfl ?_
            refine n_iload_n dX12_grouped_116 rfl ?_
            refine n_iald (j := 3) dX12_grouped_117 (by decide) rfl rfl (show _ < 14 by omega) hh ?_
            refine n_if_ne (tgt := 129) dX12_grouped_118 (by decide) (fun _ => ?_) (fun q => absurd q ((by decide)))
            refine n_iload dX12_grouped_129 rfl ?_
            by_cases c : K = []
            · refine n_if_eq (tgt := 139) dX12_grouped_131 (by decide) (fun _ => ?_) (fun q => absurd ((by rw [c]; rfl)) q)
              refine n_iload dX12_grouped_139 rfl ?_
              refine n_goto (tgt := 146) dX12_grouped_141 (by decide) ?_
              refine go _ _ _ ?_
              rw [if_pos c]; simp only [zg0, hD]; rfl
            · have c0 : 0 < K.length := List.length_pos_iff.mpr c
              refine n_if_eq (tgt := 139) dX12_grouped_131 (by decide) (fun q => absurd q ((fun w => by have := (nI_eq (b := 0) (by omega) (by decide)).mp w; omega))) (fun _ => ?_)
              have hy2 := hy (Or.inl rfl) c
              refine n_iload dX12_grouped_134 rfl ?_
              by_cases c2 : y = 0
              · rw [if_pos c2] at hy2
                refine n_if_eq (tgt := 144) dX12_grouped_136 (by decide) (fun _ => ?_) (fun q => absurd (c2) q)
                refine n_iload dX12_grouped_144 rfl ?_
                exact go _ _ _ (by rw [if_neg c]; exact hy2.symm)
              · rw [if_neg c2] at hy2
                refine n_if_eq (tgt := 144) dX12_grouped_136 (by decide) (fun q => absurd q (c2)) (fun _ => ?_)
                refine n_iload dX12_grouped_139 rfl ?_
                refine n_goto (tgt := 146) dX12_grouped_141 (by decide) ?_
                exact go _ _ _ (by rw [if_neg c]; exact hy2.symm)
          · refine n_icmp_ne (tgt := 112) dX12_grouped_102 (by decide) (fun _ => ?_) (fun q => absurd q ((by decide)))
            refine n_aload_n dX12_grouped_112 rfl ?_
            refine n_get dX12_grouped_113 fl_X12_19 rfl ?_
            refine n_iload_n dX12_grouped_116 rfl ?_
            refine n_iald (j := 3) dX12_grouped_117 (by decide) rfl rfl (show _ < 14 by omega) hh ?_
            refine n_if_ne (tgt := 129) dX12_grouped_118 (by decide) (fun _ => ?_) (fun q => absurd q ((by decide)))
            refine n_iload dX12_grouped_129 rfl ?_
            by_cases c : K = []
            · refine n_if_eq (tgt := 139) dX12_grouped_131 (by decide) (fun _ => ?_) (fun q => absurd ((by rw [c]; rfl)) q)
              refine n_iload dX12_grouped_139 rfl ?_
              refine n_goto (tgt := 146) dX12_grouped_141 (by decide) ?_
              refine go _ _ _ ?_
              rw [if_pos c]; simp only [zg0, hD]; rfl
            · have c0 : 0 < K.length := List.length_pos_iff.mpr c
              refine n_if_eq (tgt := 139) dX12_grouped_131 (by decide) (fun q => absurd q ((fun w => by have := (nI_eq (b := 0) (by omega) (by decide)).mp w; omega))) (fun _ => ?_)
              have hy2 := hy (Or.inr rfl) c
              refine n_iload dX12_grouped_134 rfl ?_
              by_cases c2 : y = 0
              · rw [if_pos c2] at hy2
                refine n_if_eq (tgt := 144) dX12_grouped_136 (by decide) (fun _ => ?_) (fun q => absurd (c2) q)
                refine n_iload dX12_grouped_144 rfl ?_
                exact go _ _ _ (by rw [if_neg c]; exact hy2.symm)
              · rw [if_neg c2] at hy2
                refine n_if_eq (tgt := 144) dX12_grouped_136 (by decide) (fun q => absurd q (c2)) (fun _ => ?_)
                refine n_iload dX12_grouped_139 rfl ?_
                refine n_goto (tgt := 146) dX12_grouped_141 (by decide) ?_
                exact go _ _ _ (by rw [if_neg c]; exact hy2.symm)
          · refine n_icmp_ne (tgt := 112) dX12_grouped_102 (by decide) (fun q => absurd (rfl) q) (fun _ => ?_)
            refine n_iload dX12_grouped_105 rfl ?_
            refine n_iconst (v := (nI 1)) dX12_grouped_107 (by decide) ?_
            refine n_iadd dX12_grouped_108 ?_
            refine n_goto (tgt := 146) dX12_grouped_109 (by decide) ?_
            refine go _ _ _ ?_
            by_cases c : K = []
            · rw [if_pos c, c]; simp only [zg0, hD]; rfl
            · rw [if_neg c]; simp only [zg1, zg0, hD]; rfl
        by_cases c1 : h = 1
        · subst c1
          refine n_icmp_ne (tgt := 81) dX12_grouped_63 (by decide) (fun q => absurd (rfl) q) (fun _ => ?_)
          refine n_iload dX12_grouped_66 rfl ?_
          refine n_iload dX12_grouped_68 rfl ?_
          refine n_icmp_ge (tgt := 77) dX12_grouped_70 (by decide) (fun h70 => ?_) (fun h70 => ?_)
          · refine n_iconst (v := (nI 0)) dX12_grouped_77 (by decide) ?_
            refine n_goto (tgt := 93) dX12_grouped_78 (by decide) ?_
            refine tail _ fun _ _ => ?_
            rw [if_pos (show nI 0 = 0 from rfl)]; simp only [zg1, hD]
            exact ((if_pos rfl).trans (if_neg (Int32.not_lt.mpr h70))).symm
          · refine n_iconst (v := (nI 1)) dX12_grouped_73 (by decide) ?_
            refine n_goto (tgt := 93) dX12_grouped_74 (by decide) ?_
            refine tail _ fun _ _ => ?_
            rw [if_neg (show ¬ nI 1 = 0 by decide)]; simp only [zg1, hD]
            exact ((if_pos rfl).trans (if_pos (Int32.not_le.mp h70))).symm
        · refine n_icmp_ne (tgt := 81) dX12_grouped_63 (by decide) (fun _ => ?_) (fun q => absurd q ((fun w => c1 ((nI_eq (b := 1) (by omega) (by decide)).mp w))))
          refine n_iload dX12_grouped_81 rfl ?_
          refine n_iload dX12_grouped_83 rfl ?_
          refine n_icmp_le (tgt := 92) dX12_grouped_85 (by decide) (fun h85 => ?_) (fun h85 => ?_)
          · refine n_iconst (v := (nI 0)) dX12_grouped_92 (by decide) ?_
            refine tail _ fun h12 _ => ?_
            have e2 : h = 2 := by omega
            subst e2
            rw [if_pos (show nI 0 = 0 from rfl)]; simp only [zg1, hD]
            exact ((if_neg (by decide)).trans ((if_pos rfl).trans (if_neg (Int32.not_lt.mpr h85)))).symm
          · refine n_iconst (v := (nI 1)) dX12_grouped_88 (by decide) ?_
            refine n_goto (tgt := 93) dX12_grouped_89 (by decide) ?_
            refine tail _ fun h12 _ => ?_
            have e2 : h = 2 := by omega
            subst e2
            rw [if_neg (show ¬ nI 1 = 0 by decide)]; simp only [zg1, hD]
            exact ((if_neg (by decide)).trans ((if_pos rfl).trans (if_pos (Int32.not_le.mp h85)))).symm
  refine n_aload_n dX12_grouped_0 rfl ?_
  refine n_get dX12_grouped_1 fl_X12_13 rfl ?_
  refine n_iload_n dX12_grouped_4 rfl ?_
  refine n_iald (j := 1) dX12_grouped_5 (by decide) rfl rfl (show _ < 14 by omega) h1 ?_
  refine n_istore_n dX12_grouped_6 (by decide) ?_
  refine n_iconst (v := (nI 0)) dX12_grouped_7 (by decide) ?_
  refine n_istore dX12_grouped_8 (by decide) ?_
  refine n_iconst (v := (nI 0)) dX12_grouped_10 (by decide) ?_
  refine n_istore dX12_grouped_11 (by decide) ?_
  refine n_sipush (v := (nI 300)) dX12_grouped_13 (by decide) ?_
  refine n_iload_n dX12_grouped_16 rfl ?_
  refine n_imul dX12_grouped_17 ?_
  rw [pk_mul]
  refine n_istore dX12_grouped_18 (by decide) ?_
  exact loop P.flatten.length 0 none none (by omega)
end
