-- model
/-! the model: unions, joins -/
def zBu (S : zMS) (its : Nat) (P T : List zP2) (p : Nat) (R : zP2) : Prop := (∀ q, q < P.length + p → S.2 13 (9 * its + q) = nI ((P ++ T).take q).flatten.length) ∧ ∀ (k : Nat) (q : Int32 × Int32), (P.flatten ++ R)[k]? = some q → S.2 14 (300 * its + k) = q.1 ∧ S.2 15 (300 * its + k) = q.2
section
variable {S S' S0 : zMS} {its : Nat} {P T : List zP2} {R : zP2}
theorem zBu.of (h : zBd0 S its P) : zBu S its P T 0 [] := ⟨fun q hq => by rw [List.take_append_of_le_length (by omega)]; exact h.1 q hq, fun k q hk => h.2 k q (by rwa [List.append_nil] at hk)⟩
theorem zBu.to (h : zBu S its P T T.length T.flatten) : zBd0 S its (P ++ T) := ⟨fun q hq => h.1 q (by rwa [List.length_append] at hq), fun k q hk => h.2 k q (by rwa [List.flatten_append] at hk)⟩
theorem ztk_app (P T : List zP2) (p : Nat) : ((P ++ T).take (P.length + p)).flatten.length = P.flatten.length + (T.take p).flatten.length := by
  rw [List.take_append, Nat.add_sub_cancel_left, List.take_of_length_le (by omega), List.flatten_append, List.length_append]
theorem zBu.beg {p : Nat} (h : zBu S its P T p R) : zBu (zST S 13 (9 * its + (P.length + p)) (nI (P.flatten.length + (T.take p).flatten.length))) its P T (p + 1) R := by
  refine ⟨fun q hq => ?_, fun k q hk => ⟨(zSTo (by decide)).trans (h.2 k q hk).1, (zSTo (by decide)).trans (h.2 k q hk).2⟩⟩
  by_cases e : q = P.length + p
  · subst e; rw [zSTs, ztk_app]
  · rw [zSTn (by omega)]; exact h.1 q (by omega)
theorem zBu.par {p i : Nat} {x : Int32} (h : zBu S its P T p R) : zBu (zST S 12 i x) its P T p R := ⟨fun q hq => (zSTo (by decide)).trans (h.1 q hq), fun k q hk => ⟨(zSTo (by decide)).trans (h.2 k q hk).1, (zSTo (by decide)).trans (h.2 k q hk).2⟩⟩
theorem zBu.row {p n : Nat} {x y : Int32} (h : zBu S its P T p R) (hn : P.flatten.length + R.length = n) : zBu (zST (zST S 14 (300 * its + n) x) 15 (300 * its + n) y) its P T p (R ++ [(x, y)]) := by
  refine ⟨fun p hp => (zSTo (by decide)).trans ((zSTo (by decide)).trans (h.1 p hp)), fun k q hk => ?_⟩
  rw [← List.append_assoc] at hk
  by_cases c : k < n
  · rw [List.getElem?_append_left (by rw [List.length_append]; omega)] at hk
    rw [zSTo (by decide), zSTn (by omega), zSTn (by omega), zSTo (by decide)]
    exact h.2 k q hk
  · have hl := zR_lt hk
    rw [List.length_append, List.length_append, List.length_singleton] at hl
    have e : k = n := by omega
    subst e
    rw [List.getElem?_append_right (by rw [List.length_append]; omega), List.length_append, hn, Nat.sub_self] at hk
    cases hk
    rw [zSTo (by decide), zSTs, zSTs]
    exact ⟨rfl, rfl⟩
end
section
variable {G : zG} {m its : Nat} {S : zMS}
set_option maxRecDepth 100000 in
set_option maxHeartbeats 1000000 in
theorem c_holdsUnion {f s : Nat} {P T : List zP2} (hi : its < 14) (hf : f < 14) (hfi : f ≠ its) (hs : s < 14) (hsi : s ≠ its) (h1 : S.2 1 its = nI f) (h2 : S.2 2 its = nI s) (hP : zmH S f P) (hT : zmH S s T) (h8 : P.length + T.length ≤ 8) (h3 : P.flatten.length + T.flatten.length ≤ 300) :
    zMN G yX12_holdsUnion kX12_holdsUnion m [.int (nI its)] S (fun v S' => v = none ∧ zKp S S' its ∧ zmH S' its (P ++ T)) := by
  refine zMN.of (ls := [some (.ref m), some (.int (nI its)), none, none, none, none]) (by decide +kernel) ⟨rfl, rfl, rfl⟩ (Nat.le_of_ble_eq_true rfl) (fun _ h => h) fun Q hQ => ?_
  have pass : ∀ (g : Nat) (U P0 : List zP2) (S1 : zMS) (k : Int32) (x5 : Option Value), g < 14 → g ≠ its → zmH S g U → U.length ≤ 8 → U.flatten.length ≤ 300 → zKp S S1 its → S1.2 12 its = nI P0.length → zBd0 S1 its P0 → P0.length + U.length ≤ 8 → P0.flatten.length + U.flatten.length ≤ 300 →
      (∀ (S2 : zMS) (y5 : Option Value), zKp S S2 its → S2.2 12 its = nI (P0 ++ U).length → zBd0 S2 its (P0 ++ U) → zNW G kX12_holdsUnion m Q 160 [some (.ref m), some (.int (nI its)), some (.int (nI (P0 ++ U).flatten.length)), some (.int k), some (.int (nI g)), y5] [] S2) →
      zNW G kX12_holdsUnion m Q 37 [some (.ref m), some (.int (nI its)), some (.int (nI P0.flatten.length)), some (.int k), some (.int (nI g)), x5] [] S1 := by
    intro g U P0 S1 k x5 hg hgi hU u8 u3 hK hpt hB l8 l3 go
    have rows : ∀ (e j : Nat) (S2 : zMS), j + e = U.flatten.length → zKp S S2 its → S2.2 12 its = nI (P0 ++ U).length → zBu S2 its P0 U U.length (U.flatten.take j) →
        zNW G kX12_holdsUnion m Q 97 [some (.ref m), some (.int (nI its)), some (.int (nI P0.flatten.length)), some (.int k), some (.int (nI g)), some (.int (nI j))] [] S2 := by
      intro e
      induction e with
      | zero =>
        intro j S2 he hK2 hpt2 hB2
        have ej : j = U.flatten.length := by omega
        subst ej
        have hU2 := hK2.H hgi hU u8 u3
        refine n_iload dX12_holdsUnion_97 rfl ?_
        refine n_aload_n dX12_holdsUnion_99 rfl ?_
        refine n_iload dX12_holdsUnion_100 rfl ?_
        refine n_call dX12_holdsUnion_102 cv_X12_152 (c_all hg hU2 u8) rfl rfl rfl ⟨(Nat.le_of_ble_eq_true rfl), (Nat.le_of_ble_eq_true rfl)⟩ rfl rfl (Nat.le_of_ble_eq_true rfl) (fun v S3 hq3 => ?_)
        obtain ⟨rfl, rfl⟩ := hq3
        refine n_icmp_ge (tgt := 151) dX12_holdsUnion_105 (by decide) (fun _ => ?_) (fun q => absurd ((nI_le (Nat.le_refl _) (by omega))) q)
        refine n_iload_n dX12_holdsUnion_151 rfl ?_
        refine n_aload_n dX12_holdsUnion_152 rfl ?_
        refine n_iload dX12_holdsUnion_153 rfl ?_
        refine n_call dX12_holdsUnion_155 cv_X12_152 (c_all hg hU2 u8) rfl rfl rfl ⟨(Nat.le_of_ble_eq_true rfl), (Nat.le_of_ble_eq_true rfl)⟩ rfl rfl (Nat.le_of_ble_eq_true rfl) (fun v S4 hq4 => ?_)
        obtain ⟨rfl, rfl⟩ := hq4
        refine n_iadd dX12_holdsUnion_158 ?_
        rw [nI_add]
        refine n_istore_n dX12_holdsUnion_159 (by decide) ?_
        rw [List.take_length] at hB2
        have := go _ (some (.int (nI U.flatten.length))) hK2 hpt2 hB2.to
        rw [List.flatten_append, List.length_append] at this
        exact this
      | succ e ih =>
        intro j S2 he hK2 hpt2 hB2
        have hq : U.flatten[j]? = some (U.flatten[j]'(by omega)) := List.getElem?_eq_getElem _
        generalize U.flatten[j]'(by omega) = q at hq
        have hU2 := hK2.H hgi hU u8 u3
        obtain ⟨r1, r2⟩ := hU2.2.2 j q hq
        refine n_iload dX12_holdsUnion_97 rfl ?_
        refine n_aload_n dX12_holdsUnion_99 rfl ?_
        refine n_iload dX12_holdsUnion_100 rfl ?_
        refine n_call dX12_holdsUnion_102 cv_X12_152 (c_all hg hU2 u8) rfl rfl rfl ⟨(Nat.le_of_ble_eq_true rfl), (Nat.le_of_ble_eq_true rfl)⟩ rfl rfl (Nat.le_of_ble_eq_true rfl) (fun v S3 hq3 => ?_)
        obtain ⟨rfl, rfl⟩ := hq3
        refine n_icmp_ge (tgt := 151) dX12_holdsUnion_105 (by decide) (fun q => absurd q ((nI_ge (show j < U.flatten.length by omega) (by omega)))) (fun _ => ?_)
        refine n_aload_n dX12_holdsUnion_108 rfl ?_
        refine n_iload_n dX12_holdsUnion_109 rfl ?_
        refine n_iload_n dX12_holdsUnion_110 rfl ?_
        refine n_iload dX12_holdsUnion_111 rfl ?_
        refine n_iadd dX12_holdsUnion_113 ?_
        rw [nI_add]
        refine n_aload_n dX12_holdsUnion_114 rfl ?_
        refine n_get dX12_holdsUnion_115 fl_X12_52 rfl ?_
        refine n_sipush (v := (nI 300)) dX12_holdsUnion_118 (by decide) ?_
        refine n_iload dX12_holdsUnion_121 rfl ?_
        refine n_imul dX12_holdsUnion_123 ?_
        rw [pk_mul]
        refine n_iload dX12_holdsUnion_124 rfl ?_
        refine n_iadd dX12_holdsUnion_126 ?_
        rw [nI_add]
        refine n_iald (j := 14) dX12_holdsUnion_127 (by decide) rfl rfl (show _ < 4200 by omega) r1 ?_
        refine n_aload_n dX12_holdsUnion_128 rfl ?_
        refine n_get dX12_holdsUnion_129 fl_X12_55 rfl ?_
        refine n_sipush (v := (nI 300)) dX12_holdsUnion_132 (by decide) ?_
        refine n_iload dX12_holdsUnion_135 rfl ?_
        refine n_imul dX12_holdsUnion_137 ?_
        rw [pk_mul]
        refine n_iload dX12_holdsUnion_138 rfl ?_
        refine n_iadd dX12_holdsUnion_140 ?_
        rw [nI_add]
        refine n_iald (j := 15) dX12_holdsUnion_141 (by decide) rfl rfl (show _ < 4200 by omega) r2 ?_
        refine n_call dX12_holdsUnion_142 cv_X12_155 (c_adds hi (by omega)) rfl rfl rfl ⟨(Nat.le_of_ble_eq_true rfl), (Nat.le_of_ble_eq_true rfl)⟩ rfl rfl (Nat.le_of_ble_eq_true rfl) (fun v S4 hq4 => ?_)
        obtain ⟨rfl, rfl⟩ := hq4
        refine n_inc1 dX12_holdsUnion_145 rfl (by decide) ?_
        refine n_goto (tgt := 97) dX12_holdsUnion_148 (by decide) ?_
        rw [nI_1]
        exact ih (j + 1) _ (by omega) (hK2.row (by omega)) ((zSTo (by decide)).trans ((zSTo (by decide)).trans hpt2)) (by rw [ztake hq]; exact hB2.row (x := q.1) (y := q.2) (by rw [List.length_take, Nat.min_eq_left (by omega)]))
    have begs : ∀ (e p : Nat) (S2 : zMS), p + e = U.length → zKp S S2 its → S2.2 12 its = nI (P0.length + p) → zBu S2 its P0 U p [] →
        zNW G kX12_holdsUnion m Q 40 [some (.ref m), some (.int (nI its)), some (.int (nI P0.flatten.length)), some (.int k), some (.int (nI g)), some (.int (nI p))] [] S2 := by
      intro e
      induction e with
      | zero =>
        intro p S2 he hK2 hpt2 hB2
        have ep : p = U.length := by omega
        subst ep
        have hU2 := hK2.H hgi hU u8 u3
        refine n_iload dX12_holdsUnion_40 rfl ?_
        refine n_aload_n dX12_holdsUnion_42 rfl ?_
        refine n_get dX12_holdsUnion_43 fl_X12_46 rfl ?_
        refine n_iload dX12_holdsUnion_46 rfl ?_
        refine n_iald (j := 12) dX12_holdsUnion_48 (by decide) rfl rfl (show _ < 14 by omega) hU2.1 ?_
        refine n_icmp_ge (tgt := 94) dX12_holdsUnion_49 (by decide) (fun _ => ?_) (fun q => absurd ((nI_le (Nat.le_refl _) (by omega))) q)
        refine n_iconst (v := (nI 0)) dX12_holdsUnion_94 (by decide) ?_
        refine n_istore dX12_holdsUnion_95 (by decide) ?_
        exact rows U.flatten.length 0 S2 (by omega) hK2 (by rw [List.length_append]; exact hpt2) hB2
      | succ e ih =>
        intro p S2 he hK2 hpt2 hB2
        have hU2 := hK2.H hgi hU u8 u3
        refine n_iload dX12_holdsUnion_40 rfl ?_
        refine n_aload_n dX12_holdsUnion_42 rfl ?_
        refine n_get dX12_holdsUnion_43 fl_X12_46 rfl ?_
        refine n_iload dX12_holdsUnion_46 rfl ?_
        refine n_iald (j := 12) dX12_holdsUnion_48 (by decide) rfl rfl (show _ < 14 by omega) hU2.1 ?_
        refine n_icmp_ge (tgt := 94) dX12_holdsUnion_49 (by decide) (fun q => absurd q ((nI_ge (show p < U.length by omega) (by omega)))) (fun _ => ?_)
        refine n_aload_n dX12_holdsUnion_52 rfl ?_
        refine n_get dX12_holdsUnion_53 fl_X12_49 rfl ?_
        refine n_bipush (v := (nI 9)) dX12_holdsUnion_56 (by decide) ?_
        refine n_iload_n dX12_holdsUnion_58 rfl ?_
        refine n_imul dX12_holdsUnion_59 ?_
        rw [pk_mul]
        refine n_aload_n dX12_holdsUnion_60 rfl ?_
        refine n_get dX12_holdsUnion_61 fl_X12_46 rfl ?_
        refine n_iload_n dX12_holdsUnion_64 rfl ?_
        refine n_iald (j := 12) dX12_holdsUnion_65 (by decide) rfl rfl (show _ < 14 by omega) hpt2 ?_
        refine n_iadd dX12_holdsUnion_66 ?_
        rw [nI_add]
        refine n_iload_n dX12_holdsUnion_67 rfl ?_
        refine n_aload_n dX12_holdsUnion_68 rfl ?_
        refine n_iload dX12_holdsUnion_69 rfl ?_
        refine n_iload dX12_holdsUnion_71 rfl ?_
        refine n_call dX12_holdsUnion_73 cv_X12_148 (c_at hg (by omega) (hU2.2.1 p (by omega))) rfl rfl rfl ⟨(Nat.le_of_ble_eq_true rfl), (Nat.le_of_ble_eq_true rfl)⟩ rfl rfl (Nat.le_of_ble_eq_true rfl) (fun v S3 hq3 => ?_)
        obtain ⟨rfl, rfl⟩ := hq3
        refine n_iadd dX12_holdsUnion_76 ?_
        rw [nI_add]
        refine n_iast (j := 13) dX12_holdsUnion_77 (by decide) rfl rfl (show _ < 126 by omega) ?_
        have hK3 := hK2.beg (p := P0.length + p) (x := nI (P0.flatten.length + (U.take p).flatten.length)) (by omega)
        have hpt3 : (zST S3 13 (9 * its + (P0.length + p)) (nI (P0.flatten.length + (U.take p).flatten.length))).2 12 its = nI (P0.length + p) := (zSTo (by decide)).trans hpt2
        refine n_aload_n dX12_holdsUnion_78 rfl ?_
        refine n_get dX12_holdsUnion_79 fl_X12_46 rfl ?_
        refine n_iload_n dX12_holdsUnion_82 rfl ?_
        refine n_dup2 dX12_holdsUnion_83 rfl rfl ?_
        refine n_iald (j := 12) dX12_holdsUnion_84 (by decide) rfl rfl (show _ < 14 by omega) hpt3 ?_
        refine n_iconst (v := (nI 1)) dX12_holdsUnion_85 (by decide) ?_
        refine n_iadd dX12_holdsUnion_86 ?_
        rw [nI_add]
        refine n_iast (j := 12) dX12_holdsUnion_87 (by decide) rfl rfl (show _ < 14 by omega) ?_
        refine n_inc1 dX12_holdsUnion_88 rfl (by decide) ?_
        refine n_goto (tgt := 40) dX12_holdsUnion_91 (by decide) ?_
        rw [nI_1]
        exact ih (p + 1) _ (by omega) hK3.par (zSTs.trans (by rw [Nat.add_assoc])) hB2.beg.par
    refine n_iconst (v := (nI 0)) dX12_holdsUnion_37 (by decide) ?_
    refine n_istore dX12_holdsUnion_38 (by decide) ?_
    exact begs U.length 0 S1 (by omega) hK hpt (zBu.of hB)
  refine n_iconst (v := (nI 0)) dX12_holdsUnion_0 (by decide) ?_
  refine n_istore_n dX12_holdsUnion_1 (by decide) ?_
  refine n_aload_n dX12_holdsUnion_2 rfl ?_
  refine n_get dX12_holdsUnion_3 fl_X12_46 rfl ?_
  refine n_iload_n dX12_holdsUnion_6 rfl ?_
  refine n_iconst (v := (nI 0)) dX12_holdsUnion_7 (by decide) ?_
  refine n_iast (j := 12) dX12_holdsUnion_8 (by decide) rfl rfl (show _ < 14 by omega) ?_
  refine n_iconst (v := (nI 0)) dX12_holdsUnion_9 (by decide) ?_
  refine n_istore_n dX12_holdsUnion_10 (by decide) ?_
  refine n_iload_n dX12_holdsUnion_11 rfl ?_
  refine n_iconst (v := (nI 2)) dX12_holdsUnion_12 (by decide) ?_
  refine n_icmp_ge (tgt := 166) dX12_holdsUnion_13 (by decide) (fun q => absurd q ((by decide))) (fun _ => ?_)
  have k0 : zKp S (zST S 12 its (nI 0)) its := zKp.rf.par
  refine n_iload_n dX12_holdsUnion_16 rfl ?_
  refine n_if_ne (tgt := 29) dX12_holdsUnion_17 (by decide) (fun q => absurd (rfl) q) (fun _ => ?_)
  refine n_aload_n dX12_holdsUnion_20 rfl ?_
  refine n_get dX12_holdsUnion_21 fl_X12_13 rfl ?_
  refine n_iload_n dX12_holdsUnion_24 rfl ?_
  refine n_iald (j := 1) dX12_holdsUnion_25 (by decide) rfl rfl (show _ < 14 by omega) (k0.v (by decide) h1) ?_
  refine n_goto (tgt := 35) dX12_holdsUnion_26 (by decide) ?_
  refine n_istore dX12_holdsUnion_35 (by decide) ?_
  refine pass f P [] _ (nI 0) none hf hfi hP (by omega) (by omega) k0 zSTs zBd0.nil (by simpa using (by omega : P.length ≤ 8)) (by simpa using (by omega : P.flatten.length ≤ 300)) (fun S2 y5 hK2 hpt2 hB2 => ?_)
  rw [List.nil_append] at hpt2 hB2 ⊢
  refine n_inc1 dX12_holdsUnion_160 rfl (by decide) ?_
  refine n_goto (tgt := 11) dX12_holdsUnion_163 (by decide) ?_
  rw [nI_1]
  refine n_iload_n dX12_holdsUnion_11 rfl ?_
  refine n_iconst (v := (nI 2)) dX12_holdsUnion_12 (by decide) ?_
  refine n_icmp_ge (tgt := 166) dX12_holdsUnion_13 (by decide) (fun q => absurd q ((by decide))) (fun _ => ?_)
  refine n_iload_n dX12_holdsUnion_16 rfl ?_
  refine n_if_ne (tgt := 29) dX12_holdsUnion_17 (by decide) (fun _ => ?_) (fun q => absurd q ((by decide)))
  refine n_aload_n dX12_holdsUnion_29 rfl ?_
  refine n_get dX12_holdsUnion_30 fl_X12_16 rfl ?_
  refine n_iload_n dX12_holdsUnion_33 rfl ?_
  refine n_iald (j := 2) dX12_holdsUnion_34 (by decide) rfl rfl (show _ < 14 by omega) (hK2.v (by decide) h2) ?_
  refine n_istore dX12_holdsUnion_35 (by decide) ?_
  refine pass s T P S2 (nI 1) y5 hs hsi hT (by omega) (by omega) hK2 hpt2 hB2 h8 h3 (fun S3 z5 hK3 hpt3 hB3 => ?_)
  refine n_inc1 dX12_holdsUnion_160 rfl (by decide) ?_
  refine n_goto (tgt := 11) dX12_holdsUnion_163 (by decide) ?_
  rw [nI_1]
  refine n_iload_n dX12_holdsUnion_11 rfl ?_
  refine n_iconst (v := (nI 2)) dX12_holdsUnion_12 (by decide) ?_
  refine n_icmp_ge (tgt := 166) dX12_holdsUnion_13 (by decide) (fun _ => ?_) (fun q => absurd ((by decide)) q)
  have hPT : (P ++ T).length ≤ 8 := by rw [List.length_append]; exact h8
  refine n_aload_n dX12_holdsUnion_166 rfl ?_
  refine n_get dX12_holdsUnion_167 fl_X12_49 rfl ?_
  refine n_bipush (v := (nI 9)) dX12_holdsUnion_170 (by decide) ?_
  refine n_iload_n dX12_holdsUnion_172 rfl ?_
  refine n_imul dX12_holdsUnion_173 ?_
  rw [pk_mul]
  refine n_aload_n dX12_holdsUnion_174 rfl ?_
  refine n_get dX12_holdsUnion_175 fl_X12_46 rfl ?_
  refine n_iload_n dX12_holdsUnion_178 rfl ?_
  refine n_iald (j := 12) dX12_holdsUnion_179 (by decide) rfl rfl (show _ < 14 by omega) hpt3 ?_
  refine n_iadd dX12_holdsUnion_180 ?_
  rw [nI_add]
  refine n_iload_n dX12_holdsUnion_181 rfl ?_
  refine n_iast (j := 13) dX12_holdsUnion_182 (by decide) rfl rfl (show _ < 126 by omega) ?_
  exact n_vret dX12_holdsUnion_183 rfl (hQ _ _ ⟨rfl, hK3.beg (by omega), hB3.beg.fin ((zSTo (by decide)).trans hpt3)⟩)
set_option maxRecDepth 100000 in
/-- joins: the rows that one row of the first input makes -/
theorem c_joins {s n row : Nat} {T : List zP2} {q : Int32 × Int32} (hi : its < 14) (hs : s < 14) (hsi : s ≠ its) (h2 : S.2 2 its = nI s) (hT : zmH S s T) (t8 : T.length ≤ 8) (t3 : T.flatten.length ≤ 300) (hr1 : row < 4200) (hr2 : row < 300 * its ∨ 300 * its + 300 ≤ row) (hk : S.2 14 row = q.1) (hv : S.2 15 row = q.2) (hn : n + (zmat q T.flatten).length ≤ 300) :
    zMN G yX12_joins kX12_joins m [.int (nI its), .int (nI row), .int (nI n)] S (fun v S' => v = some (.int (nI (n + (zmat q T.flatten).length))) ∧ zKp S S' its ∧ S'.2 12 its = S.2 12 its ∧ ∀ (P : List zP2) (U : zP2), zBd S its P U → P.flatten.length + U.length = n → zBd S' its P (U ++ zmat q T.flatten)) := by
  refine zMN.of (ls := [some (.ref m), some (.int (nI its)), some (.int (nI row)), some (.int (nI n)), none, none, none]) (by decide +kernel) ⟨rfl, rfl, rfl⟩ (Nat.le_of_ble_eq_true rfl) (fun _ h => h) fun Q hQ => ?_
  have loop : ∀ (e j : Nat) (S1 : zMS), j + e = T.flatten.length → zKp S S1 its → S1.2 12 its = S.2 12 its → (∀ (P : List zP2) (U : zP2), zBd S its P U → P.flatten.length + U.length = n → zBd S1 its P (U ++ zmat q (T.flatten.take j))) →
      zNW G kX12_joins m Q 19 [some (.ref m), some (.int (nI its)), some (.int (nI row)), some (.int (nI n)), some (.int (nI s)), some (.int (nI (n + (zmat q (T.flatten.take j)).length))), some (.int (nI (300 * s + j)))] [] S1 := by
    intro e
    induction e with
    | zero =>
      intro j S1 he hK hpt hB
      have ej : j = T.flatten.length := by omega
      subst ej
      have hT1 := hK.H hsi hT t8 t3
      refine n_iload dX12_joins_19 rfl ?_
      refine n_sipush (v := (nI 300)) dX12_joins_21 (by decide) ?_
      refine n_iload dX12_joins_24 rfl ?_
      refine n_imul dX12_joins_26 ?_
      rw [pk_mul]
      refine n_aload_n dX12_joins_27 rfl ?_
      refine n_iload dX12_joins_28 rfl ?_
      refine n_call dX12_joins_30 cv_X12_152 (c_all hs hT1 t8) rfl rfl rfl ⟨(Nat.le_of_ble_eq_true rfl), (Nat.le_of_ble_eq_true rfl)⟩ rfl rfl (Nat.le_of_ble_eq_true rfl) (fun v S2 hq2 => ?_)
      obtain ⟨rfl, rfl⟩ := hq2
      refine n_iadd dX12_joins_33 ?_
      rw [nI_add]
      refine n_icmp_ge (tgt := 89) dX12_joins_34 (by decide) (fun _ => ?_) (fun q => absurd ((nI_le (Nat.le_refl _) (by omega))) q)
      rw [List.take_length] at hB ⊢
      refine n_iload dX12_joins_89 rfl ?_
      exact n_iret dX12_joins_91 rfl (hQ _ _ ⟨rfl, hK, hpt, hB⟩)
    | succ e ih =>
      intro j S1 he hK hpt hB
      have hg : T.flatten[j]? = some (T.flatten[j]'(by omega)) := List.getElem?_eq_getElem _
      generalize T.flatten[j]'(by omega) = z at hg
      have hT1 := hK.H hsi hT t8 t3
      obtain ⟨r1, r2⟩ := hT1.2.2 j z hg
      obtain ⟨k1, k2⟩ := hK.2.2.2.2 row hr2
      have hk1 := k1.trans hk
      have hv1 := k2.trans hv
      have hle := zmat_take q T.flatten (j + 1)
      have hsn := zmat_snoc q (T.flatten.take j) z
      rw [← ztake hg] at hsn
      refine n_iload dX12_joins_19 rfl ?_
      refine n_sipush (v := (nI 300)) dX12_joins_21 (by decide) ?_
      refine n_iload dX12_joins_24 rfl ?_
      refine n_imul dX12_joins_26 ?_
      rw [pk_mul]
      refine n_aload_n dX12_joins_27 rfl ?_
      refine n_iload dX12_joins_28 rfl ?_
      refine n_call dX12_joins_30 cv_X12_152 (c_all hs hT1 t8) rfl rfl rfl ⟨(Nat.le_of_ble_eq_true rfl), (Nat.le_of_ble_eq_true rfl)⟩ rfl rfl (Nat.le_of_ble_eq_true rfl) (fun v S2 hq2 => ?_)
      obtain ⟨rfl, rfl⟩ := hq2
      refine n_iadd dX12_joins_33 ?_
      rw [nI_add]
      refine n_icmp_ge (tgt := 89) dX12_joins_34 (by decide) (fun q => absurd q ((nI_ge (show 300 * s + j < 300 * s + T.flatten.length by omega) (by omega)))) (fun _ => ?_)
      refine n_aload_n dX12_joins_37 rfl ?_
      refine n_get dX12_joins_38 fl_X12_52 rfl ?_
      refine n_iload dX12_joins_41 rfl ?_
      refine n_iald (j := 14) dX12_joins_43 (by decide) rfl rfl (show _ < 4200 by omega) r1 ?_
      refine n_aload_n dX12_joins_44 rfl ?_
      refine n_get dX12_joins_45 fl_X12_52 rfl ?_
      refine n_iload_n dX12_joins_48 rfl ?_
      refine n_iald (j := 14) dX12_joins_49 (by decide) rfl rfl (show _ < 4200 by omega) hk1 ?_
      refine n_icmp_ne (tgt := 83) dX12_joins_50 (by decide) (fun h50 => ?_) (fun h50 => ?_)
      · rw [if_neg h50, List.append_nil] at hsn
        refine n_inc1 dX12_joins_83 rfl (by decide) ?_
        refine n_goto (tgt := 19) dX12_joins_86 (by decide) ?_
        rw [nI_1]
        have := ih (j + 1) S2 (by omega) hK hpt (by rw [hsn]; exact hB)
        rw [hsn, ← Nat.add_assoc] at this
        exact this
      · rw [if_pos h50] at hsn
        rw [hsn, List.length_append, List.length_singleton] at hle
        refine n_aload_n dX12_joins_53 rfl ?_
        refine n_iload_n dX12_joins_54 rfl ?_
        refine n_iload dX12_joins_55 rfl ?_
        refine n_aload_n dX12_joins_57 rfl ?_
        refine n_get dX12_joins_58 fl_X12_52 rfl ?_
        refine n_iload_n dX12_joins_61 rfl ?_
        refine n_iald (j := 14) dX12_joins_62 (by decide) rfl rfl (show _ < 4200 by omega) hk1 ?_
        refine n_aload_n dX12_joins_63 rfl ?_
        refine n_get dX12_joins_64 fl_X12_55 rfl ?_
        refine n_iload_n dX12_joins_67 rfl ?_
        refine n_iald (j := 15) dX12_joins_68 (by decide) rfl rfl (show _ < 4200 by omega) hv1 ?_
        refine n_aload_n dX12_joins_69 rfl ?_
        refine n_get dX12_joins_70 fl_X12_55 rfl ?_
        refine n_iload dX12_joins_73 rfl ?_
        refine n_iald (j := 15) dX12_joins_75 (by decide) rfl rfl (show _ < 4200 by omega) r2 ?_
        refine n_iadd dX12_joins_76 ?_
        refine n_call dX12_joins_77 cv_X12_155 (c_adds hi (by omega)) rfl rfl rfl ⟨(Nat.le_of_ble_eq_true rfl), (Nat.le_of_ble_eq_true rfl)⟩ rfl rfl (Nat.le_of_ble_eq_true rfl) (fun v S3 hq3 => ?_)
        obtain ⟨rfl, rfl⟩ := hq3
        refine n_inc1 dX12_joins_80 rfl (by decide) ?_
        refine n_inc1 dX12_joins_83 rfl (by decide) ?_
        refine n_goto (tgt := 19) dX12_joins_86 (by decide) ?_
        rw [nI_1, nI_1]
        have := ih (j + 1) _ (by omega) (hK.row (n := n + (zmat q (T.flatten.take j)).length) (x := q.1) (y := q.2 + z.2) (by omega)) ((zSTo (by decide)).trans ((zSTo (by decide)).trans hpt)) (fun P U a b => by rw [hsn, ← List.append_assoc]; exact (hB P U a b).row (by rw [List.length_append]; omega))
        rw [hsn, List.length_append, List.length_singleton, ← Nat.add_assoc, ← Nat.add_assoc] at this
        exact this
  refine n_aload_n dX12_joins_0 rfl ?_
  refine n_get dX12_joins_1 fl_X12_16 rfl ?_
  refine n_iload_n dX12_joins_4 rfl ?_
  refine n_iald (j := 2) dX12_joins_5 (by decide) rfl rfl (show _ < 14 by omega) h2 ?_
  refine n_istore dX12_joins_6 (by decide) ?_
  refine n_iload_n dX12_joins_8 rfl ?_
  refine n_istore dX12_joins_9 (by decide) ?_
  refine n_sipush (v := (nI 300)) dX12_joins_11 (by decide) ?_
  refine n_iload dX12_joins_14 rfl ?_
  refine n_imul dX12_joins_16 ?_
  rw [pk_mul]
  refine n_istore dX12_joins_17 (by decide) ?_
  exact loop T.flatten.length 0 S (by omega) zKp.rf rfl (fun P U a b => by rw [List.take_zero]; show zBd S its P (U ++ []); rw [List.append_nil]; exact a)
end
