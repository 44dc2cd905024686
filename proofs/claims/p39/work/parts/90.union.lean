/-! the law: unions -/
theorem zgetD_l {P T : List zP2} {p : Nat} (h : p < P.length) : (P ++ T).getD p [] = P.getD p [] := by
  rw [List.getD_eq_getElem?_getD, List.getD_eq_getElem?_getD, List.getElem?_append_left h]
theorem zgetD_r {P T : List zP2} {p : Nat} (h : P.length ≤ p) : (P ++ T).getD p [] = T.getD (p - P.length) [] := by
  rw [List.getD_eq_getElem?_getD, List.getD_eq_getElem?_getD, List.getElem?_append_right h]
section
variable {G : zG} {σ : zH} {b nx : Nat} {R : Nat → Nat → Int32} {nt : zNT} {lim mem wk r tk sp cs : Nat} {slow : Nat → Nat} {L : zNS} {A : List zAE}
set_option maxRecDepth 100000 in
set_option maxHeartbeats 4000000 in
theorem l_isUnion {i : Nat} (hG : zKap G) (S : zVs G σ b (nt, lim, mem, wk, slow, r, L, A, tk, sp, cs) R) (hr : zRl nt R) (hi : i < nt.length) (hk : zkd nt i = 3) : zM G yL_isUnion kL_isUnion [.ref b, .ref (b + 74 + 1), .ref (b + 74 + 2), .int (nI i)] σ nx (fun v σ' nx' => v = some (.int 1) ∧ zVs G σ' b (nt, lim, mem, wk, slow, r, L, A, tk, sp, cs) R ∧ nx' = nx) := by
  refine zM.of (ls := [some (.ref b), some (.ref (b + 74 + 1)), some (.ref (b + 74 + 2)), some (.int (nI i)), none, none, none, none, none, none]) (by decide +kernel) ⟨rfl, rfl, rfl⟩ (Nat.le_of_ble_eq_true rfl) (fun _ h => h) ?_
  have h14 : nt.length ≤ 14 := S.2.1.2.2.1
  obtain ⟨e, f, s, p0, hg, k6, ke, r0, -, hf, hs, -, -, -, -, -, -, -, hcon, -⟩ := zNi (lim := lim) S.2.1.1 h14 hr hi
  have ek : e.2.1 = 3 := ke.symm.trans hk
  obtain ⟨fi, rf⟩ := hf (by omega)
  obtain ⟨si, rs, -⟩ := hs (Or.inl ek)
  have hfl : f < nt.length := by omega
  have hsl : s < nt.length := by omega
  have hcon : zct lim nt i = zct lim nt f ++ zct lim nt s := by
    rw [hcon, zcont, ek, if_neg (by decide), if_neg (by decide), if_neg (by decide), if_pos rfl, zuni, if_neg (by decide)]
  obtain ⟨f300, f1, f8⟩ := zct_le (lim := lim) S.2.1.1 h14 hfl
  obtain ⟨s300, s1, s8⟩ := zct_le (lim := lim) S.2.1.1 h14 hsl
  obtain ⟨i300, i1, i8⟩ := zct_le (lim := lim) S.2.1.1 h14 hi
  have hlen : (zct lim nt i).length = (zct lim nt f).length + (zct lim nt s).length := by rw [hcon, List.length_append]
  have outer : ∀ (d p : Nat) (σ2 : zH) (x7 x8 x9 : Option Value), p + d = (zct lim nt i).length → zVs G σ2 b (nt, lim, mem, wk, slow, r, L, A, tk, sp, cs) R →
      zWP G kL_isUnion (zFM G kL_isUnion.2.2.2.1 (fun v σ' nx' => v = some (.int 1) ∧ zVs G σ' b (nt, lim, mem, wk, slow, r, L, A, tk, sp, cs) R ∧ nx' = nx)) 37 [some (.ref b), some (.ref (b + 74 + 1)), some (.ref (b + 74 + 2)), some (.int (nI i)), some (.int (nI (zct lim nt f).length)), some (.int 1), some (.int (nI p)), x7, x8, x9] [] σ2 nx 0 0 := by
    intro d
    induction d with
    | zero =>
      intro p σ2 x7 x8 x9 hp S
      refine z_iload dL_isUnion_37 rfl ?_
      refine z_aload_n dL_isUnion_39 rfl ?_
      refine z_iload_n dL_isUnion_40 rfl ?_
      refine z_callV dL_isUnion_41 cv0_L_58 (q_partitions hG S hi) rfl S.c rfl rfl ⟨(Nat.le_of_ble_eq_true rfl), (Nat.le_of_ble_eq_true rfl)⟩ (Nat.le_of_ble_eq_true rfl) (Nat.le_of_ble_eq_true rfl) (Nat.le_of_ble_eq_true rfl) (fun v σ1 nx1 hx1 hq1 => ?_)
      obtain ⟨rfl, S, rfl⟩ := hq1
      refine z_icmp_ge (tgt := 177) dL_isUnion_44 (by decide) (fun _ => ?_) (fun q => absurd ((nI_le (by omega) (by omega))) q)
      refine z_iload dL_isUnion_177 rfl ?_
      exact z_zret dL_isUnion_179 rfl rfl (Nat.le_of_ble_eq_true rfl) (Nat.le_of_ble_eq_true rfl) ⟨rfl, S, rfl⟩
    | succ d ih =>
      intro p σ2 x7 x8 x9 hp S
      have hpi : p < (zct lim nt i).length := by omega
      have hsi := zsz_le (P := zct lim nt i) (j := p)
      have tail : ∀ (fr q : Nat) (σ2 : zH) (x9 : Option Value), fr < nt.length → q < (zct lim nt fr).length → (zct lim nt i).getD p [] = (zct lim nt fr).getD q [] → zVs G σ2 b (nt, lim, mem, wk, slow, r, L, A, tk, sp, cs) R →
          zWP G kL_isUnion (zFM G kL_isUnion.2.2.2.1 (fun v σ' nx' => v = some (.int 1) ∧ zVs G σ' b (nt, lim, mem, wk, slow, r, L, A, tk, sp, cs) R ∧ nx' = nx)) 89 [some (.ref b), some (.ref (b + 74 + 1)), some (.ref (b + 74 + 2)), some (.int (nI i)), some (.int (nI (zct lim nt f).length)), some (.int 1), some (.int (nI p)), some (.int (nI fr)), some (.int (nI q)), x9] [] σ2 nx 0 0 := by
        intro fr q σ2 x9 hfr hq hgd S
        have hsz : zsz (zct lim nt i) p = zsz (zct lim nt fr) q := by rw [zsz, hgd]; rfl
        have hzr : ∀ j, zrw (zct lim nt i) p j = zrw (zct lim nt fr) q j := fun j => by rw [zrw, hgd]; rfl
        have inner : ∀ (e9 j : Nat) (σ2 : zH), j + e9 = zsz (zct lim nt i) p → zVs G σ2 b (nt, lim, mem, wk, slow, r, L, A, tk, sp, cs) R →
            zWP G kL_isUnion (zFM G kL_isUnion.2.2.2.1 (fun v σ' nx' => v = some (.int 1) ∧ zVs G σ' b (nt, lim, mem, wk, slow, r, L, A, tk, sp, cs) R ∧ nx' = nx)) 117 [some (.ref b), some (.ref (b + 74 + 1)), some (.ref (b + 74 + 2)), some (.int (nI i)), some (.int (nI (zct lim nt f).length)), some (.int 1), some (.int (nI p)), some (.int (nI fr)), some (.int (nI q)), some (.int (nI j))] [] σ2 nx 0 0 := by
          intro e9
          induction e9 with
          | zero =>
            intro j σ2 hj S
            refine z_iload dL_isUnion_117 rfl ?_
            refine z_aload_n dL_isUnion_119 rfl ?_
            refine z_iload_n dL_isUnion_120 rfl ?_
            refine z_iload dL_isUnion_121 rfl ?_
            refine z_callV dL_isUnion_123 cv0_L_61 (q_rowsIn hG S hi hpi) rfl S.c rfl rfl ⟨(Nat.le_of_ble_eq_true rfl), (Nat.le_of_ble_eq_true rfl)⟩ (Nat.le_of_ble_eq_true rfl) (Nat.le_of_ble_eq_true rfl) (Nat.le_of_ble_eq_true rfl) (fun v σ1 nx1 hx1 hq1 => ?_)
            obtain ⟨rfl, S, rfl⟩ := hq1
            refine z_icmp_ge (tgt := 171) dL_isUnion_126 (by decide) (fun _ => ?_) (fun q => absurd ((nI_le (by omega) (by omega))) q)
            refine z_inc1 dL_isUnion_171 rfl (by decide) ?_
            rw [nI_1]
            refine z_goto (tgt := 37) dL_isUnion_174 (by decide) ?_
            exact ih (p + 1) _ _ _ _ (by omega) S
          | succ e9 ie =>
            intro j σ2 hj S
            have hjl : j < zsz (zct lim nt i) p := by omega
            refine z_iload dL_isUnion_117 rfl ?_
            refine z_aload_n dL_isUnion_119 rfl ?_
            refine z_iload_n dL_isUnion_120 rfl ?_
            refine z_iload dL_isUnion_121 rfl ?_
            refine z_callV dL_isUnion_123 cv0_L_61 (q_rowsIn hG S hi hpi) rfl S.c rfl rfl ⟨(Nat.le_of_ble_eq_true rfl), (Nat.le_of_ble_eq_true rfl)⟩ (Nat.le_of_ble_eq_true rfl) (Nat.le_of_ble_eq_true rfl) (Nat.le_of_ble_eq_true rfl) (fun v σ1 nx1 hx1 hq1 => ?_)
            obtain ⟨rfl, S, rfl⟩ := hq1
            refine z_icmp_ge (tgt := 171) dL_isUnion_126 (by decide) (fun q => absurd q ((nI_ge hjl (by omega)))) (fun _ => ?_)
            refine z_iload dL_isUnion_129 rfl ?_
            refine z_if_eq (tgt := 171) dL_isUnion_131 (by decide) (fun q => absurd q (((by decide)))) (fun _ => ?_)
            refine z_aload_n dL_isUnion_134 rfl ?_
            refine z_iload_n dL_isUnion_135 rfl ?_
            refine z_iload dL_isUnion_136 rfl ?_
            refine z_iload dL_isUnion_138 rfl ?_
            refine z_aload_n dL_isUnion_140 rfl ?_
            refine z_iload dL_isUnion_141 rfl ?_
            refine z_iload dL_isUnion_143 rfl ?_
            refine z_iload dL_isUnion_145 rfl ?_
            refine z_callV dL_isUnion_147 cv0_L_67 (q_keyAt hG S hfr hq (by omega)) rfl S.c rfl rfl ⟨(Nat.le_of_ble_eq_true rfl), (Nat.le_of_ble_eq_true rfl)⟩ (Nat.le_of_ble_eq_true rfl) (Nat.le_of_ble_eq_true rfl) (Nat.le_of_ble_eq_true rfl) (fun v σ1 nx1 hx1 hq1 => ?_)
            obtain ⟨rfl, S, rfl⟩ := hq1
            refine z_aload_n dL_isUnion_150 rfl ?_
            refine z_iload dL_isUnion_151 rfl ?_
            refine z_iload dL_isUnion_153 rfl ?_
            refine z_iload dL_isUnion_155 rfl ?_
            refine z_callV dL_isUnion_157 cv0_L_70 (q_valueAt hG S hfr hq (by omega)) rfl S.c rfl rfl ⟨(Nat.le_of_ble_eq_true rfl), (Nat.le_of_ble_eq_true rfl)⟩ (Nat.le_of_ble_eq_true rfl) (Nat.le_of_ble_eq_true rfl) (Nat.le_of_ble_eq_true rfl) (fun v σ1 nx1 hx1 hq1 => ?_)
            obtain ⟨rfl, S, rfl⟩ := hq1
            refine z_callS dL_isUnion_160 cv_L_108 (l_isRow hG S hi hpi hjl (hzr j)) rfl rfl ⟨(Nat.le_of_ble_eq_true rfl), (Nat.le_of_ble_eq_true rfl)⟩ (Nat.le_of_ble_eq_true rfl) (Nat.le_of_ble_eq_true rfl) (Nat.le_of_ble_eq_true rfl) (fun v σ1 nx1 hx1 hq1 => ?_)
            obtain ⟨rfl, S, rfl⟩ := hq1
            refine z_istore dL_isUnion_163 (by decide) ?_
            refine z_inc1 dL_isUnion_165 rfl (by decide) ?_
            rw [nI_1]
            refine z_goto (tgt := 117) dL_isUnion_168 (by decide) ?_
            exact ie (j + 1) _ (by omega) S
        refine z_aload_n dL_isUnion_89 rfl ?_
        refine z_iload_n dL_isUnion_90 rfl ?_
        refine z_iload dL_isUnion_91 rfl ?_
        refine z_callV dL_isUnion_93 cv0_L_61 (q_rowsIn hG S hi hpi) rfl S.c rfl rfl ⟨(Nat.le_of_ble_eq_true rfl), (Nat.le_of_ble_eq_true rfl)⟩ (Nat.le_of_ble_eq_true rfl) (Nat.le_of_ble_eq_true rfl) (Nat.le_of_ble_eq_true rfl) (fun v σ1 nx1 hx1 hq1 => ?_)
        obtain ⟨rfl, S, rfl⟩ := hq1
        refine z_aload_n dL_isUnion_96 rfl ?_
        refine z_iload dL_isUnion_97 rfl ?_
        refine z_iload dL_isUnion_99 rfl ?_
        refine z_callV dL_isUnion_101 cv0_L_61 (q_rowsIn hG S hfr hq) rfl S.c rfl rfl ⟨(Nat.le_of_ble_eq_true rfl), (Nat.le_of_ble_eq_true rfl)⟩ (Nat.le_of_ble_eq_true rfl) (Nat.le_of_ble_eq_true rfl) (Nat.le_of_ble_eq_true rfl) (fun v σ1 nx1 hx1 hq1 => ?_)
        obtain ⟨rfl, S, rfl⟩ := hq1
        refine z_icmp_ne (tgt := 111) dL_isUnion_104 (by decide) (fun q => absurd (((by rw [hsz]))) q) (fun _ => ?_)
        refine z_iconst (v := 1) dL_isUnion_107 (by decide) ?_
        refine z_goto (tgt := 112) dL_isUnion_108 (by decide) ?_
        refine z_istore dL_isUnion_112 (by decide) ?_
        refine z_iconst (v := 0) dL_isUnion_114 (by decide) ?_
        refine z_istore dL_isUnion_115 (by decide) ?_
        exact inner _ 0 _ (Nat.zero_add _) S
      by_cases c : p < (zct lim nt f).length
      · refine z_iload dL_isUnion_37 rfl ?_
        refine z_aload_n dL_isUnion_39 rfl ?_
        refine z_iload_n dL_isUnion_40 rfl ?_
        refine z_callV dL_isUnion_41 cv0_L_58 (q_partitions hG S hi) rfl S.c rfl rfl ⟨(Nat.le_of_ble_eq_true rfl), (Nat.le_of_ble_eq_true rfl)⟩ (Nat.le_of_ble_eq_true rfl) (Nat.le_of_ble_eq_true rfl) (Nat.le_of_ble_eq_true rfl) (fun v σ1 nx1 hx1 hq1 => ?_)
        obtain ⟨rfl, S, rfl⟩ := hq1
        refine z_icmp_ge (tgt := 177) dL_isUnion_44 (by decide) (fun q => absurd q ((nI_ge hpi (by omega)))) (fun _ => ?_)
        refine z_iload dL_isUnion_47 rfl ?_
        refine z_if_eq (tgt := 177) dL_isUnion_49 (by decide) (fun q => absurd q (((by decide)))) (fun _ => ?_)
        refine z_iload dL_isUnion_52 rfl ?_
        refine z_iload dL_isUnion_54 rfl ?_
        refine z_icmp_ge (tgt := 65) dL_isUnion_56 (by decide) (fun q => absurd q ((nI_ge c (by omega)))) (fun _ => ?_)
        refine z_aload_n dL_isUnion_59 rfl ?_
        refine z_iload_n dL_isUnion_60 rfl ?_
        refine z_ar dL_isUnion_61 S (by decide) (by omega) rf ?_
        refine z_goto (tgt := 68) dL_isUnion_62 (by decide) ?_
        refine z_istore dL_isUnion_68 (by decide) ?_
        refine z_iload dL_isUnion_70 rfl ?_
        refine z_iload dL_isUnion_72 rfl ?_
        refine z_icmp_ge (tgt := 82) dL_isUnion_74 (by decide) (fun q => absurd q ((nI_ge c (by omega)))) (fun _ => ?_)
        refine z_iload dL_isUnion_77 rfl ?_
        refine z_goto (tgt := 87) dL_isUnion_79 (by decide) ?_
        refine z_istore dL_isUnion_87 (by decide) ?_
        exact tail f p _ _ hfl c (by rw [hcon, zgetD_l c]) S
      · refine z_iload dL_isUnion_37 rfl ?_
        refine z_aload_n dL_isUnion_39 rfl ?_
        refine z_iload_n dL_isUnion_40 rfl ?_
        refine z_callV dL_isUnion_41 cv0_L_58 (q_partitions hG S hi) rfl S.c rfl rfl ⟨(Nat.le_of_ble_eq_true rfl), (Nat.le_of_ble_eq_true rfl)⟩ (Nat.le_of_ble_eq_true rfl) (Nat.le_of_ble_eq_true rfl) (Nat.le_of_ble_eq_true rfl) (fun v σ1 nx1 hx1 hq1 => ?_)
        obtain ⟨rfl, S, rfl⟩ := hq1
        refine z_icmp_ge (tgt := 177) dL_isUnion_44 (by decide) (fun q => absurd q ((nI_ge hpi (by omega)))) (fun _ => ?_)
        refine z_iload dL_isUnion_47 rfl ?_
        refine z_if_eq (tgt := 177) dL_isUnion_49 (by decide) (fun q => absurd q (((by decide)))) (fun _ => ?_)
        refine z_iload dL_isUnion_52 rfl ?_
        refine z_iload dL_isUnion_54 rfl ?_
        refine z_icmp_ge (tgt := 65) dL_isUnion_56 (by decide) (fun _ => ?_) (fun q => absurd ((nI_le (by omega) (by omega))) q)
        refine z_aload_n dL_isUnion_65 rfl ?_
        refine z_iload_n dL_isUnion_66 rfl ?_
        refine z_ar dL_isUnion_67 S (by decide) (by omega) rs ?_
        refine z_istore dL_isUnion_68 (by decide) ?_
        refine z_iload dL_isUnion_70 rfl ?_
        refine z_iload dL_isUnion_72 rfl ?_
        refine z_icmp_ge (tgt := 82) dL_isUnion_74 (by decide) (fun _ => ?_) (fun q => absurd ((nI_le (by omega) (by omega))) q)
        refine z_iload dL_isUnion_82 rfl ?_
        refine z_iload dL_isUnion_84 rfl ?_
        refine z_isub dL_isUnion_86 ?_
        rw [pk_sub (by omega)]
        refine z_istore dL_isUnion_87 (by decide) ?_
        exact tail s (p - (zct lim nt f).length) _ _ hsl (by omega) (by rw [hcon, zgetD_r (by omega)]) S
  refine z_aload_n dL_isUnion_0 rfl ?_
  refine z_aload_n dL_isUnion_1 rfl ?_
  refine z_iload_n dL_isUnion_2 rfl ?_
  refine z_ar dL_isUnion_3 S (by decide) (by omega) rf ?_
  refine z_callV dL_isUnion_4 cv0_L_58 (q_partitions hG S hfl) rfl S.c rfl rfl ⟨(Nat.le_of_ble_eq_true rfl), (Nat.le_of_ble_eq_true rfl)⟩ (Nat.le_of_ble_eq_true rfl) (Nat.le_of_ble_eq_true rfl) (Nat.le_of_ble_eq_true rfl) (fun v σ1 nx1 hx1 hq1 => ?_)
  obtain ⟨rfl, S, rfl⟩ := hq1
  refine z_istore dL_isUnion_7 (by decide) ?_
  refine z_aload_n dL_isUnion_9 rfl ?_
  refine z_iload_n dL_isUnion_10 rfl ?_
  refine z_callV dL_isUnion_11 cv0_L_58 (q_partitions hG S hi) rfl S.c rfl rfl ⟨(Nat.le_of_ble_eq_true rfl), (Nat.le_of_ble_eq_true rfl)⟩ (Nat.le_of_ble_eq_true rfl) (Nat.le_of_ble_eq_true rfl) (Nat.le_of_ble_eq_true rfl) (fun v σ1 nx1 hx1 hq1 => ?_)
  obtain ⟨rfl, S, rfl⟩ := hq1
  refine z_iload dL_isUnion_14 rfl ?_
  refine z_aload_n dL_isUnion_16 rfl ?_
  refine z_aload_n dL_isUnion_17 rfl ?_
  refine z_iload_n dL_isUnion_18 rfl ?_
  refine z_ar dL_isUnion_19 S (by decide) (by omega) rs ?_
  refine z_callV dL_isUnion_20 cv0_L_58 (q_partitions hG S hsl) rfl S.c rfl rfl ⟨(Nat.le_of_ble_eq_true rfl), (Nat.le_of_ble_eq_true rfl)⟩ (Nat.le_of_ble_eq_true rfl) (Nat.le_of_ble_eq_true rfl) (Nat.le_of_ble_eq_true rfl) (fun v σ1 nx1 hx1 hq1 => ?_)
  obtain ⟨rfl, S, rfl⟩ := hq1
  refine z_iadd dL_isUnion_23 ?_
  rw [nI_add, hlen]
  refine z_icmp_ne (tgt := 31) dL_isUnion_24 (by decide) (fun q => absurd ((rfl)) q) (fun _ => ?_)
  refine z_iconst (v := 1) dL_isUnion_27 (by decide) ?_
  refine z_goto (tgt := 32) dL_isUnion_28 (by decide) ?_
  refine z_istore dL_isUnion_32 (by decide) ?_
  refine z_iconst (v := 0) dL_isUnion_34 (by decide) ?_
  refine z_istore dL_isUnion_35 (by decide) ?_
  exact outer _ 0 _ _ _ _ (by rw [hlen]; exact Nat.zero_add _) S
end
