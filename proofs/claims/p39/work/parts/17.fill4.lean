/-! Holding: dealing by keys -/
set_option maxRecDepth 100000 in
theorem c_X3_dealByKey {G : zG} {σ : zH} {nx h b r3 p m3 : Nat} {v0 v1 v3 : Value} {B : zP2} {E0 : List Nat} (hh : σ h = some (.inr (4, [v0, v1, .ref b, v3]))) (hb : zRows G σ b 300 B E0) (h3 : zRows G σ r3 m3 [] []) (ab3 : zAp b r3) (ah : h < r3 ∨ r3 + 7 ≤ h) (hp0 : 0 < p) (hp8 : p ≤ 8) (hcap : (zrng p (zpart p B)).flatten.length ≤ m3) : zM G yX3_dealByKey kX3_dealByKey [.ref h, .int (nI p), .ref r3] σ nx (fun v σ' nx' => v = none ∧ zHas G σ' r3 m3 (zrng p (zpart p B)) ∧ zFr σ σ' r3 7 ∧ nx' = nx) := by
  refine zM.of2 (ls := [some (.ref h), some (.int (nI p)), some (.ref r3), none, none, none]) (by decide +kernel) ⟨rfl, rfl, rfl⟩ (Nat.le_of_ble_eq_true rfl) (fun _ h => h) (fun Q hQ => ?_)
  have hB : B.length ≤ 300 := by obtain ⟨_, _, _, _, _, _, _, _, _, h7, _⟩ := hb; exact h7
  have hd0 : (0 : Int32) < nI p := by have := nI_lt hp0 (show p < 2 ^ 31 by omega); rwa [nI_0] at this
  have inner : ∀ (i : Nat) (E1 : List Nat), i < p → (∀ σ2 : zH, zFr σ σ2 r3 7 → zRows G σ2 r3 m3 ((zrng i (zpart p B)).flatten ++ zpart p B i) E1 → ∀ x1 x2 : Option Value, zWP G kX3_dealByKey (zFM G kX3_dealByKey.2.2.2.1 Q) 64 [some (.ref h), some (.int (nI p)), some (.ref r3), some (.int (nI i)), x1, x2] [] σ2 nx 0 0) →
      ∀ d j : Nat, j + d = B.length → ∀ σ1 : zH, zFr σ σ1 r3 7 → zRows G σ1 r3 m3 ((zrng i (zpart p B)).flatten ++ zpart p (B.take j) i) E1 → ∀ x2 : Option Value, zWP G kX3_dealByKey (zFM G kX3_dealByKey.2.2.2.1 Q) 10 [some (.ref h), some (.int (nI p)), some (.ref r3), some (.int (nI i)), some (.int (nI j)), x2] [] σ1 nx 0 0 := by
    intro i E1 hi kk d
    have hfl := zrng_fl (f := zpart p B) hi
    induction d with
    | zero =>
      intro j hj σ1 f1 t1 x2
      have gb : zRows G σ1 b 300 B E0 := hb.ap f1 ab3
      have gh : σ1 h = some (.inr (4, [v0, v1, .ref b, v3])) := (f1 h (by omega)).trans hh
      refine z_iload dX3_dealByKey_10 rfl ?_
      refine z_aload_n dX3_dealByKey_12 rfl ?_
      refine z_getf dX3_dealByKey_13 fl_X3_14 gh rfl ?_
      refine z_callV dX3_dealByKey_16 cv_X3_77 (c_X9_size gb) rfl gb.c rfl rfl ⟨(Nat.le_of_ble_eq_true rfl), (Nat.le_of_ble_eq_true rfl)⟩ (Nat.le_of_ble_eq_true rfl) (Nat.le_of_ble_eq_true rfl) (Nat.le_of_ble_eq_true rfl) (fun v σ2 nx2 hx2 hq2 => ?_)
      obtain ⟨rfl, rfl, rfl⟩ := hq2
      refine z_icmp_ge (tgt := 64) dX3_dealByKey_19 (by decide) (fun _ => ?_) (fun q => absurd (nI_le (by omega) (by omega)) q)
      rw [show B.take j = B from List.take_of_length_le (by omega)] at t1
      exact kk σ2 f1 t1 _ _
    | succ d ih =>
      intro j hj σ1 f1 t1 x2
      have gb : zRows G σ1 b 300 B E0 := hb.ap f1 ab3
      have gh : σ1 h = some (.inr (4, [v0, v1, .ref b, v3])) := (f1 h (by omega)).trans hh
      have hq : B[j]? = some (B[j]'(by omega)) := List.getElem?_eq_getElem _
      generalize B[j]'(by omega) = z at hq
      have e := zpart_snoc p (B.take j) i z
      rw [← ztake hq] at e
      refine z_iload dX3_dealByKey_10 rfl ?_
      refine z_aload_n dX3_dealByKey_12 rfl ?_
      refine z_getf dX3_dealByKey_13 fl_X3_14 gh rfl ?_
      refine z_callV dX3_dealByKey_16 cv_X3_77 (c_X9_size gb) rfl gb.c rfl rfl ⟨(Nat.le_of_ble_eq_true rfl), (Nat.le_of_ble_eq_true rfl)⟩ (Nat.le_of_ble_eq_true rfl) (Nat.le_of_ble_eq_true rfl) (Nat.le_of_ble_eq_true rfl) (fun v σ2 nx2 hx2 hq2 => ?_)
      obtain ⟨rfl, rfl, rfl⟩ := hq2
      refine z_icmp_ge (tgt := 64) dX3_dealByKey_19 (by decide) (fun q => absurd q (nI_ge (show j < B.length by omega) (by omega))) (fun _ => ?_)
      refine z_aload_n dX3_dealByKey_22 rfl ?_
      refine z_getf dX3_dealByKey_23 fl_X3_14 gh rfl ?_
      refine z_iload dX3_dealByKey_26 rfl ?_
      refine z_callV dX3_dealByKey_28 cv_X3_147 (c_X9_key gb hq) rfl gb.c rfl rfl ⟨(Nat.le_of_ble_eq_true rfl), (Nat.le_of_ble_eq_true rfl)⟩ (Nat.le_of_ble_eq_true rfl) (Nat.le_of_ble_eq_true rfl) (Nat.le_of_ble_eq_true rfl) (fun v σ2 nx2 hx2 hq2 => ?_)
      obtain ⟨rfl, rfl, rfl⟩ := hq2
      refine z_istore dX3_dealByKey_31 (by decide) ?_
      refine z_iload dX3_dealByKey_33 rfl ?_
      refine z_iload_n dX3_dealByKey_35 rfl ?_
      refine z_callS dX3_dealByKey_36 cv_X3_144 (c_X11_modulo hd0) rfl rfl ⟨(Nat.le_of_ble_eq_true rfl), (Nat.le_of_ble_eq_true rfl)⟩ (Nat.le_of_ble_eq_true rfl) (Nat.le_of_ble_eq_true rfl) (Nat.le_of_ble_eq_true rfl) (fun v σ2 nx2 hx2 hq2 => ?_)
      obtain ⟨rfl, rfl, rfl⟩ := hq2
      refine z_iload_n dX3_dealByKey_39 rfl ?_
      refine z_icmp_ne (tgt := 58) dX3_dealByKey_40 (by decide) (fun h40 => ?_) (fun h40 => ?_)
      · rw [if_neg h40, List.append_nil] at e
        refine z_inc1 dX3_dealByKey_58 rfl (by decide) ?_
        refine z_goto (tgt := 10) dX3_dealByKey_61 (by decide) ?_
        rw [nI_1]
        exact ih (j + 1) (by omega) σ2 f1 (by rw [e]; exact t1) _
      · rw [if_pos h40] at e
        have h5 := zpart_take p B i (j + 1)
        rw [e, List.length_append] at h5
        simp only [List.length_cons, List.length_nil] at h5
        refine z_aload_n dX3_dealByKey_43 rfl ?_
        refine z_iload dX3_dealByKey_44 rfl ?_
        refine z_aload_n dX3_dealByKey_46 rfl ?_
        refine z_getf dX3_dealByKey_47 fl_X3_14 gh rfl ?_
        refine z_iload dX3_dealByKey_50 rfl ?_
        refine z_callV dX3_dealByKey_52 cv_X3_151 (c_X9_value gb hq) rfl gb.c rfl rfl ⟨(Nat.le_of_ble_eq_true rfl), (Nat.le_of_ble_eq_true rfl)⟩ (Nat.le_of_ble_eq_true rfl) (Nat.le_of_ble_eq_true rfl) (Nat.le_of_ble_eq_true rfl) (fun v σ3 nx3 hx3 hq3 => ?_)
        obtain ⟨rfl, rfl, rfl⟩ := hq3
        refine z_callV dX3_dealByKey_55 cv_X3_154 (c_X9_add t1 (by rw [List.length_append]; omega)) rfl t1.c rfl rfl ⟨(Nat.le_of_ble_eq_true rfl), (Nat.le_of_ble_eq_true rfl)⟩ (Nat.le_of_ble_eq_true rfl) (Nat.le_of_ble_eq_true rfl) (Nat.le_of_ble_eq_true rfl) (fun v σ3 nx3 hx3 hq3 => ?_)
        obtain ⟨rfl, t3, f3, rfl⟩ := hq3
        refine z_inc1 dX3_dealByKey_58 rfl (by decide) ?_
        refine z_goto (tgt := 10) dX3_dealByKey_61 (by decide) ?_
        rw [nI_1]
        exact ih (j + 1) (by omega) σ3 (f1.tr f3) (by rw [e, ← List.append_assoc]; exact t3) _
  have outer : ∀ d i : Nat, i + d = p → ∀ σ1 : zH, zFr σ σ1 r3 7 → zRows G σ1 r3 m3 (zrng i (zpart p B)).flatten (zcum 0 (zrng i (zpart p B))) → ∀ x1 x2 : Option Value, zWP G kX3_dealByKey (zFM G kX3_dealByKey.2.2.2.1 Q) 2 [some (.ref h), some (.int (nI p)), some (.ref r3), some (.int (nI i)), x1, x2] [] σ1 nx 0 0 := by
    intro d
    induction d with
    | zero =>
      intro i hi σ1 f1 t1 x1 x2
      have e0 : i = p := by omega
      subst e0
      refine z_iload_n dX3_dealByKey_2 rfl ?_
      refine z_iload_n dX3_dealByKey_3 rfl ?_
      refine z_icmp_ge (tgt := 74) dX3_dealByKey_4 (by decide) (fun _ => ?_) (fun q => absurd (nI_le (Nat.le_refl _) (by omega)) q)
      exact z_vret dX3_dealByKey_74 rfl (Nat.le_of_ble_eq_true rfl) (Nat.le_of_ble_eq_true rfl) (hQ _ _ _ ⟨rfl, t1, f1, rfl⟩)
    | succ d ih =>
      intro i hi σ1 f1 t1 x1 x2
      refine z_iload_n dX3_dealByKey_2 rfl ?_
      refine z_iload_n dX3_dealByKey_3 rfl ?_
      refine z_icmp_ge (tgt := 74) dX3_dealByKey_4 (by decide) (fun q => absurd q (nI_ge (show i < p by omega) (by omega))) (fun _ => ?_)
      refine z_iconst (v := 0) dX3_dealByKey_7 (by decide) ?_
      refine z_istore dX3_dealByKey_8 (by decide) ?_
      refine inner i _ (by omega) (fun σ3 f3 t3 y1 y2 => ?_) B.length 0 (by omega) σ1 f1 (by rw [List.take_zero]; simpa [zpart] using t1) _
      refine z_aload_n dX3_dealByKey_64 rfl ?_
      refine z_callV dX3_dealByKey_65 cv_X3_158 (c_X9_endPartition t3 (by rw [zcum_len, zrng_len]; omega)) rfl t3.c rfl rfl ⟨(Nat.le_of_ble_eq_true rfl), (Nat.le_of_ble_eq_true rfl)⟩ (Nat.le_of_ble_eq_true rfl) (Nat.le_of_ble_eq_true rfl) (Nat.le_of_ble_eq_true rfl) (fun v σ4 nx4 hx4 hq4 => ?_)
      obtain ⟨rfl, t4, f4, rfl⟩ := hq4
      refine z_inc1 dX3_dealByKey_68 rfl (by decide) ?_
      refine z_goto (tgt := 2) dX3_dealByKey_71 (by decide) ?_
      rw [nI_1]
      refine ih (i + 1) (by omega) σ4 (f3.tr f4) ?_ _ _
      rw [zrng_s, zcum_snoc, List.flatten_append, Nat.zero_add, ← List.length_append]
      simpa using t4
  refine z_iconst (v := 0) dX3_dealByKey_0 (by decide) ?_
  refine z_istore_n dX3_dealByKey_1 (by decide) ?_
  exact outer p 0 (by omega) σ zFr.rf h3 none none
/-- a share's joined rows -/
def zjp (p : Nat) (B S : zP2) (i : Nat) : zP2 := zfm (zpart p B i) S
set_option maxRecDepth 100000 in
theorem c_X3_joinByKey {G : zG} {σ : zH} {nx h b r2 r3 p m2 m3 : Nat} {v0 v1 v3 : Value} {B : zP2} {S : List zP2} {E0 : List Nat} (hh : σ h = some (.inr (4, [v0, v1, .ref b, v3]))) (hb : zRows G σ b 300 B E0) (h2 : zHas G σ r2 m2 S) (h3 : zRows G σ r3 m3 [] []) (ab3 : zAp b r3) (a23 : zAp r2 r3) (ah : h < r3 ∨ r3 + 7 ≤ h) (hp0 : 0 < p) (hp8 : p ≤ 8) (hcap : (zrng p (zjp p B S.flatten)).flatten.length ≤ m3) : zM G yX3_joinByKey kX3_joinByKey [.ref h, .ref r2, .int (nI p), .ref r3] σ nx (fun v σ' nx' => v = none ∧ zHas G σ' r3 m3 (zrng p (zjp p B S.flatten)) ∧ zFr σ σ' r3 7 ∧ nx' = nx) := by
  refine zM.of2 (ls := [some (.ref h), some (.ref r2), some (.int (nI p)), some (.ref r3), none, none, none]) (by decide +kernel) ⟨rfl, rfl, rfl⟩ (Nat.le_of_ble_eq_true rfl) (fun _ h => h) (fun Q hQ => ?_)
  have hB : B.length ≤ 300 := by obtain ⟨_, _, _, _, _, _, _, _, _, h7, _⟩ := hb; exact h7
  have hd0 : (0 : Int32) < nI p := by have := nI_lt hp0 (show p < 2 ^ 31 by omega); rwa [nI_0] at this
  have inner : ∀ (i : Nat) (E1 : List Nat), i < p → (∀ σ2 : zH, zFr σ σ2 r3 7 → zRows G σ2 r3 m3 ((zrng i (zjp p B S.flatten)).flatten ++ zjp p B S.flatten i) E1 → ∀ x1 x2 : Option Value, zWP G kX3_joinByKey (zFM G kX3_joinByKey.2.2.2.1 Q) 69 [some (.ref h), some (.ref r2), some (.int (nI p)), some (.ref r3), some (.int (nI i)), x1, x2] [] σ2 nx 0 0) →
      ∀ d j : Nat, j + d = B.length → ∀ σ1 : zH, zFr σ σ1 r3 7 → zRows G σ1 r3 m3 ((zrng i (zjp p B S.flatten)).flatten ++ zfm (zpart p (B.take j) i) S.flatten) E1 → ∀ x2 : Option Value, zWP G kX3_joinByKey (zFM G kX3_joinByKey.2.2.2.1 Q) 12 [some (.ref h), some (.ref r2), some (.int (nI p)), some (.ref r3), some (.int (nI i)), some (.int (nI j)), x2] [] σ1 nx 0 0 := by
    intro i E1 hi kk d
    have hfl := zrng_fl (f := zjp p B S.flatten) hi
    induction d with
    | zero =>
      intro j hj σ1 f1 t1 x2
      have gb : zRows G σ1 b 300 B E0 := hb.ap f1 ab3
      have gh : σ1 h = some (.inr (4, [v0, v1, .ref b, v3])) := (f1 h (by omega)).trans hh
      refine z_iload dX3_joinByKey_12 rfl ?_
      refine z_aload_n dX3_joinByKey_14 rfl ?_
      refine z_getf dX3_joinByKey_15 fl_X3_14 gh rfl ?_
      refine z_callV dX3_joinByKey_18 cv_X3_77 (c_X9_size gb) rfl gb.c rfl rfl ⟨(Nat.le_of_ble_eq_true rfl), (Nat.le_of_ble_eq_true rfl)⟩ (Nat.le_of_ble_eq_true rfl) (Nat.le_of_ble_eq_true rfl) (Nat.le_of_ble_eq_true rfl) (fun v σ2 nx2 hx2 hq2 => ?_)
      obtain ⟨rfl, rfl, rfl⟩ := hq2
      refine z_icmp_ge (tgt := 69) dX3_joinByKey_21 (by decide) (fun _ => ?_) (fun q => absurd (nI_le (by omega) (by omega)) q)
      rw [show B.take j = B from List.take_of_length_le (by omega)] at t1
      exact kk σ2 f1 t1 _ _
    | succ d ih =>
      intro j hj σ1 f1 t1 x2
      have gb : zRows G σ1 b 300 B E0 := hb.ap f1 ab3
      have g2 : zHas G σ1 r2 m2 S := h2.ap f1 a23
      have gh : σ1 h = some (.inr (4, [v0, v1, .ref b, v3])) := (f1 h (by omega)).trans hh
      have hq : B[j]? = some (B[j]'(by omega)) := List.getElem?_eq_getElem _
      generalize B[j]'(by omega) = z at hq
      have e := zpart_snoc p (B.take j) i z
      rw [← ztake hq] at e
      refine z_iload dX3_joinByKey_12 rfl ?_
      refine z_aload_n dX3_joinByKey_14 rfl ?_
      refine z_getf dX3_joinByKey_15 fl_X3_14 gh rfl ?_
      refine z_callV dX3_joinByKey_18 cv_X3_77 (c_X9_size gb) rfl gb.c rfl rfl ⟨(Nat.le_of_ble_eq_true rfl), (Nat.le_of_ble_eq_true rfl)⟩ (Nat.le_of_ble_eq_true rfl) (Nat.le_of_ble_eq_true rfl) (Nat.le_of_ble_eq_true rfl) (fun v σ2 nx2 hx2 hq2 => ?_)
      obtain ⟨rfl, rfl, rfl⟩ := hq2
      refine z_icmp_ge (tgt := 69) dX3_joinByKey_21 (by decide) (fun q => absurd q (nI_ge (show j < B.length by omega) (by omega))) (fun _ => ?_)
      refine z_aload_n dX3_joinByKey_24 rfl ?_
      refine z_getf dX3_joinByKey_25 fl_X3_14 gh rfl ?_
      refine z_iload dX3_joinByKey_28 rfl ?_
      refine z_callV dX3_joinByKey_30 cv_X3_147 (c_X9_key gb hq) rfl gb.c rfl rfl ⟨(Nat.le_of_ble_eq_true rfl), (Nat.le_of_ble_eq_true rfl)⟩ (Nat.le_of_ble_eq_true rfl) (Nat.le_of_ble_eq_true rfl) (Nat.le_of_ble_eq_true rfl) (fun v σ2 nx2 hx2 hq2 => ?_)
      obtain ⟨rfl, rfl, rfl⟩ := hq2
      refine z_istore dX3_joinByKey_33 (by decide) ?_
      refine z_iload dX3_joinByKey_35 rfl ?_
      refine z_iload_n dX3_joinByKey_37 rfl ?_
      refine z_callS dX3_joinByKey_38 cv_X3_144 (c_X11_modulo hd0) rfl rfl ⟨(Nat.le_of_ble_eq_true rfl), (Nat.le_of_ble_eq_true rfl)⟩ (Nat.le_of_ble_eq_true rfl) (Nat.le_of_ble_eq_true rfl) (Nat.le_of_ble_eq_true rfl) (fun v σ2 nx2 hx2 hq2 => ?_)
      obtain ⟨rfl, rfl, rfl⟩ := hq2
      refine z_iload dX3_joinByKey_41 rfl ?_
      refine z_icmp_ne (tgt := 63) dX3_joinByKey_43 (by decide) (fun h43 => ?_) (fun h43 => ?_)
      · rw [if_neg h43, List.append_nil] at e
        refine z_inc1 dX3_joinByKey_63 rfl (by decide) ?_
        refine z_goto (tgt := 12) dX3_joinByKey_66 (by decide) ?_
        rw [nI_1]
        exact ih (j + 1) (by omega) σ2 f1 (by rw [e]; exact t1) _
      · rw [if_pos h43] at e
        have e2 : zfm (zpart p (B.take (j + 1)) i) S.flatten = zfm (zpart p (B.take j) i) S.flatten ++ zmat z S.flatten := by rw [e, zfm_snoc]
        have h5 : (zfm (zpart p (B.take (j + 1)) i) S.flatten).length ≤ (zjp p B S.flatten i).length := by
          rw [zjp, zpart_pre p B i (j + 1), zfm, zfm, List.flatMap_append, List.length_append]
          omega
        rw [e2, List.length_append] at h5
        refine z_aload_n dX3_joinByKey_46 rfl ?_
        refine z_iload dX3_joinByKey_47 rfl ?_
        refine z_aload_n dX3_joinByKey_49 rfl ?_
        refine z_getf dX3_joinByKey_50 fl_X3_14 gh rfl ?_
        refine z_iload dX3_joinByKey_53 rfl ?_
        refine z_callV dX3_joinByKey_55 cv_X3_151 (c_X9_value gb hq) rfl gb.c rfl rfl ⟨(Nat.le_of_ble_eq_true rfl), (Nat.le_of_ble_eq_true rfl)⟩ (Nat.le_of_ble_eq_true rfl) (Nat.le_of_ble_eq_true rfl) (Nat.le_of_ble_eq_true rfl) (fun v σ3 nx3 hx3 hq3 => ?_)
        obtain ⟨rfl, rfl, rfl⟩ := hq3
        refine z_aload_n dX3_joinByKey_58 rfl ?_
        refine z_aload_n dX3_joinByKey_59 rfl ?_
        refine z_callV dX3_joinByKey_60 cv_X3_205 (c_X3_addMatches g2 t1 a23 (by rw [List.length_append]; show _ + (zmat z S.flatten).length ≤ m3; omega)) rfl gh rfl rfl ⟨(Nat.le_of_ble_eq_true rfl), (Nat.le_of_ble_eq_true rfl)⟩ (Nat.le_of_ble_eq_true rfl) (Nat.le_of_ble_eq_true rfl) (Nat.le_of_ble_eq_true rfl) (fun v σ3 nx3 hx3 hq3 => ?_)
        obtain ⟨rfl, t3, f3, rfl⟩ := hq3
        refine z_inc1 dX3_joinByKey_63 rfl (by decide) ?_
        refine z_goto (tgt := 12) dX3_joinByKey_66 (by decide) ?_
        rw [nI_1]
        exact ih (j + 1) (by omega) σ3 (f1.tr f3) (by rw [e2, ← List.append_assoc]; exact t3) _
  have outer : ∀ d i : Nat, i + d = p → ∀ σ1 : zH, zFr σ σ1 r3 7 → zRows G σ1 r3 m3 (zrng i (zjp p B S.flatten)).flatten (zcum 0 (zrng i (zjp p B S.flatten))) → ∀ x1 x2 : Option Value, zWP G kX3_joinByKey (zFM G kX3_joinByKey.2.2.2.1 Q) 3 [some (.ref h), some (.ref r2), some (.int (nI p)), some (.ref r3), some (.int (nI i)), x1, x2] [] σ1 nx 0 0 := by
    intro d
    induction d with
    | zero =>
      intro i hi σ1 f1 t1 x1 x2
      have e0 : i = p := by omega
      subst e0
      refine z_iload dX3_joinByKey_3 rfl ?_
      refine z_iload_n dX3_joinByKey_5 rfl ?_
      refine z_icmp_ge (tgt := 79) dX3_joinByKey_6 (by decide) (fun _ => ?_) (fun q => absurd (nI_le (Nat.le_refl _) (by omega)) q)
      exact z_vret dX3_joinByKey_79 rfl (Nat.le_of_ble_eq_true rfl) (Nat.le_of_ble_eq_true rfl) (hQ _ _ _ ⟨rfl, t1, f1, rfl⟩)
    | succ d ih =>
      intro i hi σ1 f1 t1 x1 x2
      refine z_iload dX3_joinByKey_3 rfl ?_
      refine z_iload_n dX3_joinByKey_5 rfl ?_
      refine z_icmp_ge (tgt := 79) dX3_joinByKey_6 (by decide) (fun q => absurd q (nI_ge (show i < p by omega) (by omega))) (fun _ => ?_)
      refine z_iconst (v := 0) dX3_joinByKey_9 (by decide) ?_
      refine z_istore dX3_joinByKey_10 (by decide) ?_
      refine inner i _ (by omega) (fun σ3 f3 t3 y1 y2 => ?_) B.length 0 (by omega) σ1 f1 (by rw [List.take_zero]; simpa [zpart, zfm] using t1) _
      refine z_aload_n dX3_joinByKey_69 rfl ?_
      refine z_callV dX3_joinByKey_70 cv_X3_158 (c_X9_endPartition t3 (by rw [zcum_len, zrng_len]; omega)) rfl t3.c rfl rfl ⟨(Nat.le_of_ble_eq_true rfl), (Nat.le_of_ble_eq_true rfl)⟩ (Nat.le_of_ble_eq_true rfl) (Nat.le_of_ble_eq_true rfl) (Nat.le_of_ble_eq_true rfl) (fun v σ4 nx4 hx4 hq4 => ?_)
      obtain ⟨rfl, t4, f4, rfl⟩ := hq4
      refine z_inc1 dX3_joinByKey_73 rfl (by decide) ?_
      refine z_goto (tgt := 3) dX3_joinByKey_76 (by decide) ?_
      rw [nI_1]
      refine ih (i + 1) (by omega) σ4 (f3.tr f4) ?_ _ _
      rw [zrng_s, zcum_snoc, List.flatten_append, Nat.zero_add, ← List.length_append]
      simpa using t4
  refine z_iconst (v := 0) dX3_joinByKey_0 (by decide) ?_
  refine z_istore dX3_joinByKey_1 (by decide) ?_
  exact outer p 0 (by omega) σ zFr.rf h3 none none
