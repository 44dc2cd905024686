-- model
/-! the model: union, join, put, mark, settings, the latest run -/
section
variable {G : zG} {m : Nat} {nt : zNT} {lim mem wk r tk sp cs un : Nat} {slow : Nat → Nat} {L : zNS} {A : List zAE} {S : zMS}
set_option maxRecDepth 100000 in
theorem c_m_union {x y : Int32} (hw : zWf nt) (h : zrM S nt lim mem wk slow r L A tk sp cs un) : zMN G yX12_union kX12_union m [.int x, .int y] S (fun v S' => zQm v S' (zk_union nt x y) (v = some (.int (nI nt.length)) ∧ ∀ e : zNX, e.2.1 = 3 → e.2.2.2 = [] → e.2.2.1 11 = 0 → e.2.2.1 1 = x → e.2.2.1 2 = y → e.2.2.1 3 = nI (zb (nt.getD x.toNatClampNeg zdf) + zb (nt.getD y.toNatClampNeg zdf)) → e.2.2.1 4 = nI (zw (nt.getD x.toNatClampNeg zdf) + zw (nt.getD y.toNatClampNeg zdf)) → zrM S' (nt ++ [e]) lim mem wk slow r L A tk sp cs un) (zrM S' nt lim mem wk slow r L A tk sp cs un)) := by
  refine zMN.of (ls := [some (.ref m), some (.int x), some (.int y), none, none, none]) (by decide +kernel) ⟨rfl, rfl, rfl⟩ (Nat.le_of_ble_eq_true rfl) (fun _ h => h) fun Q hQ => ?_
  have hn := h.1.1
  have h14 := h.1.2.1
  have bad : ∀ (w1 w2 w3 : Int32) (c : Nat), 0 < c → c < 9 → zk_union nt x y = c → zNW G kX12_union m Q 106 [some (.ref m), some (.int x), some (.int y), some (.int w1), some (.int w2), some (.int w3)] [.int (nI c), .ref m] S := by
    intro w1 w2 w3 c c0 c9 hc
    refine n_call dX12_union_106 cv_X12_130 c_fails rfl rfl rfl ⟨(Nat.le_of_ble_eq_true rfl), (Nat.le_of_ble_eq_true rfl)⟩ rfl rfl (Nat.le_of_ble_eq_true rfl) (fun v S1 hq1 => ?_)
    obtain ⟨rfl, rfl⟩ := hq1
    rw [if_pos (show (0 : Int32) < nI c from nI_lt (a := 0) c0 (by omega))]
    refine n_if_eq (tgt := 114) dX12_union_109 (by decide) (fun q => absurd q ((by decide))) (fun _ => ?_)
    refine n_iconst (v := (nI 0)) dX12_union_112 (by decide) ?_
    exact n_iret dX12_union_113 rfl (hQ _ _ (zQm.bad zSF_s hc (by omega) h.thr))
  have no : (¬ zis nt.length x ∨ ¬ zis nt.length y) → zNW G kX12_union m Q 20 [some (.ref m), some (.int x), some (.int y), none, none, none] [] S := by
    intro c
    refine n_iconst (v := (nI 0)) dX12_union_20 (by decide) ?_
    refine n_istore_n dX12_union_21 (by decide) ?_
    refine n_iload_n dX12_union_22 rfl ?_
    refine n_if_eq (tgt := 42) dX12_union_23 (by decide) (fun _ => ?_) (fun q => absurd (rfl) q)
    refine n_iconst (v := (nI 0)) dX12_union_42 (by decide) ?_
    refine n_istore dX12_union_43 (by decide) ?_
    refine n_iload_n dX12_union_45 rfl ?_
    refine n_if_eq (tgt := 65) dX12_union_46 (by decide) (fun _ => ?_) (fun q => absurd (rfl) q)
    refine n_iconst (v := (nI 0)) dX12_union_65 (by decide) ?_
    refine n_istore dX12_union_66 (by decide) ?_
    refine n_aload_n dX12_union_68 rfl ?_
    refine n_iload_n dX12_union_69 rfl ?_
    refine n_if_ne (tgt := 77) dX12_union_70 (by decide) (fun q => absurd (rfl) q) (fun _ => ?_)
    refine n_iconst (v := (nI 1)) dX12_union_73 (by decide) ?_
    refine n_goto (tgt := 106) dX12_union_74 (by decide) ?_
    exact bad _ _ _ 1 (by decide) (by decide) (by rw [zk_union, if_pos (c.imp znob_t.mpr znob_t.mpr)])
  refine n_aload_n dX12_union_0 rfl ?_
  refine n_iload_n dX12_union_1 rfl ?_
  refine n_call dX12_union_2 cv_X12_138 (c_is hn) rfl rfl rfl ⟨(Nat.le_of_ble_eq_true rfl), (Nat.le_of_ble_eq_true rfl)⟩ rfl rfl (Nat.le_of_ble_eq_true rfl) (fun v S1 hq1 => ?_)
  obtain ⟨rfl, rfl⟩ := hq1
  by_cases c1 : zis nt.length x
  · rw [zif_t c1]
    refine n_if_eq (tgt := 20) dX12_union_5 (by decide) (fun q => absurd q ((by decide))) (fun _ => ?_)
    refine n_aload_n dX12_union_8 rfl ?_
    refine n_iload_n dX12_union_9 rfl ?_
    refine n_call dX12_union_10 cv_X12_138 (c_is hn) rfl rfl rfl ⟨(Nat.le_of_ble_eq_true rfl), (Nat.le_of_ble_eq_true rfl)⟩ rfl rfl (Nat.le_of_ble_eq_true rfl) (fun v S2 hq2 => ?_)
    obtain ⟨rfl, rfl⟩ := hq2
    by_cases c2 : zis nt.length y
    · rw [zif_t c2]
      have cn : ¬ (znob nt.length x = true ∨ znob nt.length y = true) := by rw [znob_f.mpr c1, znob_f.mpr c2]; decide
      obtain ⟨i, hi, rfl⟩ := zis_of (by omega) c1
      obtain ⟨j, hj, rfl⟩ := zis_of (by omega) c2
      have hE := zrE_of h hi
      have hE2 := zrE_of h hj
      unfold zrE at hE hE2
      obtain ⟨b1, b2, b3, b4, b5⟩ := zWn_b hw hi
      obtain ⟨d1, d2, d3, d4, d5⟩ := zWn_b hw hj
      have hk : zk_union nt (nI i) (nI j) = if nt.length = 14 ∨ 300 < zb (nt.getD i zdf) + zb (nt.getD j zdf) ∨ 8 < zw (nt.getD i zdf) + zw (nt.getD j zdf) then 2 else 0 := by rw [zk_union, if_neg cn, nI_clamp (by omega), nI_clamp (by omega)]
      rw [nI_clamp (by omega), nI_clamp (by omega)] at hQ
      generalize zb (nt.getD i zdf) = B1 at *
      generalize zb (nt.getD j zdf) = B2 at *
      generalize zw (nt.getD i zdf) = W1 at *
      generalize zw (nt.getD j zdf) = W2 at *
      refine n_if_eq (tgt := 20) dX12_union_13 (by decide) (fun q => absurd q ((by decide))) (fun _ => ?_)
      refine n_iconst (v := (nI 1)) dX12_union_16 (by decide) ?_
      refine n_goto (tgt := 21) dX12_union_17 (by decide) ?_
      refine n_istore_n dX12_union_21 (by decide) ?_
      refine n_iload_n dX12_union_22 rfl ?_
      refine n_if_eq (tgt := 42) dX12_union_23 (by decide) (fun q => absurd q ((by decide))) (fun _ => ?_)
      refine n_aload_n dX12_union_26 rfl ?_
      refine n_get dX12_union_27 fl_X12_31 rfl ?_
      refine n_iload_n dX12_union_30 rfl ?_
      refine n_iald (j := 7) dX12_union_31 (by decide) rfl rfl (show _ < 14 by omega) (hE.2.2.2.2.2.2.2.1.trans b1) ?_
      refine n_aload_n dX12_union_32 rfl ?_
      refine n_get dX12_union_33 fl_X12_31 rfl ?_
      refine n_iload_n dX12_union_36 rfl ?_
      refine n_iald (j := 7) dX12_union_37 (by decide) rfl rfl (show _ < 14 by omega) (hE2.2.2.2.2.2.2.2.1.trans d1) ?_
      refine n_iadd dX12_union_38 ?_
      rw [nI_add]
      refine n_goto (tgt := 43) dX12_union_39 (by decide) ?_
      refine n_istore dX12_union_43 (by decide) ?_
      refine n_iload_n dX12_union_45 rfl ?_
      refine n_if_eq (tgt := 65) dX12_union_46 (by decide) (fun q => absurd q ((by decide))) (fun _ => ?_)
      refine n_aload_n dX12_union_49 rfl ?_
      refine n_get dX12_union_50 fl_X12_34 rfl ?_
      refine n_iload_n dX12_union_53 rfl ?_
      refine n_iald (j := 8) dX12_union_54 (by decide) rfl rfl (show _ < 14 by omega) (hE.2.2.2.2.2.2.2.2.1.trans b3) ?_
      refine n_aload_n dX12_union_55 rfl ?_
      refine n_get dX12_union_56 fl_X12_34 rfl ?_
      refine n_iload_n dX12_union_59 rfl ?_
      refine n_iald (j := 8) dX12_union_60 (by decide) rfl rfl (show _ < 14 by omega) (hE2.2.2.2.2.2.2.2.2.1.trans d3) ?_
      refine n_iadd dX12_union_61 ?_
      rw [nI_add]
      refine n_goto (tgt := 66) dX12_union_62 (by decide) ?_
      refine n_istore dX12_union_66 (by decide) ?_
      refine n_aload_n dX12_union_68 rfl ?_
      refine n_iload_n dX12_union_69 rfl ?_
      refine n_if_ne (tgt := 77) dX12_union_70 (by decide) (fun _ => ?_) (fun q => absurd q ((by decide)))
      have yes : (nt.length = 14 ∨ 300 < B1 + B2 ∨ 8 < W1 + W2) → zNW G kX12_union m Q 101 [some (.ref m), some (.int (nI i)), some (.int (nI j)), some (.int (nI 1)), some (.int (nI (B1 + B2))), some (.int (nI (W1 + W2)))] [.ref m] S2 := by
        intro q
        refine n_iconst (v := (nI 2)) dX12_union_101 (by decide) ?_
        refine n_goto (tgt := 106) dX12_union_102 (by decide) ?_
        exact bad _ _ _ 2 (by decide) (by decide) (by rw [hk, if_pos q])
      refine n_aload_n dX12_union_77 rfl ?_
      refine n_getE dX12_union_78 fl_X12_123 rfl (hn) ?_
      refine n_bipush (v := (nI 14)) dX12_union_81 (by decide) ?_
      refine n_icmp_eq (tgt := 101) dX12_union_83 (by decide) (fun h83 => ?_) (fun h83 => ?_)
      · exact yes (Or.inl ((nI_eq (b := 14) (by omega) (by decide)).mp h83))
      · have hl : nt.length < 14 := Nat.lt_of_le_of_ne h14 fun q => h83 (by rw [q])
        refine n_iload dX12_union_86 rfl ?_
        refine n_sipush (v := (nI 300)) dX12_union_88 (by decide) ?_
        refine n_icmp_gt (tgt := 101) dX12_union_91 (by decide) (fun h91 => ?_) (fun h91 => ?_)
        · exact yes (Or.inr (Or.inl ((nI_ltI (by decide) (by omega)).mp h91)))
        · have q1 : ¬ 300 < B1 + B2 := fun q => h91 (nI_lt q (by omega))
          refine n_iload dX12_union_94 rfl ?_
          refine n_bipush (v := (nI 8)) dX12_union_96 (by decide) ?_
          refine n_icmp_le (tgt := 105) dX12_union_98 (by decide) (fun h98 => ?_) (fun h98 => ?_)
          · have q2 : W1 + W2 ≤ 8 := (nI_leI (by omega) (by decide)).mp h98
            refine n_iconst (v := (nI 0)) dX12_union_105 (by decide) ?_
            refine n_call dX12_union_106 cv_X12_130 c_fails rfl rfl rfl ⟨(Nat.le_of_ble_eq_true rfl), (Nat.le_of_ble_eq_true rfl)⟩ rfl rfl (Nat.le_of_ble_eq_true rfl) (fun v S3 hq3 => ?_)
            obtain ⟨rfl, rfl⟩ := hq3
            refine n_if_eq (tgt := 114) dX12_union_109 (by decide) (fun _ => ?_) (fun q => absurd (rfl) q)
            refine n_aload_n dX12_union_114 rfl ?_
            refine n_iconst (v := (nI 3)) dX12_union_115 (by decide) ?_
            refine n_iload_n dX12_union_116 rfl ?_
            refine n_iload_n dX12_union_117 rfl ?_
            refine n_iload dX12_union_118 rfl ?_
            refine n_iload dX12_union_120 rfl ?_
            refine n_call dX12_union_122 cv_X12_134 (c_makes (n := nt.length) hn hl) rfl rfl rfl ⟨(Nat.le_of_ble_eq_true rfl), (Nat.le_of_ble_eq_true rfl)⟩ rfl rfl (Nat.le_of_ble_eq_true rfl) (fun v S3 hq3 => ?_)
            obtain ⟨rfl, rfl⟩ := hq3
            refine n_iret dX12_union_125 rfl (hQ _ _ (zQm.ok (z11.trans (pk_us (f := S2.1) (k := 11) (x := 0))) (by rw [hk, if_neg (by omega)]) ⟨rfl, fun e e0 eR e11 e1 e2 e3 e4 => ?_⟩))
            exact h.mk hl (fun j a b => zP0 a b) (fun j hj => rfl) (fun j hj i hi => rfl) (by rw [e0]) (fun _ => e1.symm) (fun q => e2.symm) (fun q => absurd q (by omega)) (fun q => absurd q (by omega)) (fun q => absurd q (by omega)) (fun q => absurd q (by omega)) e3.symm e4.symm eR e11
          · exact yes (Or.inr (Or.inr (Nat.lt_of_not_le fun q => h98 (nI_le q (by decide)))))
    · rw [zif_f c2]
      refine n_if_eq (tgt := 20) dX12_union_13 (by decide) (fun _ => ?_) (fun q => absurd (rfl) q)
      exact no (Or.inr c2)
  · rw [zif_f c1]
    refine n_if_eq (tgt := 20) dX12_union_5 (by decide) (fun _ => ?_) (fun q => absurd (rfl) q)
    exact no (Or.inl c1)
set_option maxRecDepth 100000 in
theorem c_m_join {x y z : Int32} (hw : zWf nt) (h : zrM S nt lim mem wk slow r L A tk sp cs un) : zMN G yX12_join kX12_join m [.int x, .int y, .int z] S (fun v S' => zQm v S' (zk_join nt x y z) (v = some (.int (nI nt.length)) ∧ ∀ e : zNX, e.2.1 = 5 → e.2.2.2 = [] → e.2.2.1 11 = 0 → e.2.2.1 1 = x → e.2.2.1 2 = y → e.2.2.1 6 = z → e.2.2.1 3 = nI (zb (nt.getD x.toNatClampNeg zdf) * zb (nt.getD y.toNatClampNeg zdf)) → e.2.2.1 4 = nI (max z.toNatClampNeg (zw (nt.getD x.toNatClampNeg zdf))) → zrM S' (nt ++ [e]) lim mem wk slow r L A tk sp cs un) (zrM S' nt lim mem wk slow r L A tk sp cs un)) := by
  refine zMN.of (ls := [some (.ref m), some (.int x), some (.int y), some (.int z), none, none]) (by decide +kernel) ⟨rfl, rfl, rfl⟩ (Nat.le_of_ble_eq_true rfl) (fun _ h => h) fun Q hQ => ?_
  have hn := h.1.1
  have h14 := h.1.2.1
  have bad : ∀ (w1 w2 : Int32) (c : Nat), 0 < c → c < 9 → zk_join nt x y z = c → zNW G kX12_join m Q 93 [some (.ref m), some (.int x), some (.int y), some (.int z), some (.int w1), some (.int w2)] [.int (nI c), .ref m] S := by
    intro w1 w2 c c0 c9 hc
    refine n_call dX12_join_93 cv_X12_130 c_fails rfl rfl rfl ⟨(Nat.le_of_ble_eq_true rfl), (Nat.le_of_ble_eq_true rfl)⟩ rfl rfl (Nat.le_of_ble_eq_true rfl) (fun v S1 hq1 => ?_)
    obtain ⟨rfl, rfl⟩ := hq1
    rw [if_pos (show (0 : Int32) < nI c from nI_lt (a := 0) c0 (by omega))]
    refine n_if_eq (tgt := 101) dX12_join_96 (by decide) (fun q => absurd q ((by decide))) (fun _ => ?_)
    refine n_iconst (v := (nI 0)) dX12_join_99 (by decide) ?_
    exact n_iret dX12_join_100 rfl (hQ _ _ (zQm.bad zSF_s hc (by omega) h.thr))
  have no : (¬ zis nt.length x ∨ ¬ zis nt.length y) → zNW G kX12_join m Q 20 [some (.ref m), some (.int x), some (.int y), some (.int z), none, none] [] S := by
    intro c
    refine n_iconst (v := (nI 0)) dX12_join_20 (by decide) ?_
    refine n_istore dX12_join_21 (by decide) ?_
    refine n_iload dX12_join_23 rfl ?_
    refine n_if_eq (tgt := 44) dX12_join_25 (by decide) (fun _ => ?_) (fun q => absurd (rfl) q)
    refine n_iconst (v := (nI 0)) dX12_join_44 (by decide) ?_
    refine n_istore dX12_join_45 (by decide) ?_
    refine n_aload_n dX12_join_47 rfl ?_
    refine n_iload dX12_join_48 rfl ?_
    refine n_if_ne (tgt := 57) dX12_join_50 (by decide) (fun q => absurd (rfl) q) (fun _ => ?_)
    refine n_iconst (v := (nI 1)) dX12_join_53 (by decide) ?_
    refine n_goto (tgt := 93) dX12_join_54 (by decide) ?_
    exact bad _ _ 1 (by decide) (by decide) (by rw [zk_join, if_pos (c.imp znob_t.mpr znob_t.mpr)])
  refine n_aload_n dX12_join_0 rfl ?_
  refine n_iload_n dX12_join_1 rfl ?_
  refine n_call dX12_join_2 cv_X12_138 (c_is hn) rfl rfl rfl ⟨(Nat.le_of_ble_eq_true rfl), (Nat.le_of_ble_eq_true rfl)⟩ rfl rfl (Nat.le_of_ble_eq_true rfl) (fun v S1 hq1 => ?_)
  obtain ⟨rfl, rfl⟩ := hq1
  by_cases c1 : zis nt.length x
  · rw [zif_t c1]
    refine n_if_eq (tgt := 20) dX12_join_5 (by decide) (fun q => absurd q ((by decide))) (fun _ => ?_)
    refine n_aload_n dX12_join_8 rfl ?_
    refine n_iload_n dX12_join_9 rfl ?_
    refine n_call dX12_join_10 cv_X12_138 (c_is hn) rfl rfl rfl ⟨(Nat.le_of_ble_eq_true rfl), (Nat.le_of_ble_eq_true rfl)⟩ rfl rfl (Nat.le_of_ble_eq_true rfl) (fun v S2 hq2 => ?_)
    obtain ⟨rfl, rfl⟩ := hq2
    by_cases c2 : zis nt.length y
    · rw [zif_t c2]
      have cn : ¬ (znob nt.length x = true ∨ znob nt.length y = true) := by rw [znob_f.mpr c1, znob_f.mpr c2]; decide
      obtain ⟨i, hi, rfl⟩ := zis_of (by omega) c1
      obtain ⟨j, hj, rfl⟩ := zis_of (by omega) c2
      have hE := zrE_of h hi
      have hE2 := zrE_of h hj
      unfold zrE at hE hE2
      obtain ⟨b1, b2, b3, b4, b5⟩ := zWn_b hw hi
      obtain ⟨d1, d2, d3, d4, d5⟩ := zWn_b hw hj
      have hk : zk_join nt (nI i) (nI j) z = if z < 1 ∨ 4 < z then 2 else if nt.length = 14 ∨ 300 < zb (nt.getD i zdf) * zb (nt.getD j zdf) then 3 else 0 := by rw [zk_join, if_neg cn, nI_clamp (by omega), nI_clamp (by omega)]
      rw [nI_clamp (by omega), nI_clamp (by omega)] at hQ
      generalize zb (nt.getD i zdf) = B1 at *
      generalize zb (nt.getD j zdf) = B2 at *
      generalize zw (nt.getD i zdf) = W1 at *
      generalize zw (nt.getD j zdf) = W2 at *
      have hB : B1 * B2 ≤ 300 * 300 := Nat.mul_le_mul b2 d2
      refine n_if_eq (tgt := 20) dX12_join_13 (by decide) (fun q => absurd q ((by decide))) (fun _ => ?_)
      refine n_iconst (v := (nI 1)) dX12_join_16 (by decide) ?_
      refine n_goto (tgt := 21) dX12_join_17 (by decide) ?_
      refine n_istore dX12_join_21 (by decide) ?_
      refine n_iload dX12_join_23 rfl ?_
      refine n_if_eq (tgt := 44) dX12_join_25 (by decide) (fun q => absurd q ((by decide))) (fun _ => ?_)
      refine n_aload_n dX12_join_28 rfl ?_
      refine n_get dX12_join_29 fl_X12_31 rfl ?_
      refine n_iload_n dX12_join_32 rfl ?_
      refine n_iald (j := 7) dX12_join_33 (by decide) rfl rfl (show _ < 14 by omega) (hE.2.2.2.2.2.2.2.1.trans b1) ?_
      refine n_aload_n dX12_join_34 rfl ?_
      refine n_get dX12_join_35 fl_X12_31 rfl ?_
      refine n_iload_n dX12_join_38 rfl ?_
      refine n_iald (j := 7) dX12_join_39 (by decide) rfl rfl (show _ < 14 by omega) (hE2.2.2.2.2.2.2.2.1.trans d1) ?_
      refine n_imul dX12_join_40 ?_
      rw [pk_mul]
      refine n_goto (tgt := 45) dX12_join_41 (by decide) ?_
      refine n_istore dX12_join_45 (by decide) ?_
      refine n_aload_n dX12_join_47 rfl ?_
      refine n_iload dX12_join_48 rfl ?_
      refine n_if_ne (tgt := 57) dX12_join_50 (by decide) (fun _ => ?_) (fun q => absurd q ((by decide)))
      have two : (z < 1 ∨ 4 < z) → zNW G kX12_join m Q 67 [some (.ref m), some (.int (nI i)), some (.int (nI j)), some (.int z), some (.int (nI 1)), some (.int (nI (B1 * B2)))] [.ref m] S2 := by
        intro q
        refine n_iconst (v := (nI 2)) dX12_join_67 (by decide) ?_
        refine n_goto (tgt := 93) dX12_join_68 (by decide) ?_
        exact bad _ _ 2 (by decide) (by decide) (by rw [hk, if_pos q])
      refine n_iload_n dX12_join_57 rfl ?_
      refine n_iconst (v := (nI 1)) dX12_join_58 (by decide) ?_
      refine n_icmp_lt (tgt := 67) dX12_join_59 (by decide) (fun h59 => ?_) (fun h59 => ?_)
      · exact two (Or.inl h59)
      · refine n_iload_n dX12_join_62 rfl ?_
        refine n_iconst (v := (nI 4)) dX12_join_63 (by decide) ?_
        refine n_icmp_le (tgt := 71) dX12_join_64 (by decide) (fun h64 => ?_) (fun h64 => ?_)
        · obtain ⟨p, p1, p2, rfl⟩ := nI_four (n := 4) (by decide) h59 h64
          have cz : ¬ (nI p < 1 ∨ 4 < nI p) := by rintro (q | q); exact h59 q; exact absurd q (Int32.not_lt.mpr h64)
          rw [nI_clamp (show p < 2 ^ 31 by omega)] at hQ
          rw [if_neg cz] at hk
          have yes : (nt.length = 14 ∨ 300 < B1 * B2) → zNW G kX12_join m Q 88 [some (.ref m), some (.int (nI i)), some (.int (nI j)), some (.int (nI p)), some (.int (nI 1)), some (.int (nI (B1 * B2)))] [.ref m] S2 := by
            intro q
            refine n_iconst (v := (nI 3)) dX12_join_88 (by decide) ?_
            refine n_goto (tgt := 93) dX12_join_89 (by decide) ?_
            exact bad _ _ 3 (by decide) (by decide) (by rw [hk, if_pos q])
          refine n_aload_n dX12_join_71 rfl ?_
          refine n_getE dX12_join_72 fl_X12_123 rfl (hn) ?_
          refine n_bipush (v := (nI 14)) dX12_join_75 (by decide) ?_
          refine n_icmp_eq (tgt := 88) dX12_join_77 (by decide) (fun h77 => ?_) (fun h77 => ?_)
          · exact yes (Or.inl ((nI_eq (b := 14) (by omega) (by decide)).mp h77))
          · have hl : nt.length < 14 := Nat.lt_of_le_of_ne h14 fun q => h77 (by rw [q])
            refine n_iload dX12_join_80 rfl ?_
            refine n_sipush (v := (nI 300)) dX12_join_82 (by decide) ?_
            refine n_icmp_le (tgt := 92) dX12_join_85 (by decide) (fun h85 => ?_) (fun h85 => ?_)
            · have q2 : B1 * B2 ≤ 300 := (nI_leI (by omega) (by decide)).mp h85
              refine n_iconst (v := (nI 0)) dX12_join_92 (by decide) ?_
              refine n_call dX12_join_93 cv_X12_130 c_fails rfl rfl rfl ⟨(Nat.le_of_ble_eq_true rfl), (Nat.le_of_ble_eq_true rfl)⟩ rfl rfl (Nat.le_of_ble_eq_true rfl) (fun v S3 hq3 => ?_)
              obtain ⟨rfl, rfl⟩ := hq3
              have fin : ∀ M : Nat, M = max p W1 → zNW G kX12_join m Q 137 [some (.ref m), some (.int (nI i)), some (.int (nI j)), some (.int (nI p)), some (.int (nI 1)), some (.int (nI (B1 * B2)))] [.int (nI M), .int (nI (B1 * B2)), .int (nI j), .int (nI i), .int (nI 5), .ref m] (zST (zSF S2 11 (nI 0)) 6 nt.length (nI p)) := by
                intro M hM
                subst hM
                refine n_call dX12_join_137 cv_X12_134 (c_makes (n := nt.length) hn hl) rfl rfl rfl ⟨(Nat.le_of_ble_eq_true rfl), (Nat.le_of_ble_eq_true rfl)⟩ rfl rfl (Nat.le_of_ble_eq_true rfl) (fun v S3 hq3 => ?_)
                obtain ⟨rfl, rfl⟩ := hq3
                refine n_iret dX12_join_140 rfl (hQ _ _ (zQm.ok (z11.trans (pk_us (f := S2.1) (k := 11) (x := 0))) (by rw [hk, if_neg (by omega)]) ⟨rfl, fun e e0 eR e11 e1 e2 e6 e3 e4 => ?_⟩))
                exact h.mk hl (fun j a b => zP0 a b) (fun j hj => zST_n _ _ _ (by omega)) (fun j hj i hi => zSTi hi) (by rw [e0]) (fun _ => e1.symm) (fun q => e2.symm) (fun q => absurd q (by omega)) (fun q => absurd q (by omega)) (fun q => absurd q (by omega)) (fun q => zSTs.trans e6.symm) e3.symm e4.symm eR e11
              refine n_if_eq (tgt := 101) dX12_join_96 (by decide) (fun _ => ?_) (fun q => absurd (rfl) q)
              refine n_aload_n dX12_join_101 rfl ?_
              refine n_get dX12_join_102 fl_X12_28 rfl ?_
              refine n_aload_n dX12_join_105 rfl ?_
              refine n_getE dX12_join_106 fl_X12_123 rfl (hn) ?_
              refine n_iload_n dX12_join_109 rfl ?_
              refine n_iast (j := 6) dX12_join_110 (by decide) rfl rfl (show _ < 14 by omega) ?_
              refine n_aload_n dX12_join_111 rfl ?_
              refine n_iconst (v := (nI 5)) dX12_join_112 (by decide) ?_
              refine n_iload_n dX12_join_113 rfl ?_
              refine n_iload_n dX12_join_114 rfl ?_
              refine n_iload dX12_join_115 rfl ?_
              refine n_iload_n dX12_join_117 rfl ?_
              refine n_aload_n dX12_join_118 rfl ?_
              refine n_get dX12_join_119 fl_X12_34 rfl ?_
              refine n_iload_n dX12_join_122 rfl ?_
              refine n_iald (j := 8) dX12_join_123 (by decide) rfl rfl (show _ < 14 by omega) (hE.2.2.2.2.2.2.2.2.1.trans b3) ?_
              refine n_icmp_le (tgt := 131) dX12_join_124 (by decide) (fun h124 => ?_) (fun h124 => ?_)
              · have q3 := (nI_leI (by omega) (by omega)).mp h124
                refine n_aload_n dX12_join_131 rfl ?_
                refine n_get dX12_join_132 fl_X12_34 rfl ?_
                refine n_iload_n dX12_join_135 rfl ?_
                refine n_iald (j := 8) dX12_join_136 (by decide) rfl rfl (show _ < 14 by omega) (hE.2.2.2.2.2.2.2.2.1.trans b3) ?_
                exact fin W1 (by omega)
              · have q3 : ¬ p ≤ W1 := fun q => h124 (nI_le q (by omega))
                refine n_iload_n dX12_join_127 rfl ?_
                refine n_goto (tgt := 137) dX12_join_128 (by decide) ?_
                exact fin p (by omega)
            · exact yes (Or.inr (Nat.lt_of_not_le fun q => h85 (nI_le q (by decide))))
        · exact two (Or.inr (Int32.not_le.mp h64))
    · rw [zif_f c2]
      refine n_if_eq (tgt := 20) dX12_join_13 (by decide) (fun _ => ?_) (fun q => absurd (rfl) q)
      exact no (Or.inr c2)
  · rw [zif_f c1]
    refine n_if_eq (tgt := 20) dX12_join_5 (by decide) (fun _ => ?_) (fun q => absurd (rfl) q)
    exact no (Or.inl c1)
end
