/-! the law: grouped -/
section
variable {G : zG} {σ : zH} {b nx : Nat} {R : Nat → Nat → Int32} {nt : zNT} {lim mem wk r tk sp cs : Nat} {slow : Nat → Nat} {L : zNS} {A : List zAE}
set_option maxRecDepth 100000 in
set_option maxHeartbeats 2000000 in
theorem l_grouped {i h : Nat} {x : Int32} (hG : zKap G) (S : zVs G σ b (nt, lim, mem, wk, slow, r, L, A, tk, sp, cs) R) (hi : i < nt.length) (hh : h ≤ 3) : zM G yL_grouped kL_grouped [.ref b, .int (nI i), .int x, .int (nI h)] σ nx (fun v σ' nx' => v = some (.int (zgo h x (zct lim nt i).flatten)) ∧ zVs G σ' b (nt, lim, mem, wk, slow, r, L, A, tk, sp, cs) R ∧ nx' = nx) := by
  refine zM.of (ls := [some (.ref b), some (.int (nI i)), some (.int x), some (.int (nI h)), none, none, none, none, none]) (by decide +kernel) ⟨rfl, rfl, rfl⟩ (Nat.le_of_ble_eq_true rfl) (fun _ h => h) ?_
  obtain ⟨P, hP⟩ : ∃ P, P = zct lim nt i := ⟨_, rfl⟩
  obtain ⟨p300, p1, p8⟩ := zct_le (lim := lim) S.2.1.1 S.2.1.2.2.1 hi
  rw [← hP] at p300 p1 p8 ⊢
  have outer : ∀ (d p : Nat) (σ2 : zH) (x7 x8 : Option Value), p + d = P.length → zVs G σ2 b (nt, lim, mem, wk, slow, r, L, A, tk, sp, cs) R →
      zWP G kL_grouped (zFM G kL_grouped.2.2.2.1 (fun v σ' nx' => v = some (.int (zgo h x P.flatten)) ∧ zVs G σ' b (nt, lim, mem, wk, slow, r, L, A, tk, sp, cs) R ∧ nx' = nx)) 9 [some (.ref b), some (.int (nI i)), some (.int x), some (.int (nI h)), some (.int (nI (zgf h x (zpx P p 0)).1)), some (.int (zgf h x (zpx P p 0)).2), some (.int (nI p)), x7, x8] [] σ2 nx 0 0 := by
    intro d
    induction d with
    | zero =>
      intro p σ2 x7 x8 hp S
      have ep : p = P.length := by omega
      subst ep
      have hz := zgf_len h x (zpx P P.length 0)
      have hk := zkf_le x (zpx P P.length 0)
      rw [zpx_e] at hz hk ⊢
      refine z_iload dL_grouped_9 rfl ?_
      refine z_aload_n dL_grouped_11 rfl ?_
      refine z_iload_n dL_grouped_12 rfl ?_
      refine z_callV dL_grouped_13 cv0_L_58 (q_partitions hG S hi) rfl S.c rfl rfl ⟨(Nat.le_of_ble_eq_true rfl), (Nat.le_of_ble_eq_true rfl)⟩ (Nat.le_of_ble_eq_true rfl) (Nat.le_of_ble_eq_true rfl) (Nat.le_of_ble_eq_true rfl) (fun v σ1 nx1 hx1 hq1 => ?_)
      obtain ⟨rfl, S, rfl⟩ := hq1
      rw [← hP]
      refine z_icmp_ge (tgt := 133) dL_grouped_16 (by decide) (fun _ => ?_) (fun q => absurd ((nI_le (Nat.le_refl _) (by omega))) q)
      refine z_iload_n dL_grouped_133 rfl ?_
      refine z_iconst (v := 3) dL_grouped_134 (by decide) ?_
      by_cases c : h = 3
      · subst c
        have e : zgo 3 x P.flatten = nI (zgf 3 x P.flatten).1 := rfl
        refine z_icmp_ne (tgt := 143) dL_grouped_135 (by decide) (fun q => absurd ((rfl)) q) (fun _ => ?_)
        refine z_iload dL_grouped_138 rfl ?_
        refine z_goto (tgt := 145) dL_grouped_140 (by decide) ?_
        exact z_iret dL_grouped_145 rfl (Nat.le_of_ble_eq_true rfl) (Nat.le_of_ble_eq_true rfl) ⟨by rw [e], S, rfl⟩
      · have e : zgo h x P.flatten = (zgf h x P.flatten).2 := if_neg c
        refine z_icmp_ne (tgt := 143) dL_grouped_135 (by decide) (fun _ => ?_) (fun q => absurd q (((fun w => c ((nI_eq (a := h) (b := 3) (by omega) (by decide)).mp w)))))
        refine z_iload dL_grouped_143 rfl ?_
        exact z_iret dL_grouped_145 rfl (Nat.le_of_ble_eq_true rfl) (Nat.le_of_ble_eq_true rfl) ⟨by rw [e], S, rfl⟩
    | succ d ih =>
      intro p σ2 x7 x8 hp S
      have hpl : p < P.length := by omega
      have inner : ∀ (e j : Nat) (σ2 : zH) (x8 : Option Value), j + e = zsz P p → zVs G σ2 b (nt, lim, mem, wk, slow, r, L, A, tk, sp, cs) R →
          zWP G kL_grouped (zFM G kL_grouped.2.2.2.1 (fun v σ' nx' => v = some (.int (zgo h x P.flatten)) ∧ zVs G σ' b (nt, lim, mem, wk, slow, r, L, A, tk, sp, cs) R ∧ nx' = nx)) 22 [some (.ref b), some (.int (nI i)), some (.int x), some (.int (nI h)), some (.int (nI (zgf h x (zpx P p j)).1)), some (.int (zgf h x (zpx P p j)).2), some (.int (nI p)), some (.int (nI j)), x8] [] σ2 nx 0 0 := by
        have hs := zsz_le (P := P) (j := p)
        intro e
        induction e with
        | zero =>
          intro j σ2 x8 hj S
          have ej : j = zsz P p := by omega
          subst ej
          rw [zpx_n hpl]
          refine z_iload dL_grouped_22 rfl ?_
          refine z_aload_n dL_grouped_24 rfl ?_
          refine z_iload_n dL_grouped_25 rfl ?_
          refine z_iload dL_grouped_26 rfl ?_
          refine z_callV dL_grouped_28 cv0_L_61 (q_rowsIn hG S hi (by rw [← hP]; exact hpl)) rfl S.c rfl rfl ⟨(Nat.le_of_ble_eq_true rfl), (Nat.le_of_ble_eq_true rfl)⟩ (Nat.le_of_ble_eq_true rfl) (Nat.le_of_ble_eq_true rfl) (Nat.le_of_ble_eq_true rfl) (fun v σ1 nx1 hx1 hq1 => ?_)
          obtain ⟨rfl, S, rfl⟩ := hq1
          rw [← hP]
          refine z_icmp_ge (tgt := 127) dL_grouped_31 (by decide) (fun _ => ?_) (fun q => absurd ((nI_le (Nat.le_refl _) (by omega))) q)
          refine z_inc1 dL_grouped_127 rfl (by decide) ?_
          rw [nI_1]
          refine z_goto (tgt := 9) dL_grouped_130 (by decide) ?_
          exact ih (p + 1) _ _ _ (by omega) S
        | succ e ie =>
          intro j σ2 x8 hj S
          have hjl : j < zsz P p := by omega
          have hlen := zpx_len hjl
          have nxt := ie (j + 1)
          rw [zpx_s hjl] at nxt
          obtain ⟨T, hT⟩ : ∃ T, T = zpx P p j := ⟨_, rfl⟩
          rw [← hT] at nxt hlen ⊢
          have hgl := zgf_len h x T
          have hkl := zkf_le x T
          obtain ⟨q, hq⟩ : ∃ q, q = zrw P p j := ⟨_, rfl⟩
          rw [← hq] at nxt
          obtain ⟨s, hs2⟩ : ∃ s, s = zgf h x T := ⟨_, rfl⟩
          rw [← hs2] at hgl ⊢
          by_cases c : q.1 = x
          · rw [zgf_y c, ← hs2] at nxt
            have fin : ∀ (σ3 : zH) (w y : Int32), zVs G σ3 b (nt, lim, mem, wk, slow, r, L, A, tk, sp, cs) R → w = (zgs h s q.2).2 → zWP G kL_grouped (zFM G kL_grouped.2.2.2.1 (fun v σ' nx' => v = some (.int (zgo h x P.flatten)) ∧ zVs G σ' b (nt, lim, mem, wk, slow, r, L, A, tk, sp, cs) R ∧ nx' = nx)) 116 [some (.ref b), some (.int (nI i)), some (.int x), some (.int (nI h)), some (.int (nI s.1)), some (.int s.2), some (.int (nI p)), some (.int (nI j)), some (.int y)] [.int w] σ3 nx 0 0 := by
              intro σ3 w y S hw
              subst hw
              refine z_istore dL_grouped_116 (by decide) ?_
              refine z_inc1 dL_grouped_118 rfl (by decide) ?_
              refine z_inc1 dL_grouped_121 rfl (by decide) ?_
              rw [nI_1, nI_1]
              refine z_goto (tgt := 22) dL_grouped_124 (by decide) ?_
              exact nxt _ _ (by omega) S
            refine z_iload dL_grouped_22 rfl ?_
            refine z_aload_n dL_grouped_24 rfl ?_
            refine z_iload_n dL_grouped_25 rfl ?_
            refine z_iload dL_grouped_26 rfl ?_
            refine z_callV dL_grouped_28 cv0_L_61 (q_rowsIn hG S hi (by rw [← hP]; exact hpl)) rfl S.c rfl rfl ⟨(Nat.le_of_ble_eq_true rfl), (Nat.le_of_ble_eq_true rfl)⟩ (Nat.le_of_ble_eq_true rfl) (Nat.le_of_ble_eq_true rfl) (Nat.le_of_ble_eq_true rfl) (fun v σ1 nx1 hx1 hq1 => ?_)
            obtain ⟨rfl, S, rfl⟩ := hq1
            rw [← hP]
            refine z_icmp_ge (tgt := 127) dL_grouped_31 (by decide) (fun q => absurd q ((nI_ge hjl (by omega)))) (fun _ => ?_)
            refine z_aload_n dL_grouped_34 rfl ?_
            refine z_iload_n dL_grouped_35 rfl ?_
            refine z_iload dL_grouped_36 rfl ?_
            refine z_iload dL_grouped_38 rfl ?_
            refine z_callV dL_grouped_40 cv0_L_67 (q_keyAt hG S hi (by rw [← hP]; exact hpl) (by rw [← hP]; exact hjl)) rfl S.c rfl rfl ⟨(Nat.le_of_ble_eq_true rfl), (Nat.le_of_ble_eq_true rfl)⟩ (Nat.le_of_ble_eq_true rfl) (Nat.le_of_ble_eq_true rfl) (Nat.le_of_ble_eq_true rfl) (fun v σ1 nx1 hx1 hq1 => ?_)
            obtain ⟨rfl, S, rfl⟩ := hq1
            rw [← hP, ← hq]
            refine z_iload_n dL_grouped_43 rfl ?_
            refine z_icmp_ne (tgt := 121) dL_grouped_44 (by decide) (fun q => absurd ((c)) q) (fun _ => ?_)
            refine z_aload_n dL_grouped_47 rfl ?_
            refine z_iload_n dL_grouped_48 rfl ?_
            refine z_iload dL_grouped_49 rfl ?_
            refine z_iload dL_grouped_51 rfl ?_
            refine z_callV dL_grouped_53 cv0_L_70 (q_valueAt hG S hi (by rw [← hP]; exact hpl) (by rw [← hP]; exact hjl)) rfl S.c rfl rfl ⟨(Nat.le_of_ble_eq_true rfl), (Nat.le_of_ble_eq_true rfl)⟩ (Nat.le_of_ble_eq_true rfl) (Nat.le_of_ble_eq_true rfl) (Nat.le_of_ble_eq_true rfl) (fun v σ1 nx1 hx1 hq1 => ?_)
            obtain ⟨rfl, S, rfl⟩ := hq1
            rw [← hP, ← hq]
            refine z_istore dL_grouped_56 (by decide) ?_
            refine z_iload_n dL_grouped_58 rfl ?_
            rcases (show h = 0 ∨ h = 1 ∨ h = 2 ∨ h = 3 by omega) with g | g | g | g
            · subst g
              refine z_if_ne (tgt := 70) dL_grouped_59 (by decide) (fun q => absurd ((rfl)) q) (fun _ => ?_)
              refine z_iload dL_grouped_62 rfl ?_
              refine z_iload dL_grouped_64 rfl ?_
              refine z_iadd dL_grouped_66 ?_
              refine z_goto (tgt := 116) dL_grouped_67 (by decide) ?_
              exact fin _ _ _ S rfl
            · subst g
              refine z_if_ne (tgt := 70) dL_grouped_59 (by decide) (fun _ => ?_) (fun q => absurd q (((by decide))))
              refine z_iload_n dL_grouped_70 rfl ?_
              refine z_iconst (v := 1) dL_grouped_71 (by decide) ?_
              refine z_icmp_ne (tgt := 97) dL_grouped_72 (by decide) (fun q => absurd ((rfl)) q) (fun _ => ?_)
              refine z_iload dL_grouped_75 rfl ?_
              by_cases z0 : s.1 = 0
              · have ew : q.2 = (zgs 1 s q.2).2 := by show q.2 = if s.1 = 0 ∨ q.2 < s.2 then q.2 else s.2; rw [if_pos (Or.inl z0)]
                refine z_if_eq (tgt := 87) dL_grouped_77 (by decide) (fun _ => ?_) (fun q => absurd (((by rw [z0]; rfl))) q)
                refine z_iload dL_grouped_87 rfl ?_
                refine z_goto (tgt := 116) dL_grouped_89 (by decide) ?_
                exact fin _ _ _ S ew
              · refine z_if_eq (tgt := 87) dL_grouped_77 (by decide) (fun q => absurd q (((fun w => z0 ((nI_eq (b := 0) (by omega) (by decide)).mp w))))) (fun _ => ?_)
                refine z_iload dL_grouped_80 rfl ?_
                refine z_iload dL_grouped_82 rfl ?_
                by_cases z1 : q.2 < s.2
                · have ew : q.2 = (zgs 1 s q.2).2 := by show q.2 = if s.1 = 0 ∨ q.2 < s.2 then q.2 else s.2; rw [if_pos (Or.inr z1)]
                  refine z_icmp_ge (tgt := 92) dL_grouped_84 (by decide) (fun q => absurd q ((Int32.not_le.mpr z1))) (fun _ => ?_)
                  refine z_iload dL_grouped_87 rfl ?_
                  refine z_goto (tgt := 116) dL_grouped_89 (by decide) ?_
                  exact fin _ _ _ S ew
                · have ew : s.2 = (zgs 1 s q.2).2 := by show s.2 = if s.1 = 0 ∨ q.2 < s.2 then q.2 else s.2; rw [if_neg (fun w => w.elim z0 z1)]
                  refine z_icmp_ge (tgt := 92) dL_grouped_84 (by decide) (fun _ => ?_) (fun q => absurd ((Int32.not_lt.mp z1)) q)
                  refine z_iload dL_grouped_92 rfl ?_
                  refine z_goto (tgt := 116) dL_grouped_94 (by decide) ?_
                  exact fin _ _ _ S ew
            · subst g
              refine z_if_ne (tgt := 70) dL_grouped_59 (by decide) (fun _ => ?_) (fun q => absurd q (((by decide))))
              refine z_iload_n dL_grouped_70 rfl ?_
              refine z_iconst (v := 1) dL_grouped_71 (by decide) ?_
              refine z_icmp_ne (tgt := 97) dL_grouped_72 (by decide) (fun _ => ?_) (fun q => absurd q (((by decide))))
              refine z_iload dL_grouped_97 rfl ?_
              by_cases z0 : s.1 = 0
              · have ew : q.2 = (zgs 2 s q.2).2 := by show q.2 = if s.1 = 0 ∨ s.2 < q.2 then q.2 else s.2; rw [if_pos (Or.inl z0)]
                refine z_if_eq (tgt := 109) dL_grouped_99 (by decide) (fun _ => ?_) (fun q => absurd (((by rw [z0]; rfl))) q)
                refine z_iload dL_grouped_109 rfl ?_
                refine z_goto (tgt := 116) dL_grouped_111 (by decide) ?_
                exact fin _ _ _ S ew
              · refine z_if_eq (tgt := 109) dL_grouped_99 (by decide) (fun q => absurd q (((fun w => z0 ((nI_eq (b := 0) (by omega) (by decide)).mp w))))) (fun _ => ?_)
                refine z_iload dL_grouped_102 rfl ?_
                refine z_iload dL_grouped_104 rfl ?_
                by_cases z1 : s.2 < q.2
                · have ew : q.2 = (zgs 2 s q.2).2 := by show q.2 = if s.1 = 0 ∨ s.2 < q.2 then q.2 else s.2; rw [if_pos (Or.inr z1)]
                  refine z_icmp_le (tgt := 114) dL_grouped_106 (by decide) (fun q => absurd q ((Int32.not_le.mpr z1))) (fun _ => ?_)
                  refine z_iload dL_grouped_109 rfl ?_
                  refine z_goto (tgt := 116) dL_grouped_111 (by decide) ?_
                  exact fin _ _ _ S ew
                · have ew : s.2 = (zgs 2 s q.2).2 := by show s.2 = if s.1 = 0 ∨ s.2 < q.2 then q.2 else s.2; rw [if_neg (fun w => w.elim z0 z1)]
                  refine z_icmp_le (tgt := 114) dL_grouped_106 (by decide) (fun _ => ?_) (fun q => absurd ((Int32.not_lt.mp z1)) q)
                  refine z_iload dL_grouped_114 rfl ?_
                  exact fin _ _ _ S ew
            · subst g
              refine z_if_ne (tgt := 70) dL_grouped_59 (by decide) (fun _ => ?_) (fun q => absurd q (((by decide))))
              refine z_iload_n dL_grouped_70 rfl ?_
              refine z_iconst (v := 1) dL_grouped_71 (by decide) ?_
              refine z_icmp_ne (tgt := 97) dL_grouped_72 (by decide) (fun _ => ?_) (fun q => absurd q (((by decide))))
              refine z_iload dL_grouped_97 rfl ?_
              by_cases z0 : s.1 = 0
              · have ew : q.2 = (zgs 3 s q.2).2 := by show q.2 = if s.1 = 0 ∨ s.2 < q.2 then q.2 else s.2; rw [if_pos (Or.inl z0)]
                refine z_if_eq (tgt := 109) dL_grouped_99 (by decide) (fun _ => ?_) (fun q => absurd (((by rw [z0]; rfl))) q)
                refine z_iload dL_grouped_109 rfl ?_
                refine z_goto (tgt := 116) dL_grouped_111 (by decide) ?_
                exact fin _ _ _ S ew
              · refine z_if_eq (tgt := 109) dL_grouped_99 (by decide) (fun q => absurd q (((fun w => z0 ((nI_eq (b := 0) (by omega) (by decide)).mp w))))) (fun _ => ?_)
                refine z_iload dL_grouped_102 rfl ?_
                refine z_iload dL_grouped_104 rfl ?_
                by_cases z1 : s.2 < q.2
                · have ew : q.2 = (zgs 3 s q.2).2 := by show q.2 = if s.1 = 0 ∨ s.2 < q.2 then q.2 else s.2; rw [if_pos (Or.inr z1)]
                  refine z_icmp_le (tgt := 114) dL_grouped_106 (by decide) (fun q => absurd q ((Int32.not_le.mpr z1))) (fun _ => ?_)
                  refine z_iload dL_grouped_109 rfl ?_
                  refine z_goto (tgt := 116) dL_grouped_111 (by decide) ?_
                  exact fin _ _ _ S ew
                · have ew : s.2 = (zgs 3 s q.2).2 := by show s.2 = if s.1 = 0 ∨ s.2 < q.2 then q.2 else s.2; rw [if_neg (fun w => w.elim z0 z1)]
                  refine z_icmp_le (tgt := 114) dL_grouped_106 (by decide) (fun _ => ?_) (fun q => absurd ((Int32.not_lt.mp z1)) q)
                  refine z_iload dL_grouped_114 rfl ?_
                  exact fin _ _ _ S ew
          · rw [zgf_n c, ← hs2] at nxt
            refine z_iload dL_grouped_22 rfl ?_
            refine z_aload_n dL_grouped_24 rfl ?_
            refine z_iload_n dL_grouped_25 rfl ?_
            refine z_iload dL_grouped_26 rfl ?_
            refine z_callV dL_grouped_28 cv0_L_61 (q_rowsIn hG S hi (by rw [← hP]; exact hpl)) rfl S.c rfl rfl ⟨(Nat.le_of_ble_eq_true rfl), (Nat.le_of_ble_eq_true rfl)⟩ (Nat.le_of_ble_eq_true rfl) (Nat.le_of_ble_eq_true rfl) (Nat.le_of_ble_eq_true rfl) (fun v σ1 nx1 hx1 hq1 => ?_)
            obtain ⟨rfl, S, rfl⟩ := hq1
            rw [← hP]
            refine z_icmp_ge (tgt := 127) dL_grouped_31 (by decide) (fun q => absurd q ((nI_ge hjl (by omega)))) (fun _ => ?_)
            refine z_aload_n dL_grouped_34 rfl ?_
            refine z_iload_n dL_grouped_35 rfl ?_
            refine z_iload dL_grouped_36 rfl ?_
            refine z_iload dL_grouped_38 rfl ?_
            refine z_callV dL_grouped_40 cv0_L_67 (q_keyAt hG S hi (by rw [← hP]; exact hpl) (by rw [← hP]; exact hjl)) rfl S.c rfl rfl ⟨(Nat.le_of_ble_eq_true rfl), (Nat.le_of_ble_eq_true rfl)⟩ (Nat.le_of_ble_eq_true rfl) (Nat.le_of_ble_eq_true rfl) (Nat.le_of_ble_eq_true rfl) (fun v σ1 nx1 hx1 hq1 => ?_)
            obtain ⟨rfl, S, rfl⟩ := hq1
            rw [← hP, ← hq]
            refine z_iload_n dL_grouped_43 rfl ?_
            refine z_icmp_ne (tgt := 121) dL_grouped_44 (by decide) (fun _ => ?_) (fun q => absurd q ((c)))
            refine z_inc1 dL_grouped_121 rfl (by decide) ?_
            rw [nI_1]
            refine z_goto (tgt := 22) dL_grouped_124 (by decide) ?_
            exact nxt _ _ (by omega) S
      refine z_iload dL_grouped_9 rfl ?_
      refine z_aload_n dL_grouped_11 rfl ?_
      refine z_iload_n dL_grouped_12 rfl ?_
      refine z_callV dL_grouped_13 cv0_L_58 (q_partitions hG S hi) rfl S.c rfl rfl ⟨(Nat.le_of_ble_eq_true rfl), (Nat.le_of_ble_eq_true rfl)⟩ (Nat.le_of_ble_eq_true rfl) (Nat.le_of_ble_eq_true rfl) (Nat.le_of_ble_eq_true rfl) (fun v σ1 nx1 hx1 hq1 => ?_)
      obtain ⟨rfl, S, rfl⟩ := hq1
      rw [← hP]
      refine z_icmp_ge (tgt := 133) dL_grouped_16 (by decide) (fun q => absurd q ((nI_ge hpl (by omega)))) (fun _ => ?_)
      refine z_iconst (v := 0) dL_grouped_19 (by decide) ?_
      refine z_istore dL_grouped_20 (by decide) ?_
      exact inner _ 0 _ _ (Nat.zero_add _) S
  refine z_iconst (v := 0) dL_grouped_0 (by decide) ?_
  refine z_istore dL_grouped_1 (by decide) ?_
  refine z_iconst (v := 0) dL_grouped_3 (by decide) ?_
  refine z_istore dL_grouped_4 (by decide) ?_
  refine z_iconst (v := 0) dL_grouped_6 (by decide) ?_
  refine z_istore dL_grouped_7 (by decide) ?_
  exact outer _ 0 _ _ _ (Nat.zero_add _) S
end
