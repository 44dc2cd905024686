-- model
/-! the model: put, mark, settings, the latest run -/
def zk_node (n : Nat) (x : Int32) : Nat := if znob n x = true then 1 else 0
def zk_work (x : Int32) : Nat := if x < 1 ∨ 4 < x then 1 else 0
def zk_slow (x y : Int32) : Nat := if x < 0 ∨ 4 ≤ x then 1 else if y < 1 ∨ 9 < y then 2 else 0
def zk_1000 (x : Int32) : Nat := if x < 0 ∨ 1000 < x then 1 else 0
def zput (nt : zNT) (i : Nat) (q : Int32 × Int32) : zNT := nt.set i ((nt.getD i zdf).1, (nt.getD i zdf).2.1, (nt.getD i zdf).2.2.1, (nt.getD i zdf).2.2.2 ++ [q])
def zmark (nt : zNT) (i : Nat) (b : Int32) : zNT := nt.set i ((nt.getD i zdf).1, (nt.getD i zdf).2.1, upd (nt.getD i zdf).2.2.1 11 b, (nt.getD i zdf).2.2.2)
section
variable {nt : zNT} {S S' : zMS}
theorem zrN.set {i : Nat} {e' : zNX} (h : zrN S nt) (hi : i < nt.length) (h0 : S'.1 0 = S.1 0) (hold : ∀ (k : Nat) (e : zNX), k ≠ i → k < nt.length → nt[k]? = some e → zrE S k e → zrE S' k e) (hnew : zrE S' i e') (hz : ∀ k, k ≠ i → S'.2 9 k = S.2 9 k ∧ S'.2 17 k = S.2 17 k) : zrN S' (nt.set i e') := by
  refine ⟨by rw [List.length_set]; exact h0.trans h.1, by rw [List.length_set]; exact h.2.1, fun k e he => ?_, fun k a b => ?_⟩
  · by_cases c : k = i
    · subst c
      rw [List.getElem?_set_self hi] at he
      cases he
      exact hnew
    · rw [List.getElem?_set_ne (Ne.symm c)] at he
      exact hold k e c (zR_lt he) he (h.2.2.1 k e he)
  · rw [List.length_set] at a
    obtain ⟨c, d⟩ := hz k (by omega)
    rw [c, d]
    exact h.2.2.2 k a b
end
section
variable {G : zG} {m : Nat} {nt : zNT} {lim mem wk r tk sp cs un : Nat} {slow : Nat → Nat} {L : zNS} {A : List zAE} {S : zMS}
theorem zrC_nil {S' : zMS} (h : zrC S L un) (h1 : S'.1 6 = S.1 6) (hA : ∀ k, k < 14 → S'.2 18 k = 0) : zrC S' [] un := ⟨fun k hk => hA k hk, h1.trans h.2.1, fun _ => 0, fun i q z => by simp at z, fun i j a b _ z => by simp at z⟩
set_option maxRecDepth 100000 in
theorem c_m_put {x y z : Int32} (hw : zWf nt) (h : zrM S nt lim mem wk slow r L A tk sp cs un) : zMN G yX12_put kX12_put m [.int x, .int y, .int z] S (fun v S' => zQm v S' (zk_put nt x) (v = some (.int (nI ((nt.getD x.toNatClampNeg zdf).2.2.2.length + 1))) ∧ zrM S' (zput nt x.toNatClampNeg (y, z)) lim mem wk slow r [] A tk sp cs un) (zrM S' nt lim mem wk slow r L A tk sp cs un)) := by
  refine zMN.of (ls := [some (.ref m), some (.int x), some (.int y), some (.int z)]) (by decide +kernel) ⟨rfl, rfl, rfl⟩ (Nat.le_of_ble_eq_true rfl) (fun _ h => h) fun Q hQ => ?_
  have hn := h.1.1
  have h14 := h.1.2.1
  have bad : ∀ c, 0 < c → c < 9 → zk_put nt x = c → zNW G kX12_put m Q 38 [some (.ref m), some (.int x), some (.int y), some (.int z)] [.int (nI c), .ref m] S := by
    intro c c0 c9 hc
    refine n_call dX12_put_38 cv_X12_130 c_fails rfl rfl rfl ⟨(Nat.le_of_ble_eq_true rfl), (Nat.le_of_ble_eq_true rfl)⟩ rfl rfl (Nat.le_of_ble_eq_true rfl) (fun v S1 hq1 => ?_)
    obtain ⟨rfl, rfl⟩ := hq1
    rw [if_pos (show (0 : Int32) < nI c from nI_lt (a := 0) c0 (by omega))]
    refine n_if_eq (tgt := 46) dX12_put_41 (by decide) (fun q => absurd q ((by decide))) (fun _ => ?_)
    refine n_iconst (v := (nI 0)) dX12_put_44 (by decide) ?_
    exact n_iret dX12_put_45 rfl (hQ _ _ (zQm.bad zSF_s hc (by omega) h.thr))
  refine n_aload_n dX12_put_0 rfl ?_
  refine n_aload_n dX12_put_1 rfl ?_
  refine n_iload_n dX12_put_2 rfl ?_
  refine n_call dX12_put_3 cv_X12_138 (c_is hn) rfl rfl rfl ⟨(Nat.le_of_ble_eq_true rfl), (Nat.le_of_ble_eq_true rfl)⟩ rfl rfl (Nat.le_of_ble_eq_true rfl) (fun v S1 hq1 => ?_)
  obtain ⟨rfl, hS⟩ := hq1
  subst hS
  by_cases c1 : zis nt.length x
  · rw [zif_t c1]
    obtain ⟨i, hi, rfl⟩ := zis_of (by omega) c1
    have hg : nt[i]? = some (nt[i]'hi) := List.getElem?_eq_getElem _
    have hk : zk_put nt (nI i) = if (nt.getD i zdf).2.1 ≠ 0 ∨ 12 ≤ (nt.getD i zdf).2.2.2.length then 2 else 0 := by rw [zk_put, if_neg (by rw [znob_f.mpr c1]; decide), nI_clamp (by omega)]
    rw [nI_clamp (by omega)] at hQ
    have hE := zrE_of h hi
    have hwi := hw i _ hg
    rw [← zget_at hg] at hwi
    obtain ⟨f0, s0, p0, k6, -, -, -, -, -, -, hR, -⟩ := hwi
    unfold zput at hQ
    generalize hee : nt.getD i zdf = e at *
    obtain ⟨en, ek, eD, eR⟩ := e
    simp only at *
    have hE' := hE
    unfold zrE at hE'
    simp only at hE'
    obtain ⟨x1, x2, x3, x4, x5, x6, x7, x8, x9, x10, x11, x12, x13⟩ := hE'
    refine n_if_ne (tgt := 13) dX12_put_6 (by decide) (fun _ => ?_) (fun q => absurd q ((by decide)))
    refine n_aload_n dX12_put_13 rfl ?_
    refine n_get dX12_put_14 fl_X12_7 rfl ?_
    refine n_iload_n dX12_put_17 rfl ?_
    refine n_iald (j := 0) dX12_put_18 (by decide) rfl rfl (show _ < 14 by omega) x1 ?_
    have two : (ek ≠ 0 ∨ 12 ≤ eR.length) → zNW G kX12_put m Q 33 [some (.ref m), some (.int (nI i)), some (.int y), some (.int z)] [.ref m] S1 := by
      intro q
      refine n_iconst (v := (nI 2)) dX12_put_33 (by decide) ?_
      refine n_goto (tgt := 38) dX12_put_34 (by decide) ?_
      exact bad 2 (by decide) (by decide) (by rw [hk, if_pos q])
    refine n_if_ne (tgt := 33) dX12_put_19 (by decide) (fun h19 => ?_) (fun h19 => ?_)
    · exact two (Or.inl fun q => h19 (by rw [q]; rfl))
    · have e0 : ek = 0 := (nI_eq (b := 0) (by omega) (by decide)).mp h19
      subst e0
      have hR' := hR rfl
      refine n_aload_n dX12_put_22 rfl ?_
      refine n_get dX12_put_23 fl_X12_37 rfl ?_
      refine n_iload_n dX12_put_26 rfl ?_
      refine n_iald (j := 9) dX12_put_27 (by decide) rfl rfl (show _ < 14 by omega) x10 ?_
      refine n_bipush (v := (nI 12)) dX12_put_28 (by decide) ?_
      refine n_icmp_ne (tgt := 37) dX12_put_30 (by decide) (fun h30 => ?_) (fun h30 => ?_)
      · have hlt : eR.length < 12 := Nat.lt_of_le_of_ne hR' fun q => h30 (by rw [q])
        refine n_iconst (v := (nI 0)) dX12_put_37 (by decide) ?_
        refine n_call dX12_put_38 cv_X12_130 c_fails rfl rfl rfl ⟨(Nat.le_of_ble_eq_true rfl), (Nat.le_of_ble_eq_true rfl)⟩ rfl rfl (Nat.le_of_ble_eq_true rfl) (fun v S2 hq2 => ?_)
        obtain ⟨rfl, rfl⟩ := hq2
        refine n_if_eq (tgt := 46) dX12_put_41 (by decide) (fun _ => ?_) (fun q => absurd (rfl) q)
        refine n_aload_n dX12_put_46 rfl ?_
        refine n_get dX12_put_47 fl_X12_40 rfl ?_
        refine n_bipush (v := (nI 12)) dX12_put_50 (by decide) ?_
        refine n_iload_n dX12_put_52 rfl ?_
        refine n_imul dX12_put_53 ?_
        rw [pk_mul]
        refine n_aload_n dX12_put_54 rfl ?_
        refine n_get dX12_put_55 fl_X12_37 rfl ?_
        refine n_iload_n dX12_put_58 rfl ?_
        refine n_iald (j := 9) dX12_put_59 (by decide) rfl rfl (show _ < 14 by omega) x10 ?_
        refine n_iadd dX12_put_60 ?_
        rw [nI_add]
        refine n_iload_n dX12_put_61 rfl ?_
        refine n_iast (j := 10) dX12_put_62 (by decide) rfl rfl (show _ < 168 by omega) ?_
        refine n_aload_n dX12_put_63 rfl ?_
        refine n_get dX12_put_64 fl_X12_43 rfl ?_
        refine n_bipush (v := (nI 12)) dX12_put_67 (by decide) ?_
        refine n_iload_n dX12_put_69 rfl ?_
        refine n_imul dX12_put_70 ?_
        rw [pk_mul]
        refine n_aload_n dX12_put_71 rfl ?_
        refine n_get dX12_put_72 fl_X12_37 rfl ?_
        refine n_iload_n dX12_put_75 rfl ?_
        refine n_iald (j := 9) dX12_put_76 (by decide) rfl rfl (show _ < 14 by omega) x10 ?_
        refine n_iadd dX12_put_77 ?_
        rw [nI_add]
        refine n_iload_n dX12_put_78 rfl ?_
        refine n_iast (j := 11) dX12_put_79 (by decide) rfl rfl (show _ < 168 by omega) ?_
        refine n_aload_n dX12_put_80 rfl ?_
        refine n_get dX12_put_81 fl_X12_37 rfl ?_
        refine n_iload_n dX12_put_84 rfl ?_
        refine n_dup2 dX12_put_85 rfl rfl ?_
        refine n_iald (j := 9) dX12_put_86 (by decide) rfl rfl (show _ < 14 by omega) x10 ?_
        refine n_iconst (v := (nI 1)) dX12_put_87 (by decide) ?_
        refine n_iadd dX12_put_88 ?_
        rw [nI_add]
        refine n_iast (j := 9) dX12_put_89 (by decide) rfl rfl (show _ < 14 by omega) ?_
        refine n_aload_n dX12_put_90 rfl ?_
        refine n_call dX12_put_91 cv_X12_141 c_empties rfl rfl rfl ⟨(Nat.le_of_ble_eq_true rfl), (Nat.le_of_ble_eq_true rfl)⟩ rfl rfl (Nat.le_of_ble_eq_true rfl) (fun v S3 hq3 => ?_)
        obtain ⟨rfl, g1', g2, g3⟩ := hq3
        have g1 : S3.1 = upd (upd S1.1 11 (nI 0)) 1 0 := g1'
        refine n_aload_n dX12_put_94 rfl ?_
        refine n_get dX12_put_95 fl_X12_37 rfl ?_
        refine n_iload_n dX12_put_98 rfl ?_
        have p9 : S3.2 9 i = nI (eR.length + 1) := by rw [g3 9 (by decide)]; exact zSTs
        refine n_iald (j := 9) dX12_put_99 (by decide) rfl rfl (show _ < 14 by omega) p9 ?_
        have ga : ∀ j, j ≠ 9 → j ≠ 10 → j ≠ 11 → j ≠ 18 → S3.2 j = S1.2 j := fun j q1 q2 q3 q4 => by rw [g3 j q4, zST_n _ _ _ q1, zST_n _ _ _ q3, zST_n _ _ _ q2]; rfl
        have gs : ∀ j, 2 ≤ j → j < 11 → S3.1 j = S1.1 j := fun j q1 q2 => by rw [g1, pk_un (by omega), pk_un (by omega)]
        have g9 : ∀ k, k ≠ i → S3.2 9 k = S1.2 9 k := fun k hk => by rw [g3 9 (by decide), zSTi hk, zST_n _ _ _ (by decide), zST_n _ _ _ (by decide)]; rfl
        have g10 : S3.2 10 = upd (S1.2 10) (12 * i + eR.length) y := by rw [g3 10 (by decide), zST_n _ _ _ (by decide), zST_n _ _ _ (by decide), zST_j]; rfl
        have g11 : S3.2 11 = upd (S1.2 11) (12 * i + eR.length) z := by rw [g3 11 (by decide), zST_n _ _ _ (by decide), zST_j, zST_n _ _ _ (by decide)]; rfl
        refine n_iret dX12_put_100 rfl (hQ _ _ (zQm.ok ?_ (by rw [hk, if_neg (by omega)]) ⟨rfl, ?_, ?_, ?_, ?_, ?_⟩))
        · rw [g1, pk_un (by decide)]; exact pk_us
        · refine h.1.set hi (by rw [g1, pk_un (by decide), pk_un (by decide)]) (fun k e hki hkl hke hk2 => ?_) ?_ (fun k hki => ⟨g9 k hki, by rw [ga 17 (by decide) (by decide) (by decide) (by decide)]⟩)
          · have hl : e.2.2.2.length ≤ 12 := by
              obtain ⟨f1, s1, p1, -, -, -, -, -, -, -, hA, hB, -⟩ := hw k e hke
              by_cases q : e.2.1 = 0
              · exact hA q
              · rw [hB q]; exact Nat.zero_le _
            unfold zrE at hk2 ⊢
            rw [ga 0 (by decide) (by decide) (by decide) (by decide), ga 1 (by decide) (by decide) (by decide) (by decide), ga 2 (by decide) (by decide) (by decide) (by decide), ga 3 (by decide) (by decide) (by decide) (by decide), ga 4 (by decide) (by decide) (by decide) (by decide), ga 5 (by decide) (by decide) (by decide) (by decide), ga 6 (by decide) (by decide) (by decide) (by decide), ga 7 (by decide) (by decide) (by decide) (by decide), ga 8 (by decide) (by decide) (by decide) (by decide), g9 k hki, ga 17 (by decide) (by decide) (by decide) (by decide), g10, g11]
            refine ⟨hk2.1, hk2.2.1, hk2.2.2.1, hk2.2.2.2.1, hk2.2.2.2.2.1, hk2.2.2.2.2.2.1, hk2.2.2.2.2.2.2.1, hk2.2.2.2.2.2.2.2.1, hk2.2.2.2.2.2.2.2.2.1, hk2.2.2.2.2.2.2.2.2.2.1, fun n q hq => ?_, hk2.2.2.2.2.2.2.2.2.2.2.2⟩
            have := zR_lt hq
            rw [pk_un (by omega), pk_un (by omega)]
            exact hk2.2.2.2.2.2.2.2.2.2.2.1 n q hq
          · unfold zrE
            rw [ga 0 (by decide) (by decide) (by decide) (by decide), ga 1 (by decide) (by decide) (by decide) (by decide), ga 2 (by decide) (by decide) (by decide) (by decide), ga 3 (by decide) (by decide) (by decide) (by decide), ga 4 (by decide) (by decide) (by decide) (by decide), ga 5 (by decide) (by decide) (by decide) (by decide), ga 6 (by decide) (by decide) (by decide) (by decide), ga 7 (by decide) (by decide) (by decide) (by decide), ga 8 (by decide) (by decide) (by decide) (by decide), p9, ga 17 (by decide) (by decide) (by decide) (by decide), g10, g11]
            refine ⟨x1, x2, x3, x4, x5, x6, x7, x8, x9, by rw [List.length_append]; rfl, fun n q hq => ?_, x12, x13⟩
            by_cases hn2 : n < eR.length
            · rw [List.getElem?_append_left hn2] at hq
              rw [pk_un (by omega), pk_un (by omega)]
              exact x11 n q hq
            · have hl2 := zR_lt hq
              rw [List.length_append] at hl2
              have en2 : n = eR.length := by simp at hl2; omega
              subst en2
              rw [List.getElem?_append_right (Nat.le_refl _), Nat.sub_self] at hq
              cases hq
              exact ⟨pk_us, pk_us⟩
        · exact ⟨Or.inl (by rw [g1]; exact pk_us), fun q => absurd ((by rw [g1]; exact pk_us : S3.1 1 = 0).symm.trans q) (by decide)⟩
        · exact h.2.2.1.cg (fun j a b => gs j a (by omega)) (ga 16 (by decide) (by decide) (by decide) (by decide))
        · exact zrC_nil h.2.2.2.1 (gs 6 (by decide) (by decide)) g2
        · exact h.2.2.2.2.cg (fun j a b => gs j (by omega) b) fun j a b => ga j (by omega) (by omega) (by omega) (by omega)
      · exact two (Or.inr (by have := (nI_eq (b := 12) (by omega) (by decide)).mp h30; omega))
  · rw [zif_f c1]
    refine n_if_ne (tgt := 13) dX12_put_6 (by decide) (fun q => absurd (rfl) q) (fun _ => ?_)
    refine n_iconst (v := (nI 1)) dX12_put_9 (by decide) ?_
    refine n_goto (tgt := 38) dX12_put_10 (by decide) ?_
    exact bad 1 (by decide) (by decide) (by rw [zk_put, if_pos (znob_t.mpr c1)])
set_option maxRecDepth 100000 in
theorem c_m_nodes (h : zrM S nt lim mem wk slow r L A tk sp cs un) : zMN G yX12_nodes kX12_nodes m [] S (fun v S' => v = some (.int (nI nt.length)) ∧ zrM S' nt lim mem wk slow r L A tk sp cs un) := by
  refine zMN.of (ls := [some (.ref m)]) (by decide +kernel) ⟨rfl, rfl, rfl⟩ (Nat.le_of_ble_eq_true rfl) (fun _ h => h) fun Q hQ => ?_
  refine n_aload_n dX12_nodes_0 rfl ?_
  refine n_aload_n dX12_nodes_1 rfl ?_
  refine n_getE dX12_nodes_2 fl_X12_123 rfl (h.1.1) ?_
  refine n_call dX12_nodes_5 cv_X12_144 c_tells rfl rfl rfl ⟨(Nat.le_of_ble_eq_true rfl), (Nat.le_of_ble_eq_true rfl)⟩ rfl rfl (Nat.le_of_ble_eq_true rfl) (fun v S1 hq1 => ?_)
  obtain ⟨rfl, rfl⟩ := hq1
  exact n_iret dX12_nodes_8 rfl (hQ _ _ ⟨rfl, h.thr⟩)
set_option maxRecDepth 100000 in
theorem c_m_ticks (h : zrM S nt lim mem wk slow r L A tk sp cs un) : zMN G yX12_ticks kX12_ticks m [] S (fun v S' => v = some (.int (nI tk)) ∧ zrM S' nt lim mem wk slow r L A tk sp cs un) := by
  refine zMN.of (ls := [some (.ref m)]) (by decide +kernel) ⟨rfl, rfl, rfl⟩ (Nat.le_of_ble_eq_true rfl) (fun _ h => h) fun Q hQ => ?_
  refine n_aload_n dX12_ticks_0 rfl ?_
  refine n_aload_n dX12_ticks_1 rfl ?_
  refine n_getE dX12_ticks_2 fl_X12_258 rfl (h.2.2.2.2.1) ?_
  refine n_call dX12_ticks_5 cv_X12_144 c_tells rfl rfl rfl ⟨(Nat.le_of_ble_eq_true rfl), (Nat.le_of_ble_eq_true rfl)⟩ rfl rfl (Nat.le_of_ble_eq_true rfl) (fun v S1 hq1 => ?_)
  obtain ⟨rfl, rfl⟩ := hq1
  exact n_iret dX12_ticks_8 rfl (hQ _ _ ⟨rfl, h.thr⟩)
set_option maxRecDepth 100000 in
theorem c_m_spilled (h : zrM S nt lim mem wk slow r L A tk sp cs un) : zMN G yX12_spilled kX12_spilled m [] S (fun v S' => v = some (.int (nI sp)) ∧ zrM S' nt lim mem wk slow r L A tk sp cs un) := by
  refine zMN.of (ls := [some (.ref m)]) (by decide +kernel) ⟨rfl, rfl, rfl⟩ (Nat.le_of_ble_eq_true rfl) (fun _ h => h) fun Q hQ => ?_
  refine n_aload_n dX12_spilled_0 rfl ?_
  refine n_aload_n dX12_spilled_1 rfl ?_
  refine n_getE dX12_spilled_2 fl_X12_248 rfl (h.2.2.2.2.2.1) ?_
  refine n_call dX12_spilled_5 cv_X12_144 c_tells rfl rfl rfl ⟨(Nat.le_of_ble_eq_true rfl), (Nat.le_of_ble_eq_true rfl)⟩ rfl rfl (Nat.le_of_ble_eq_true rfl) (fun v S1 hq1 => ?_)
  obtain ⟨rfl, rfl⟩ := hq1
  exact n_iret dX12_spilled_8 rfl (hQ _ _ ⟨rfl, h.thr⟩)
set_option maxRecDepth 100000 in
theorem c_m_attempts (h : zrM S nt lim mem wk slow r L A tk sp cs un) : zMN G yX12_attempts kX12_attempts m [] S (fun v S' => v = some (.int (nI A.length)) ∧ zrM S' nt lim mem wk slow r L A tk sp cs un) := by
  refine zMN.of (ls := [some (.ref m)]) (by decide +kernel) ⟨rfl, rfl, rfl⟩ (Nat.le_of_ble_eq_true rfl) (fun _ h => h) fun Q hQ => ?_
  refine n_aload_n dX12_attempts_0 rfl ?_
  refine n_aload_n dX12_attempts_1 rfl ?_
  refine n_getE dX12_attempts_2 fl_X12_238 rfl (h.2.2.2.2.2.2.2.1) ?_
  refine n_call dX12_attempts_5 cv_X12_144 c_tells rfl rfl rfl ⟨(Nat.le_of_ble_eq_true rfl), (Nat.le_of_ble_eq_true rfl)⟩ rfl rfl (Nat.le_of_ble_eq_true rfl) (fun v S1 hq1 => ?_)
  obtain ⟨rfl, rfl⟩ := hq1
  exact n_iret dX12_attempts_8 rfl (hQ _ _ ⟨rfl, h.thr⟩)
set_option maxRecDepth 100000 in
theorem c_m_setMemory {x : Int32} (h : zrM S nt lim mem wk slow r L A tk sp cs un) : zMN G yX12_setMemory kX12_setMemory m [.int x] S (fun v S' => zQm v S' (zk_1000 x) (v = some (.int (nI mem)) ∧ zrM S' nt lim x.toNatClampNeg wk slow r L A tk sp cs un) (zrM S' nt lim mem wk slow r L A tk sp cs un)) := by
  refine zMN.of (ls := [some (.ref m), some (.int x), none]) (by decide +kernel) ⟨rfl, rfl, rfl⟩ (Nat.le_of_ble_eq_true rfl) (fun _ h => h) fun Q hQ => ?_
  have bad : (x < 0 ∨ 1000 < x) → zNW G kX12_setMemory m Q 12 [some (.ref m), some (.int x), none] [.ref m] S := by
    intro q
    refine n_iconst (v := (nI 1)) dX12_setMemory_12 (by decide) ?_
    refine n_goto (tgt := 17) dX12_setMemory_13 (by decide) ?_
    refine n_call dX12_setMemory_17 cv_X12_130 c_fails rfl rfl rfl ⟨(Nat.le_of_ble_eq_true rfl), (Nat.le_of_ble_eq_true rfl)⟩ rfl rfl (Nat.le_of_ble_eq_true rfl) (fun v S1 hq1 => ?_)
    obtain ⟨rfl, rfl⟩ := hq1
    refine n_if_eq (tgt := 25) dX12_setMemory_20 (by decide) (fun q => absurd q ((by decide))) (fun _ => ?_)
    refine n_iconst (v := (nI 0)) dX12_setMemory_23 (by decide) ?_
    exact n_iret dX12_setMemory_24 rfl (hQ _ _ (zQm.bad (c' := 1) zSF_s (by rw [zk_1000, if_pos q]) (by decide) h.thr))
  refine n_aload_n dX12_setMemory_0 rfl ?_
  refine n_iload_n dX12_setMemory_1 rfl ?_
  refine n_if_lt (tgt := 12) dX12_setMemory_2 (by decide) (fun h2 => ?_) (fun h2 => ?_)
  · exact bad (Or.inl h2)
  · refine n_iload_n dX12_setMemory_5 rfl ?_
    refine n_sipush (v := (nI 1000)) dX12_setMemory_6 (by decide) ?_
    refine n_icmp_le (tgt := 16) dX12_setMemory_9 (by decide) (fun h9 => ?_) (fun h9 => ?_)
    · obtain ⟨p, hp, rfl⟩ := nI_of h2
      rw [nI_clamp hp] at hQ
      refine n_iconst (v := (nI 0)) dX12_setMemory_16 (by decide) ?_
      refine n_call dX12_setMemory_17 cv_X12_130 c_fails rfl rfl rfl ⟨(Nat.le_of_ble_eq_true rfl), (Nat.le_of_ble_eq_true rfl)⟩ rfl rfl (Nat.le_of_ble_eq_true rfl) (fun v S1 hq1 => ?_)
      obtain ⟨rfl, rfl⟩ := hq1
      refine n_if_eq (tgt := 25) dX12_setMemory_20 (by decide) (fun _ => ?_) (fun q => absurd (rfl) q)
      refine n_aload_n dX12_setMemory_25 rfl ?_
      refine n_getE dX12_setMemory_26 fl_X12_62 rfl (h.2.2.1.2.1) ?_
      refine n_istore_n dX12_setMemory_29 (by decide) ?_
      refine n_aload_n dX12_setMemory_30 rfl ?_
      refine n_iload_n dX12_setMemory_31 rfl ?_
      refine n_put (j := 3) dX12_setMemory_32 fp_X12_62 (zMFs3 _ _ _) rfl rfl (Nat.le_of_ble_eq_true rfl) ?_
      refine n_iload_n dX12_setMemory_35 rfl ?_
      have hc : zk_1000 (nI p) = 0 := by rw [zk_1000]; exact if_neg (by rintro (q | q); exact h2 q; exact absurd q (Int32.not_lt.mpr h9))
      exact n_iret dX12_setMemory_36 rfl (hQ _ _ (zQm.ok (by rw [zSF_n (by decide)]; exact zSF_s) hc ⟨rfl, h.1.cg rfl fun _ _ => rfl, h.2.1.cg rfl fun _ _ _ => rfl, ⟨h.2.2.1.1, zSF_s, h.2.2.1.2.2⟩, h.2.2.2.1.cg rfl rfl rfl, h.2.2.2.2.cg (fun j a b => by rw [zSF_n (by omega), zSF_n (by omega)]) fun _ _ _ => rfl⟩))
    · exact bad (Or.inr (Int32.not_le.mp h9))
set_option maxRecDepth 100000 in
theorem c_m_setWorkers {x : Int32} (h : zrM S nt lim mem wk slow r L A tk sp cs un) : zMN G yX12_setWorkers kX12_setWorkers m [.int x] S (fun v S' => zQm v S' (zk_work x) (v = some (.int (nI wk)) ∧ zrM S' nt lim mem x.toNatClampNeg slow r L A tk sp cs un) (zrM S' nt lim mem wk slow r L A tk sp cs un)) := by
  refine zMN.of (ls := [some (.ref m), some (.int x), none]) (by decide +kernel) ⟨rfl, rfl, rfl⟩ (Nat.le_of_ble_eq_true rfl) (fun _ h => h) fun Q hQ => ?_
  have bad : (x < 1 ∨ 4 < x) → zNW G kX12_setWorkers m Q 11 [some (.ref m), some (.int x), none] [.ref m] S := by
    intro q
    refine n_iconst (v := (nI 1)) dX12_setWorkers_11 (by decide) ?_
    refine n_goto (tgt := 16) dX12_setWorkers_12 (by decide) ?_
    refine n_call dX12_setWorkers_16 cv_X12_130 c_fails rfl rfl rfl ⟨(Nat.le_of_ble_eq_true rfl), (Nat.le_of_ble_eq_true rfl)⟩ rfl rfl (Nat.le_of_ble_eq_true rfl) (fun v S1 hq1 => ?_)
    obtain ⟨rfl, rfl⟩ := hq1
    refine n_if_eq (tgt := 24) dX12_setWorkers_19 (by decide) (fun q => absurd q ((by decide))) (fun _ => ?_)
    refine n_iconst (v := (nI 0)) dX12_setWorkers_22 (by decide) ?_
    exact n_iret dX12_setWorkers_23 rfl (hQ _ _ (zQm.bad (c' := 1) zSF_s (by rw [zk_work, if_pos q]) (by decide) h.thr))
  refine n_aload_n dX12_setWorkers_0 rfl ?_
  refine n_iload_n dX12_setWorkers_1 rfl ?_
  refine n_iconst (v := (nI 1)) dX12_setWorkers_2 (by decide) ?_
  refine n_icmp_lt (tgt := 11) dX12_setWorkers_3 (by decide) (fun h3 => ?_) (fun h3 => ?_)
  · exact bad (Or.inl h3)
  · refine n_iload_n dX12_setWorkers_6 rfl ?_
    refine n_iconst (v := (nI 4)) dX12_setWorkers_7 (by decide) ?_
    refine n_icmp_le (tgt := 15) dX12_setWorkers_8 (by decide) (fun h8 => ?_) (fun h8 => ?_)
    · obtain ⟨p, p1, p2, rfl⟩ := nI_four (n := 4) (by decide) h3 h8
      rw [nI_clamp (by omega)] at hQ
      refine n_iconst (v := (nI 0)) dX12_setWorkers_15 (by decide) ?_
      refine n_call dX12_setWorkers_16 cv_X12_130 c_fails rfl rfl rfl ⟨(Nat.le_of_ble_eq_true rfl), (Nat.le_of_ble_eq_true rfl)⟩ rfl rfl (Nat.le_of_ble_eq_true rfl) (fun v S1 hq1 => ?_)
      obtain ⟨rfl, rfl⟩ := hq1
      refine n_if_eq (tgt := 24) dX12_setWorkers_19 (by decide) (fun _ => ?_) (fun q => absurd (rfl) q)
      refine n_aload_n dX12_setWorkers_24 rfl ?_
      refine n_getE dX12_setWorkers_25 fl_X12_65 rfl (h.2.2.1.2.2.1) ?_
      refine n_istore_n dX12_setWorkers_28 (by decide) ?_
      refine n_aload_n dX12_setWorkers_29 rfl ?_
      refine n_iload_n dX12_setWorkers_30 rfl ?_
      refine n_put (j := 4) dX12_setWorkers_31 fp_X12_65 (zMFs4 _ _ _) rfl rfl (Nat.le_of_ble_eq_true rfl) ?_
      refine n_iload_n dX12_setWorkers_34 rfl ?_
      have hc : zk_work (nI p) = 0 := by rw [zk_work]; exact if_neg (by rintro (q | q); exact h3 q; exact absurd q (Int32.not_lt.mpr h8))
      exact n_iret dX12_setWorkers_35 rfl (hQ _ _ (zQm.ok (by rw [zSF_n (by decide)]; exact zSF_s) hc ⟨rfl, h.1.cg rfl fun _ _ => rfl, h.2.1.cg rfl fun _ _ _ => rfl, ⟨h.2.2.1.1, h.2.2.1.2.1, zSF_s, h.2.2.1.2.2.2⟩, h.2.2.2.1.cg rfl rfl rfl, h.2.2.2.2.cg (fun j a b => by rw [zSF_n (by omega), zSF_n (by omega)]) fun _ _ _ => rfl⟩))
    · exact bad (Or.inr (Int32.not_le.mp h8))
end
