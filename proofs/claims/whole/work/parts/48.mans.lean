-- model
/-! the model: it knows what all nodes hold; answers about it -/
def zHow (nt : zNT) : Prop := ∀ (i : Nat) (e : zNX), nt[i]? = some e → (e.2.1 = 1 → ∃ h, h ≤ 4 ∧ e.2.2.1 7 = nI h) ∧ (e.2.1 = 4 → ∃ h, h ≤ 3 ∧ e.2.2.1 7 = nI h)
section
variable {G : zG} {m : Nat} {nt : zNT} {lim mem wk r tk sp cs un : Nat} {slow : Nat → Nat} {L : zNS} {A : List zAE} {S S' : zMS}
theorem zrM.kn (h : zrM S nt lim mem wk slow r L A tk sp cs un) (h1 : S'.1 = upd S.1 1 1) (h2 : ∀ j, j < 12 ∨ 16 ≤ j → S'.2 j = S.2 j) (h3 : ∀ i, i < nt.length → zmH S' i (zct lim nt i)) : zrM S' nt lim mem wk slow r L A tk sp cs un := by
  have hs : ∀ j, j ≠ 1 → S'.1 j = S.1 j := fun j hj => by rw [h1, pk_un hj]
  exact ⟨h.1.cg (hs 0 (by decide)) fun j hj => h2 j (by omega), ⟨Or.inr (by rw [h1]; exact pk_us), fun _ => h3⟩, h.2.2.1.cg (fun j a b => hs j (by omega)) (h2 16 (by omega)), h.2.2.2.1.cg (hs 6 (by decide)) (h2 18 (by omega)) (h2 19 (by omega)), h.2.2.2.2.cg (fun j a b => hs j (by omega)) fun j a b => h2 j (by omega)⟩
set_option maxRecDepth 100000 in
set_option maxHeartbeats 2000000 in
theorem c_knows (hw : zWf nt) (hh : zHow nt) (hlim : lim ≤ 1000) (h : zrM S nt lim mem wk slow r L A tk sp cs un) : zMN G yX12_knows kX12_knows m [] S (fun v S' => v = none ∧ S'.1 = upd S.1 1 1 ∧ (∀ j, j < 12 ∨ 16 ≤ j → S'.2 j = S.2 j) ∧ ∀ i, i < nt.length → zmH S' i (zct lim nt i)) := by
  refine zMN.of (ls := [some (.ref m), none]) (by decide +kernel) ⟨rfl, rfl, rfl⟩ (Nat.le_of_ble_eq_true rfl) (fun _ h => h) fun Q hQ => ?_
  have hn := h.1.1
  have h14 := h.1.2.1
  have fin : ∀ (S1 : zMS) (x1 : Option Value), S1.1 = S.1 → (∀ j, j < 12 ∨ 16 ≤ j → S1.2 j = S.2 j) → (∀ i, i < nt.length → zmH S1 i (zct lim nt i)) → zNW G kX12_knows m Q 107 [some (.ref m), x1] [] S1 := by
    intro S1 x1 a b c
    refine n_aload_n dX12_knows_107 rfl ?_
    refine n_iconst (v := (nI 1)) dX12_knows_108 (by decide) ?_
    refine n_put (j := 1) dX12_knows_109 fp_X12_126 (zMFs1 _ _ _) rfl rfl (Nat.le_of_ble_eq_true rfl) ?_
    exact n_vret dX12_knows_112 rfl (hQ _ _ ⟨rfl, by rw [← a]; rfl, b, fun i hi => (c i hi).cg fun _ _ _ => rfl⟩)
  rcases h.2.1.1 with k0 | k1
  · have loop : ∀ (d k : Nat) (S1 : zMS), k + d = nt.length → S1.1 = S.1 → (∀ j, j < 12 ∨ 16 ≤ j → S1.2 j = S.2 j) → (∀ i, i < k → zmH S1 i (zct lim nt i)) → zNW G kX12_knows m Q 2 [some (.ref m), some (.int (nI k))] [] S1 := by
      intro d
      induction d with
      | zero =>
        intro k S1 hd a b c
        have e : k = nt.length := by omega
        subst e
        refine n_iload_n dX12_knows_2 rfl ?_
        refine n_aload_n dX12_knows_3 rfl ?_
        refine n_getE dX12_knows_4 fl_X12_123 rfl ((congrFun a 0).trans hn) ?_
        refine n_icmp_ge (tgt := 107) dX12_knows_7 (by decide) (fun _ => ?_) (fun q => absurd ((nI_le (Nat.le_refl _) (by omega))) q)
        exact fin S1 _ a b c
      | succ d ih =>
        intro k S1 hd a b c
        have hkl : k < nt.length := by omega
        have he : nt[k]? = some (nt[k]'hkl) := List.getElem?_eq_getElem _
        generalize nt[k]'hkl = e at he
        have hE := (h.1.2.2.1 k e he).cg (S' := S1) fun j hj => b j (by omega)
        have hle := zct_le (lim := lim) hw h14 hkl
        obtain ⟨f, s, p, k6, -, hf, hf0, hs, hs0, hp, hR, hR0, hcc, -⟩ := hw k e he
        have hcon := zcon_at (ip := false) (lim := lim) he h14 k6 hf hs
        obtain ⟨how1, how4⟩ := hh k e he
        unfold zrE at hE
        obtain ⟨x1, x2, x3, x4, x5, x6, x7, x8, x9, x10, x11, -⟩ := hE
        rw [show zct lim nt k = zcon false lim nt k from rfl, hcon] at hle
        have nxt : ∀ S2 : zMS, zKp S1 S2 k → zmH S2 k (zct lim nt k) → zNW G kX12_knows m Q 101 [some (.ref m), some (.int (nI k))] [] S2 := by
          intro S2 hK hH
          refine n_inc1 dX12_knows_101 rfl (by decide) ?_
          refine n_goto (tgt := 2) dX12_knows_104 (by decide) ?_
          rw [nI_1]
          refine ih (k + 1) S2 (by omega) (hK.1.trans a) (fun j hj => (hK.2.1 j hj).trans (b j hj)) fun i hi => ?_
          by_cases e2 : i = k
          · subst e2; exact hH
          · have hil : i < nt.length := by omega
            have := zct_le (lim := lim) hw h14 hil
            exact hK.H e2 (c i (by omega)) this.2.2 this.1
        have in1 : 1 ≤ e.2.1 → f < 14 ∧ f ≠ k ∧ zmH S1 f (zcon false lim nt f) ∧ (zcon false lim nt f).length ≤ 8 ∧ (zcon false lim nt f).flatten.length ≤ 300 := fun q => by
          have f1 := (hf q).1
          have := zct_le (lim := lim) hw h14 (show f < nt.length by omega)
          exact ⟨by omega, by omega, c f f1, this.2.2, this.1⟩
        have in2 : e.2.1 = 3 ∨ e.2.1 = 5 → s < 14 ∧ s ≠ k ∧ zmH S1 s (zcon false lim nt s) ∧ (zcon false lim nt s).length ≤ 8 ∧ (zcon false lim nt s).flatten.length ≤ 300 := fun q => by
          have f1 := (hs q).1
          have := zct_le (lim := lim) hw h14 (show s < nt.length by omega)
          exact ⟨by omega, by omega, c s f1, this.2.2, this.1⟩
        have hct : zct lim nt k = zcont false lim e.2.1 e.2.2.1 e.2.2.2 (zcon false lim nt f) (zcon false lim nt s) := hcon
        rw [hct] at nxt
        clear hct hcon
        obtain ⟨en, ek, eD, eR⟩ := e
        simp only at *
        generalize zcon false lim nt f = P at *
        generalize zcon false lim nt s = T at *
        unfold zcont at nxt hle
        refine n_iload_n dX12_knows_2 rfl ?_
        refine n_aload_n dX12_knows_3 rfl ?_
        refine n_getE dX12_knows_4 fl_X12_123 rfl ((congrFun a 0).trans hn) ?_
        refine n_icmp_ge (tgt := 107) dX12_knows_7 (by decide) (fun q => absurd q ((nI_ge hkl (by omega)))) (fun _ => ?_)
        refine n_aload_n dX12_knows_10 rfl ?_
        refine n_getE dX12_knows_11 fl_X12_126 rfl ((congrFun a 1).trans k0) ?_
        refine n_if_ne (tgt := 107) dX12_knows_14 (by decide) (fun q => absurd (rfl) q) (fun _ => ?_)
        refine n_aload_n dX12_knows_17 rfl ?_
        refine n_get dX12_knows_18 fl_X12_7 rfl ?_
        refine n_iload_n dX12_knows_21 rfl ?_
        refine n_iald (j := 0) dX12_knows_22 (by decide) rfl rfl (show _ < 14 by omega) x1 ?_
        rcases (show ek = 0 ∨ ek = 1 ∨ ek = 2 ∨ ek = 3 ∨ ek = 4 ∨ ek = 5 by omega) with q | q | q | q | q | q <;> subst q
        · obtain ⟨p1, p2, p3⟩ := hp (Or.inl rfl)
          have etp : ztp false eD = p := by simp only [ztp, Bool.false_eq_true, if_false, p3]; exact nI_clamp (by omega)
          rw [if_pos rfl, etp] at nxt
          refine n_if_ne (tgt := 34) dX12_knows_23 (by decide) (fun q => absurd (rfl) q) (fun _ => ?_)
          refine n_aload_n dX12_knows_26 rfl ?_
          refine n_iload_n dX12_knows_27 rfl ?_
          refine n_call dX12_knows_28 cv_X12_177 (c_holdsSource (p := p) (R := eR) (by omega) ((x7 (Or.inl rfl)).trans p3) p1 (by omega) x10 (hR rfl) x11) rfl rfl rfl ⟨(Nat.le_of_ble_eq_true rfl), (Nat.le_of_ble_eq_true rfl)⟩ rfl rfl (Nat.le_of_ble_eq_true rfl) (fun v S2 hq2 => ?_)
          obtain ⟨rfl, q1, q2⟩ := hq2
          refine n_goto (tgt := 101) dX12_knows_31 (by decide) ?_
          exact nxt S2 q1 q2
        · obtain ⟨a1, a2, a3, a4, a5⟩ := in1 (by decide)
          rw [if_neg (by decide), if_pos rfl] at nxt
          refine n_if_ne (tgt := 34) dX12_knows_23 (by decide) (fun _ => ?_) (fun q => absurd q ((by decide)))
          refine n_aload_n dX12_knows_34 rfl ?_
          refine n_get dX12_knows_35 fl_X12_7 rfl ?_
          refine n_iload_n dX12_knows_38 rfl ?_
          refine n_iald (j := 0) dX12_knows_39 (by decide) rfl rfl (show _ < 14 by omega) x1 ?_
          refine n_iconst (v := (nI 3)) dX12_knows_40 (by decide) ?_
          refine n_icmp_ge (tgt := 52) dX12_knows_41 (by decide) (fun q => absurd q ((by decide))) (fun _ => ?_)
          refine n_aload_n dX12_knows_44 rfl ?_
          refine n_iload_n dX12_knows_45 rfl ?_
          refine n_call dX12_knows_46 cv_X12_181 (c_holdsMapped (k := 1) (D := eD) (by omega) a1 a2 ((x2 (by decide)).trans (hf (by decide)).2) a3 a4 a5 x1 (Or.inl ⟨rfl, rfl, x4 (Or.inl rfl), x5 rfl, how1 rfl, hcc rfl⟩)) rfl rfl rfl ⟨(Nat.le_of_ble_eq_true rfl), (Nat.le_of_ble_eq_true rfl)⟩ rfl rfl (Nat.le_of_ble_eq_true rfl) (fun v S2 hq2 => ?_)
          obtain ⟨rfl, q1, q2⟩ := hq2
          refine n_goto (tgt := 101) dX12_knows_49 (by decide) ?_
          exact nxt S2 q1 q2
        · obtain ⟨a1, a2, a3, a4, a5⟩ := in1 (by decide)
          rw [if_neg (by decide), if_neg (by decide), if_pos rfl] at nxt
          refine n_if_ne (tgt := 34) dX12_knows_23 (by decide) (fun _ => ?_) (fun q => absurd q ((by decide)))
          refine n_aload_n dX12_knows_34 rfl ?_
          refine n_get dX12_knows_35 fl_X12_7 rfl ?_
          refine n_iload_n dX12_knows_38 rfl ?_
          refine n_iald (j := 0) dX12_knows_39 (by decide) rfl rfl (show _ < 14 by omega) x1 ?_
          refine n_iconst (v := (nI 3)) dX12_knows_40 (by decide) ?_
          refine n_icmp_ge (tgt := 52) dX12_knows_41 (by decide) (fun q => absurd q ((by decide))) (fun _ => ?_)
          refine n_aload_n dX12_knows_44 rfl ?_
          refine n_iload_n dX12_knows_45 rfl ?_
          refine n_call dX12_knows_46 cv_X12_181 (c_holdsMapped (k := 2) (D := eD) (by omega) a1 a2 ((x2 (by decide)).trans (hf (by decide)).2) a3 a4 a5 x1 (Or.inr ⟨rfl, rfl, (x6 rfl).1, (x6 rfl).2⟩)) rfl rfl rfl ⟨(Nat.le_of_ble_eq_true rfl), (Nat.le_of_ble_eq_true rfl)⟩ rfl rfl (Nat.le_of_ble_eq_true rfl) (fun v S2 hq2 => ?_)
          obtain ⟨rfl, q1, q2⟩ := hq2
          refine n_goto (tgt := 101) dX12_knows_49 (by decide) ?_
          exact nxt S2 q1 q2
        · obtain ⟨a1, a2, a3, a4, a5⟩ := in1 (by decide)
          obtain ⟨b1, b2, b3, b4, b5⟩ := in2 (Or.inl rfl)
          rw [if_neg (by decide), if_neg (by decide), if_neg (by decide), if_pos rfl, show zuni false P T = P ++ T from rfl] at nxt hle
          rw [List.flatten_append, List.length_append, List.length_append] at hle
          refine n_if_ne (tgt := 34) dX12_knows_23 (by decide) (fun _ => ?_) (fun q => absurd q ((by decide)))
          refine n_aload_n dX12_knows_34 rfl ?_
          refine n_get dX12_knows_35 fl_X12_7 rfl ?_
          refine n_iload_n dX12_knows_38 rfl ?_
          refine n_iald (j := 0) dX12_knows_39 (by decide) rfl rfl (show _ < 14 by omega) x1 ?_
          refine n_iconst (v := (nI 3)) dX12_knows_40 (by decide) ?_
          refine n_icmp_ge (tgt := 52) dX12_knows_41 (by decide) (fun _ => ?_) (fun q => absurd ((by decide)) q)
          refine n_aload_n dX12_knows_52 rfl ?_
          refine n_get dX12_knows_53 fl_X12_7 rfl ?_
          refine n_iload_n dX12_knows_56 rfl ?_
          refine n_iald (j := 0) dX12_knows_57 (by decide) rfl rfl (show _ < 14 by omega) x1 ?_
          refine n_iconst (v := (nI 3)) dX12_knows_58 (by decide) ?_
          refine n_icmp_ne (tgt := 70) dX12_knows_59 (by decide) (fun q => absurd (rfl) q) (fun _ => ?_)
          refine n_aload_n dX12_knows_62 rfl ?_
          refine n_iload_n dX12_knows_63 rfl ?_
          refine n_call dX12_knows_64 cv_X12_184 (c_holdsUnion (by omega) a1 a2 b1 b2 ((x2 (by decide)).trans (hf (by decide)).2) ((x3 (Or.inl rfl)).trans (hs (Or.inl rfl)).2) a3 b3 hle.2.2 hle.1) rfl rfl rfl ⟨(Nat.le_of_ble_eq_true rfl), (Nat.le_of_ble_eq_true rfl)⟩ rfl rfl (Nat.le_of_ble_eq_true rfl) (fun v S2 hq2 => ?_)
          obtain ⟨rfl, q1, q2⟩ := hq2
          refine n_goto (tgt := 101) dX12_knows_67 (by decide) ?_
          exact nxt S2 q1 q2
        · obtain ⟨a1, a2, a3, a4, a5⟩ := in1 (by decide)
          obtain ⟨p1, p2, p3⟩ := hp (Or.inr (Or.inl rfl))
          obtain ⟨h0, h03, h07⟩ := how4 rfl
          have etp : ztp false eD = p := by simp only [ztp, Bool.false_eq_true, if_false, p3]; exact nI_clamp (by omega)
          rw [if_neg (by decide), if_neg (by decide), if_neg (by decide), if_neg (by decide), if_pos rfl, etp] at nxt hle
          refine n_if_ne (tgt := 34) dX12_knows_23 (by decide) (fun _ => ?_) (fun q => absurd q ((by decide)))
          refine n_aload_n dX12_knows_34 rfl ?_
          refine n_get dX12_knows_35 fl_X12_7 rfl ?_
          refine n_iload_n dX12_knows_38 rfl ?_
          refine n_iald (j := 0) dX12_knows_39 (by decide) rfl rfl (show _ < 14 by omega) x1 ?_
          refine n_iconst (v := (nI 3)) dX12_knows_40 (by decide) ?_
          refine n_icmp_ge (tgt := 52) dX12_knows_41 (by decide) (fun _ => ?_) (fun q => absurd ((by decide)) q)
          refine n_aload_n dX12_knows_52 rfl ?_
          refine n_get dX12_knows_53 fl_X12_7 rfl ?_
          refine n_iload_n dX12_knows_56 rfl ?_
          refine n_iald (j := 0) dX12_knows_57 (by decide) rfl rfl (show _ < 14 by omega) x1 ?_
          refine n_iconst (v := (nI 3)) dX12_knows_58 (by decide) ?_
          refine n_icmp_ne (tgt := 70) dX12_knows_59 (by decide) (fun _ => ?_) (fun q => absurd q ((by decide)))
          refine n_aload_n dX12_knows_70 rfl ?_
          refine n_get dX12_knows_71 fl_X12_7 rfl ?_
          refine n_iload_n dX12_knows_74 rfl ?_
          refine n_iald (j := 0) dX12_knows_75 (by decide) rfl rfl (show _ < 14 by omega) x1 ?_
          refine n_iconst (v := (nI 5)) dX12_knows_76 (by decide) ?_
          refine n_icmp_ne (tgt := 96) dX12_knows_77 (by decide) (fun _ => ?_) (fun q => absurd q ((by decide)))
          refine n_aload_n dX12_knows_96 rfl ?_
          refine n_iload_n dX12_knows_97 rfl ?_
          refine n_call dX12_knows_98 cv_X12_193 (c_holdsShared (s := 0) (k := 4) (p := p) (hw := h0) (T := []) (D := eD) (by omega) a1 a2 ((x2 (by decide)).trans (hf (by decide)).2) a3 a4 a5 ((x7 (Or.inr (Or.inl rfl))).trans p3) p1 (by omega) x1 (Or.inl ⟨rfl, rfl, rfl, (x4 (Or.inr rfl)).trans h07, h03, h07⟩) hle.1) rfl rfl rfl ⟨(Nat.le_of_ble_eq_true rfl), (Nat.le_of_ble_eq_true rfl)⟩ rfl rfl (Nat.le_of_ble_eq_true rfl) (fun v S2 hq2 => ?_)
          obtain ⟨rfl, q1, q2⟩ := hq2
          exact nxt S2 q1 q2
        · obtain ⟨a1, a2, a3, a4, a5⟩ := in1 (by decide)
          obtain ⟨b1, b2, b3, b4, b5⟩ := in2 (Or.inr rfl)
          obtain ⟨p1, p2, p3⟩ := hp (Or.inr (Or.inr rfl))
          have etp : ztp false eD = p := by simp only [ztp, Bool.false_eq_true, if_false, p3]; exact nI_clamp (by omega)
          rw [if_neg (by decide), if_neg (by decide), if_neg (by decide), if_neg (by decide), if_neg (by decide), etp] at nxt hle
          refine n_if_ne (tgt := 34) dX12_knows_23 (by decide) (fun _ => ?_) (fun q => absurd q ((by decide)))
          refine n_aload_n dX12_knows_34 rfl ?_
          refine n_get dX12_knows_35 fl_X12_7 rfl ?_
          refine n_iload_n dX12_knows_38 rfl ?_
          refine n_iald (j := 0) dX12_knows_39 (by decide) rfl rfl (show _ < 14 by omega) x1 ?_
          refine n_iconst (v := (nI 3)) dX12_knows_40 (by decide) ?_
          refine n_icmp_ge (tgt := 52) dX12_knows_41 (by decide) (fun _ => ?_) (fun q => absurd ((by decide)) q)
          refine n_aload_n dX12_knows_52 rfl ?_
          refine n_get dX12_knows_53 fl_X12_7 rfl ?_
          refine n_iload_n dX12_knows_56 rfl ?_
          refine n_iald (j := 0) dX12_knows_57 (by decide) rfl rfl (show _ < 14 by omega) x1 ?_
          refine n_iconst (v := (nI 3)) dX12_knows_58 (by decide) ?_
          refine n_icmp_ne (tgt := 70) dX12_knows_59 (by decide) (fun _ => ?_) (fun q => absurd q ((by decide)))
          refine n_aload_n dX12_knows_70 rfl ?_
          refine n_get dX12_knows_71 fl_X12_7 rfl ?_
          refine n_iload_n dX12_knows_74 rfl ?_
          refine n_iald (j := 0) dX12_knows_75 (by decide) rfl rfl (show _ < 14 by omega) x1 ?_
          refine n_iconst (v := (nI 5)) dX12_knows_76 (by decide) ?_
          refine n_icmp_ne (tgt := 96) dX12_knows_77 (by decide) (fun q => absurd (rfl) q) (fun _ => ?_)
          refine n_aload_n dX12_knows_80 rfl ?_
          refine n_iload_n dX12_knows_81 rfl ?_
          refine n_call dX12_knows_82 cv_X12_187 (c_isBroadly (by omega) b1 ((x3 (Or.inr rfl)).trans (hs (Or.inr rfl)).2) b3 b4 b5 (by rw [a]; exact h.2.2.1.1) hlim) rfl rfl rfl ⟨(Nat.le_of_ble_eq_true rfl), (Nat.le_of_ble_eq_true rfl)⟩ rfl rfl (Nat.le_of_ble_eq_true rfl) (fun v S2 hq2 => ?_)
          obtain ⟨rfl, hS2⟩ := hq2
          subst hS2
          by_cases cb : T.flatten.length ≤ lim
          · rw [zif_t cb]
            rw [if_pos ⟨rfl, cb⟩] at nxt hle
            refine n_if_eq (tgt := 96) dX12_knows_85 (by decide) (fun q => absurd q ((by decide))) (fun _ => ?_)
            refine n_aload_n dX12_knows_88 rfl ?_
            refine n_iload_n dX12_knows_89 rfl ?_
            refine n_call dX12_knows_90 cv_X12_190 (c_holdsBroad (by omega) a1 a2 b1 b2 ((x2 (by decide)).trans (hf (by decide)).2) ((x3 (Or.inr rfl)).trans (hs (Or.inr rfl)).2) a3 a4 a5 b3 b4 b5 hle.1) rfl rfl rfl ⟨(Nat.le_of_ble_eq_true rfl), (Nat.le_of_ble_eq_true rfl)⟩ rfl rfl (Nat.le_of_ble_eq_true rfl) (fun v S3 hq3 => ?_)
            obtain ⟨rfl, q1, q2⟩ := hq3
            refine n_goto (tgt := 101) dX12_knows_93 (by decide) ?_
            exact nxt S3 q1 q2
          · rw [zif_f cb]
            rw [if_neg (fun w => cb w.2)] at nxt hle
            refine n_if_eq (tgt := 96) dX12_knows_85 (by decide) (fun _ => ?_) (fun q => absurd (rfl) q)
            refine n_aload_n dX12_knows_96 rfl ?_
            refine n_iload_n dX12_knows_97 rfl ?_
            refine n_call dX12_knows_98 cv_X12_193 (c_holdsShared (s := s) (k := 5) (p := p) (hw := 0) (T := T) (D := eD) (by omega) a1 a2 ((x2 (by decide)).trans (hf (by decide)).2) a3 a4 a5 ((x7 (Or.inr (Or.inr rfl))).trans p3) p1 (by omega) x1 (Or.inr ⟨rfl, rfl, rfl, b1, b2, (x3 (Or.inr rfl)).trans (hs (Or.inr rfl)).2, b3, b4, b5⟩) hle.1) rfl rfl rfl ⟨(Nat.le_of_ble_eq_true rfl), (Nat.le_of_ble_eq_true rfl)⟩ rfl rfl (Nat.le_of_ble_eq_true rfl) (fun v S3 hq3 => ?_)
            obtain ⟨rfl, q1, q2⟩ := hq3
            exact nxt S3 q1 q2
    refine n_iconst (v := (nI 0)) dX12_knows_0 (by decide) ?_
    refine n_istore_n dX12_knows_1 (by decide) ?_
    exact loop nt.length 0 S (by omega) rfl (fun _ _ => rfl) fun i hi => absurd hi (Nat.not_lt_zero _)
  · refine n_iconst (v := (nI 0)) dX12_knows_0 (by decide) ?_
    refine n_istore_n dX12_knows_1 (by decide) ?_
    refine n_iload_n dX12_knows_2 rfl ?_
    refine n_aload_n dX12_knows_3 rfl ?_
    refine n_getE dX12_knows_4 fl_X12_123 rfl (hn) ?_
    by_cases c : nt.length = 0
    · refine n_icmp_ge (tgt := 107) dX12_knows_7 (by decide) (fun _ => ?_) (fun q => absurd ((by rw [c]; exact nI_le (Nat.le_refl 0) (by decide))) q)
      exact fin S _ rfl (fun _ _ => rfl) (h.2.1.2 k1)
    · refine n_icmp_ge (tgt := 107) dX12_knows_7 (by decide) (fun q => absurd q ((nI_ge (show 0 < nt.length by omega) (by omega)))) (fun _ => ?_)
      refine n_aload_n dX12_knows_10 rfl ?_
      refine n_getE dX12_knows_11 fl_X12_126 rfl (k1) ?_
      refine n_if_ne (tgt := 107) dX12_knows_14 (by decide) (fun _ => ?_) (fun q => absurd q ((by decide)))
      exact fin S _ rfl (fun _ _ => rfl) (h.2.1.2 k1)
end
