-- model
/-! the model: maps, filters, unions -/
section
variable {G : zG} {m its : Nat} {S : zMS}
theorem zmap_flat {F : zP2 → zP2} (hF : ∀ l, (F l).length ≤ l.length) : ∀ P : List zP2, (P.map F).flatten.length ≤ P.flatten.length
  | [] => Nat.le_refl _
  | a :: t => by
    rw [List.map_cons, List.flatten_cons, List.flatten_cons, List.length_append, List.length_append]
    have := hF a
    have := zmap_flat hF t
    omega
theorem zmap_tk {F : zP2 → zP2} {P : List zP2} {p : Nat} {pp : zP2} (h : P[p]? = some pp) : (P.take (p + 1)).map F = (P.take p).map F ++ [F pp] := by rw [ztake h, List.map_append]; rfl
set_option maxRecDepth 100000 in
set_option maxHeartbeats 1000000 in
theorem c_holdsMapped {f k : Nat} {P : List zP2} {D : Nat → Int32} {F : zP2 → zP2} (hi : its < 14) (hf : f < 14) (hfi : f ≠ its) (h1 : S.2 1 its = nI f) (hP : zmH S f P) (h8 : P.length ≤ 8) (h3 : P.flatten.length ≤ 300) (hk : S.2 0 its = nI k)
    (hF : (k = 1 ∧ F = zmapP D ∧ S.2 3 its = D 7 ∧ S.2 4 its = D 8 ∧ (∃ h, h ≤ 4 ∧ D 7 = nI h) ∧ (D 7 = 3 → 0 < D 8)) ∨ (k = 2 ∧ F = zsifP D ∧ S.2 4 its = D 9 ∧ S.2 5 its = D 10)) :
    zMN G yX12_holdsMapped kX12_holdsMapped m [.int (nI its)] S (fun v S' => v = none ∧ zKp S S' its ∧ zmH S' its (P.map F)) := by
  refine zMN.of (ls := [some (.ref m), some (.int (nI its)), none, none, none, none, none, none, none, none]) (by decide +kernel) ⟨rfl, rfl, rfl⟩ (Nat.le_of_ble_eq_true rfl) (fun _ h => h) fun Q hQ => ?_
  have hFl : ∀ l, (F l).length ≤ l.length := by
    intro l
    rcases hF with ⟨-, rfl, -⟩ | ⟨-, rfl, -⟩
    · rw [zmapP, List.length_map]; exact Nat.le_refl _
    · exact List.length_filter_le _ _
  have hF0 : F [] = [] := by rcases hF with ⟨-, rfl, -⟩ | ⟨-, rfl, -⟩ <;> rfl
  obtain ⟨lo, hlo⟩ : ∃ lo, S.2 4 its = lo := ⟨_, rfl⟩
  have outer : ∀ (d p : Nat) (S1 : zMS) (x6 x7 x8 x9 : Option Value), p + d = P.length → zKp S S1 its → S1.2 12 its = nI P.length → zBd0 S1 its ((P.take p).map F) →
      zNW G kX12_holdsMapped m Q 32 [some (.ref m), some (.int (nI its)), some (.int (nI f)), some (.int lo), some (.int (nI ((P.take p).map F).flatten.length)), some (.int (nI p)), x6, x7, x8, x9] [] S1 := by
    intro d
    induction d with
    | zero =>
      intro p S1 x6 x7 x8 x9 hd hK hpt hB
      have e : p = P.length := by omega
      subst e
      refine n_iload dX12_holdsMapped_32 rfl ?_
      refine n_aload_n dX12_holdsMapped_34 rfl ?_
      refine n_get dX12_holdsMapped_35 fl_X12_46 rfl ?_
      refine n_iload_n dX12_holdsMapped_38 rfl ?_
      refine n_iald (j := 12) dX12_holdsMapped_39 (by decide) rfl rfl (show _ < 14 by omega) hpt ?_
      refine n_icmp_ge (tgt := 270) dX12_holdsMapped_40 (by decide) (fun _ => ?_) (fun q => absurd ((nI_le (Nat.le_refl _) (by omega))) q)
      refine n_aload_n dX12_holdsMapped_270 rfl ?_
      refine n_get dX12_holdsMapped_271 fl_X12_49 rfl ?_
      refine n_bipush (v := (nI 9)) dX12_holdsMapped_274 (by decide) ?_
      refine n_iload_n dX12_holdsMapped_276 rfl ?_
      refine n_imul dX12_holdsMapped_277 ?_
      rw [pk_mul]
      refine n_aload_n dX12_holdsMapped_278 rfl ?_
      refine n_get dX12_holdsMapped_279 fl_X12_46 rfl ?_
      refine n_iload_n dX12_holdsMapped_282 rfl ?_
      refine n_iald (j := 12) dX12_holdsMapped_283 (by decide) rfl rfl (show _ < 14 by omega) hpt ?_
      refine n_iadd dX12_holdsMapped_284 ?_
      rw [nI_add]
      refine n_iload dX12_holdsMapped_285 rfl ?_
      refine n_iast (j := 13) dX12_holdsMapped_287 (by decide) rfl rfl (show _ < 126 by omega) ?_
      have hb := hB.beg
      rw [List.length_map, List.length_take, Nat.min_self, List.take_length] at hb
      rw [List.take_length]
      exact n_vret dX12_holdsMapped_288 rfl (hQ _ _ ⟨rfl, hK.beg (by omega), hb.fin ((zSTo (by decide)).trans (by rw [List.length_map]; exact hpt))⟩)
    | succ d ih =>
      intro p S1 x6 x7 x8 x9 hd hK hpt hB
      have hg : P[p]? = some (P[p]'(by omega)) := List.getElem?_eq_getElem _
      generalize P[p]'(by omega) = pp at hg
      have hpl : ((P.take p).map F).length = p := by rw [List.length_map, List.length_take]; omega
      have hPP := hK.H hfi hP h8 h3
      have hb0 := hPP.2.1 p (by omega)
      have hbl := zmap_flat hFl (P.take p)
      have htk := zfl1 (P.take p) pp
      rw [← ztake hg] at htk
      have hsub : (P.take (p + 1)).flatten.length ≤ P.flatten.length := by
        have : P.flatten = (P.take (p + 1)).flatten ++ (P.drop (p + 1)).flatten := by rw [← List.flatten_append, List.take_append_drop]
        rw [this, List.length_append]
        omega
      refine n_iload dX12_holdsMapped_32 rfl ?_
      refine n_aload_n dX12_holdsMapped_34 rfl ?_
      refine n_get dX12_holdsMapped_35 fl_X12_46 rfl ?_
      refine n_iload_n dX12_holdsMapped_38 rfl ?_
      refine n_iald (j := 12) dX12_holdsMapped_39 (by decide) rfl rfl (show _ < 14 by omega) hpt ?_
      refine n_icmp_ge (tgt := 270) dX12_holdsMapped_40 (by decide) (fun q => absurd q ((nI_ge (show p < P.length by omega) (by omega)))) (fun _ => ?_)
      refine n_aload_n dX12_holdsMapped_43 rfl ?_
      refine n_get dX12_holdsMapped_44 fl_X12_49 rfl ?_
      refine n_bipush (v := (nI 9)) dX12_holdsMapped_47 (by decide) ?_
      refine n_iload_n dX12_holdsMapped_49 rfl ?_
      refine n_imul dX12_holdsMapped_50 ?_
      rw [pk_mul]
      refine n_iload dX12_holdsMapped_51 rfl ?_
      refine n_iadd dX12_holdsMapped_53 ?_
      rw [nI_add]
      refine n_iload dX12_holdsMapped_54 rfl ?_
      refine n_iast (j := 13) dX12_holdsMapped_56 (by decide) rfl rfl (show _ < 126 by omega) ?_
      refine n_sipush (v := (nI 300)) dX12_holdsMapped_57 (by decide) ?_
      refine n_iload_n dX12_holdsMapped_60 rfl ?_
      have hb := hB.beg
      rw [hpl] at hb
      have hK2 : zKp S (zST S1 13 (9 * its + p) (nI ((P.take p).map F).flatten.length)) its := hK.beg (by omega)
      have hPP2 := hK2.H hfi hP h8 h3
      refine n_imul dX12_holdsMapped_61 ?_
      rw [pk_mul]
      refine n_aload_n dX12_holdsMapped_62 rfl ?_
      refine n_iload_n dX12_holdsMapped_63 rfl ?_
      refine n_iload dX12_holdsMapped_64 rfl ?_
      refine n_call dX12_holdsMapped_66 cv_X12_148 (c_at hf (by omega) (hPP2.2.1 p (by omega))) rfl rfl rfl ⟨(Nat.le_of_ble_eq_true rfl), (Nat.le_of_ble_eq_true rfl)⟩ rfl rfl (Nat.le_of_ble_eq_true rfl) (fun v S2 hq2 => ?_)
      obtain ⟨rfl, rfl⟩ := hq2
      refine n_iadd dX12_holdsMapped_69 ?_
      rw [nI_add]
      refine n_istore dX12_holdsMapped_70 (by decide) ?_
      generalize hDn : (P.take p).map F = DN at *
      generalize hB0 : (P.take p).flatten.length = b at *
      have inner : ∀ (e j : Nat) (S3 : zMS) (x7 x8 x9 : Option Value), j + e = pp.length → zKp S S3 its → S3.2 12 its = nI P.length → zBd S3 its DN (F (pp.take j)) →
          zNW G kX12_holdsMapped m Q 72 [some (.ref m), some (.int (nI its)), some (.int (nI f)), some (.int lo), some (.int (nI (DN.flatten.length + (F (pp.take j)).length))), some (.int (nI p)), some (.int (nI (300 * f + b + j))), x7, x8, x9] [] S3 := by
        intro e
        induction e with
        | zero =>
          intro j S3 x7 x8 x9 he hK3 hpt3 hB3
          have ej : j = pp.length := by omega
          subst ej
          have hPP3 := hK3.H hfi hP h8 h3
          refine n_iload dX12_holdsMapped_72 rfl ?_
          refine n_sipush (v := (nI 300)) dX12_holdsMapped_74 (by decide) ?_
          refine n_iload_n dX12_holdsMapped_77 rfl ?_
          refine n_imul dX12_holdsMapped_78 ?_
          rw [pk_mul]
          refine n_aload_n dX12_holdsMapped_79 rfl ?_
          refine n_iload_n dX12_holdsMapped_80 rfl ?_
          refine n_iload dX12_holdsMapped_81 rfl ?_
          refine n_iconst (v := (nI 1)) dX12_holdsMapped_83 (by decide) ?_
          refine n_iadd dX12_holdsMapped_84 ?_
          rw [nI_add]
          refine n_call dX12_holdsMapped_85 cv_X12_148 (c_at hf (by omega) (hPP3.2.1 (p + 1) (by omega))) rfl rfl rfl ⟨(Nat.le_of_ble_eq_true rfl), (Nat.le_of_ble_eq_true rfl)⟩ rfl rfl (Nat.le_of_ble_eq_true rfl) (fun v S4 hq4 => ?_)
          obtain ⟨rfl, rfl⟩ := hq4
          refine n_iadd dX12_holdsMapped_88 ?_
          rw [nI_add]
          refine n_icmp_ge (tgt := 264) dX12_holdsMapped_89 (by decide) (fun _ => ?_) (fun q => absurd ((nI_le (by omega) (by omega))) q)
          refine n_inc1 dX12_holdsMapped_264 rfl (by decide) ?_
          refine n_goto (tgt := 32) dX12_holdsMapped_267 (by decide) ?_
          rw [nI_1]
          rw [List.take_length] at hB3 ⊢
          have e2 : (P.take (p + 1)).map F = DN ++ [F pp] := by rw [zmap_tk hg, hDn]
          have := ih (p + 1) S4 (some (.int (nI (300 * f + b + pp.length)))) x7 x8 x9 (by omega) hK3 hpt3 (by rw [e2]; exact hB3.done)
          rw [e2, zfl1] at this
          exact this
        | succ e ihe =>
          intro j S3 x7 x8 x9 he hK3 hpt3 hB3
          have hq : pp[j]? = some (pp[j]'(by omega)) := List.getElem?_eq_getElem _
          generalize pp[j]'(by omega) = q at hq
          have hPP3 := hK3.H hfi hP h8 h3
          have hat := zflat_at hg hq
          rw [hB0] at hat
          obtain ⟨r1, r2⟩ := hPP3.2.2 _ q hat
          rw [← Nat.add_assoc] at r1 r2
          have hFj := hFl (pp.take j)
          rw [List.length_take] at hFj
          refine n_iload dX12_holdsMapped_72 rfl ?_
          refine n_sipush (v := (nI 300)) dX12_holdsMapped_74 (by decide) ?_
          refine n_iload_n dX12_holdsMapped_77 rfl ?_
          refine n_imul dX12_holdsMapped_78 ?_
          rw [pk_mul]
          refine n_aload_n dX12_holdsMapped_79 rfl ?_
          refine n_iload_n dX12_holdsMapped_80 rfl ?_
          refine n_iload dX12_holdsMapped_81 rfl ?_
          refine n_iconst (v := (nI 1)) dX12_holdsMapped_83 (by decide) ?_
          refine n_iadd dX12_holdsMapped_84 ?_
          rw [nI_add]
          refine n_call dX12_holdsMapped_85 cv_X12_148 (c_at hf (by omega) (hPP3.2.1 (p + 1) (by omega))) rfl rfl rfl ⟨(Nat.le_of_ble_eq_true rfl), (Nat.le_of_ble_eq_true rfl)⟩ rfl rfl (Nat.le_of_ble_eq_true rfl) (fun v S4 hq4 => ?_)
          obtain ⟨rfl, rfl⟩ := hq4
          refine n_iadd dX12_holdsMapped_88 ?_
          rw [nI_add]
          refine n_icmp_ge (tgt := 264) dX12_holdsMapped_89 (by decide) (fun q => absurd q ((nI_ge (show 300 * f + b + j < 300 * f + (P.take (p + 1)).flatten.length by omega) (by omega)))) (fun _ => ?_)
          refine n_aload_n dX12_holdsMapped_92 rfl ?_
          refine n_get dX12_holdsMapped_93 fl_X12_52 rfl ?_
          refine n_iload dX12_holdsMapped_96 rfl ?_
          refine n_iald (j := 14) dX12_holdsMapped_98 (by decide) rfl rfl (show _ < 4200 by omega) r1 ?_
          refine n_istore dX12_holdsMapped_99 (by decide) ?_
          refine n_aload_n dX12_holdsMapped_101 rfl ?_
          refine n_get dX12_holdsMapped_102 fl_X12_55 rfl ?_
          refine n_iload dX12_holdsMapped_105 rfl ?_
          refine n_iald (j := 15) dX12_holdsMapped_107 (by decide) rfl rfl (show _ < 4200 by omega) r2 ?_
          refine n_istore dX12_holdsMapped_108 (by decide) ?_
          refine n_aload_n dX12_holdsMapped_110 rfl ?_
          refine n_get dX12_holdsMapped_111 fl_X12_7 rfl ?_
          refine n_iload_n dX12_holdsMapped_114 rfl ?_
          refine n_iald (j := 0) dX12_holdsMapped_115 (by decide) rfl rfl (show _ < 14 by omega) (hK3.v (by decide) hk) ?_
          refine n_iconst (v := (nI 2)) dX12_holdsMapped_116 (by decide) ?_
          rcases hF with ⟨rfl, rfl, g1, g2, ⟨h, h4, g3⟩, g4⟩ | ⟨rfl, rfl, g1, g2⟩
          · have elo : D 8 = lo := g2.symm.trans hlo
            have eF : zmapP D (pp.take (j + 1)) = zmapP D (pp.take j) ++ [(zmk D q, zmv D q)] := by rw [ztake hq, zmapP, List.map_append]; rfl
            have nx : ∀ (kx vx : Int32) (y7 y8 y9 : Option Value), zmk D q = kx → zmv D q = vx → zNW G kX12_holdsMapped m Q 252 [some (.ref m), some (.int (nI its)), some (.int (nI f)), some (.int lo), some (.int (nI (DN.flatten.length + (zmapP D (pp.take j)).length))), some (.int (nI p)), some (.int (nI (300 * f + b + j))), y7, y8, y9] [.int vx, .int kx, .int (nI (DN.flatten.length + (zmapP D (pp.take j)).length)), .int (nI its), .ref m] S4 := by
              intro kx vx y7 y8 y9 ek ev
              subst ek ev
              refine n_call dX12_holdsMapped_252 cv_X12_155 (c_adds hi (by omega)) rfl rfl rfl ⟨(Nat.le_of_ble_eq_true rfl), (Nat.le_of_ble_eq_true rfl)⟩ rfl rfl (Nat.le_of_ble_eq_true rfl) (fun v S5 hq5 => ?_)
              obtain ⟨rfl, rfl⟩ := hq5
              refine n_inc1 dX12_holdsMapped_255 rfl (by decide) ?_
              refine n_inc1 dX12_holdsMapped_258 rfl (by decide) ?_
              refine n_goto (tgt := 72) dX12_holdsMapped_261 (by decide) ?_
              rw [nI_1, nI_1]
              have := ihe (j + 1) _ y7 y8 y9 (by omega) (hK3.row (n := DN.flatten.length + (zmapP D (pp.take j)).length) (by omega)) ((zSTo (by decide)).trans ((zSTo (by decide)).trans hpt3)) (by rw [eF]; exact hB3.row (x := zmk D q) (y := zmv D q) rfl)
              rw [eF, List.length_append, List.length_singleton, ← Nat.add_assoc, ← Nat.add_assoc] at this
              exact this
            refine n_icmp_ne (tgt := 161) dX12_holdsMapped_117 (by decide) (fun _ => ?_) (fun q => absurd q ((by decide)))
            refine n_aload_n dX12_holdsMapped_161 rfl ?_
            refine n_get dX12_holdsMapped_162 fl_X12_19 rfl ?_
            refine n_iload_n dX12_holdsMapped_165 rfl ?_
            refine n_iald (j := 3) dX12_holdsMapped_166 (by decide) rfl rfl (show _ < 14 by omega) ((hK3.v (by decide) g1).trans g3) ?_
            refine n_istore dX12_holdsMapped_167 (by decide) ?_
            refine n_aload_n dX12_holdsMapped_169 rfl ?_
            refine n_iload_n dX12_holdsMapped_170 rfl ?_
            refine n_iload dX12_holdsMapped_171 rfl ?_
            refine n_iload dX12_holdsMapped_173 rfl ?_
            refine n_iconst (v := (nI 2)) dX12_holdsMapped_175 (by decide) ?_
            rcases (show h = 0 ∨ h = 1 ∨ h = 2 ∨ h = 3 ∨ h = 4 by omega) with e | e | e | e | e <;> subst e
            · refine n_icmp_ne (tgt := 186) dX12_holdsMapped_176 (by decide) (fun _ => ?_) (fun q => absurd q ((by decide)))
              refine n_iload dX12_holdsMapped_186 rfl ?_
              refine n_iconst (v := (nI 3)) dX12_holdsMapped_188 (by decide) ?_
              refine n_icmp_ne (tgt := 201) dX12_holdsMapped_189 (by decide) (fun _ => ?_) (fun q => absurd q ((by decide)))
              refine n_iload dX12_holdsMapped_201 rfl ?_
              refine n_iconst (v := (nI 4)) dX12_holdsMapped_203 (by decide) ?_
              refine n_icmp_ne (tgt := 212) dX12_holdsMapped_204 (by decide) (fun _ => ?_) (fun q => absurd q ((by decide)))
              refine n_iload dX12_holdsMapped_212 rfl ?_
              refine n_iload dX12_holdsMapped_214 rfl ?_
              refine n_if_ne (tgt := 226) dX12_holdsMapped_216 (by decide) (fun q => absurd (rfl) q) (fun _ => ?_)
              refine n_iload dX12_holdsMapped_219 rfl ?_
              refine n_iload_n dX12_holdsMapped_221 rfl ?_
              refine n_iadd dX12_holdsMapped_222 ?_
              refine n_goto (tgt := 252) dX12_holdsMapped_223 (by decide) ?_
              exact nx _ _ _ _ _ (by simp only [zmk, g3]; rfl) (by simp only [zmv, g3, elo]; rfl)
            · refine n_icmp_ne (tgt := 186) dX12_holdsMapped_176 (by decide) (fun _ => ?_) (fun q => absurd q ((by decide)))
              refine n_iload dX12_holdsMapped_186 rfl ?_
              refine n_iconst (v := (nI 3)) dX12_holdsMapped_188 (by decide) ?_
              refine n_icmp_ne (tgt := 201) dX12_holdsMapped_189 (by decide) (fun _ => ?_) (fun q => absurd q ((by decide)))
              refine n_iload dX12_holdsMapped_201 rfl ?_
              refine n_iconst (v := (nI 4)) dX12_holdsMapped_203 (by decide) ?_
              refine n_icmp_ne (tgt := 212) dX12_holdsMapped_204 (by decide) (fun _ => ?_) (fun q => absurd q ((by decide)))
              refine n_iload dX12_holdsMapped_212 rfl ?_
              refine n_iload dX12_holdsMapped_214 rfl ?_
              refine n_if_ne (tgt := 226) dX12_holdsMapped_216 (by decide) (fun _ => ?_) (fun q => absurd q ((by decide)))
              refine n_iload dX12_holdsMapped_226 rfl ?_
              refine n_iconst (v := (nI 1)) dX12_holdsMapped_228 (by decide) ?_
              refine n_icmp_ne (tgt := 239) dX12_holdsMapped_229 (by decide) (fun q => absurd (rfl) q) (fun _ => ?_)
              refine n_iload dX12_holdsMapped_232 rfl ?_
              refine n_iload_n dX12_holdsMapped_234 rfl ?_
              refine n_imul dX12_holdsMapped_235 ?_
              refine n_goto (tgt := 252) dX12_holdsMapped_236 (by decide) ?_
              exact nx _ _ _ _ _ (by simp only [zmk, g3]; rfl) (by simp only [zmv, g3, elo]; rfl)
            · refine n_icmp_ne (tgt := 186) dX12_holdsMapped_176 (by decide) (fun q => absurd (rfl) q) (fun _ => ?_)
              refine n_iload dX12_holdsMapped_179 rfl ?_
              refine n_iload_n dX12_holdsMapped_181 rfl ?_
              refine n_iadd dX12_holdsMapped_182 ?_
              refine n_goto (tgt := 214) dX12_holdsMapped_183 (by decide) ?_
              refine n_iload dX12_holdsMapped_214 rfl ?_
              refine n_if_ne (tgt := 226) dX12_holdsMapped_216 (by decide) (fun _ => ?_) (fun q => absurd q ((by decide)))
              refine n_iload dX12_holdsMapped_226 rfl ?_
              refine n_iconst (v := (nI 1)) dX12_holdsMapped_228 (by decide) ?_
              refine n_icmp_ne (tgt := 239) dX12_holdsMapped_229 (by decide) (fun _ => ?_) (fun q => absurd q ((by decide)))
              refine n_iload dX12_holdsMapped_239 rfl ?_
              refine n_iconst (v := (nI 4)) dX12_holdsMapped_241 (by decide) ?_
              refine n_icmp_ne (tgt := 250) dX12_holdsMapped_242 (by decide) (fun _ => ?_) (fun q => absurd q ((by decide)))
              refine n_iload dX12_holdsMapped_250 rfl ?_
              exact nx _ _ _ _ _ (by simp only [zmk, g3, elo]; rfl) (by simp only [zmv, g3]; rfl)
            · have hlo0 : 0 < lo := by rw [← elo]; exact g4 g3
              refine n_icmp_ne (tgt := 186) dX12_holdsMapped_176 (by decide) (fun _ => ?_) (fun q => absurd q ((by decide)))
              refine n_iload dX12_holdsMapped_186 rfl ?_
              refine n_iconst (v := (nI 3)) dX12_holdsMapped_188 (by decide) ?_
              refine n_icmp_ne (tgt := 201) dX12_holdsMapped_189 (by decide) (fun q => absurd (rfl) q) (fun _ => ?_)
              refine n_iload dX12_holdsMapped_192 rfl ?_
              refine n_iload_n dX12_holdsMapped_194 rfl ?_
              refine n_callS dX12_holdsMapped_195 cv_X12_159 (fun _ _ => (c_share hlo0)) rfl rfl ⟨(Nat.le_of_ble_eq_true rfl), (Nat.le_of_ble_eq_true rfl)⟩ rfl rfl (Nat.le_of_ble_eq_true rfl) (fun v hq6 => ?_)
              subst hq6
              refine n_goto (tgt := 214) dX12_holdsMapped_198 (by decide) ?_
              refine n_iload dX12_holdsMapped_214 rfl ?_
              refine n_if_ne (tgt := 226) dX12_holdsMapped_216 (by decide) (fun _ => ?_) (fun q => absurd q ((by decide)))
              refine n_iload dX12_holdsMapped_226 rfl ?_
              refine n_iconst (v := (nI 1)) dX12_holdsMapped_228 (by decide) ?_
              refine n_icmp_ne (tgt := 239) dX12_holdsMapped_229 (by decide) (fun _ => ?_) (fun q => absurd q ((by decide)))
              refine n_iload dX12_holdsMapped_239 rfl ?_
              refine n_iconst (v := (nI 4)) dX12_holdsMapped_241 (by decide) ?_
              refine n_icmp_ne (tgt := 250) dX12_holdsMapped_242 (by decide) (fun _ => ?_) (fun q => absurd q ((by decide)))
              refine n_iload dX12_holdsMapped_250 rfl ?_
              exact nx _ _ _ _ _ (by simp only [zmk, g3, elo]; rfl) (by simp only [zmv, g3]; rfl)
            · refine n_icmp_ne (tgt := 186) dX12_holdsMapped_176 (by decide) (fun _ => ?_) (fun q => absurd q ((by decide)))
              refine n_iload dX12_holdsMapped_186 rfl ?_
              refine n_iconst (v := (nI 3)) dX12_holdsMapped_188 (by decide) ?_
              refine n_icmp_ne (tgt := 201) dX12_holdsMapped_189 (by decide) (fun _ => ?_) (fun q => absurd q ((by decide)))
              refine n_iload dX12_holdsMapped_201 rfl ?_
              refine n_iconst (v := (nI 4)) dX12_holdsMapped_203 (by decide) ?_
              refine n_icmp_ne (tgt := 212) dX12_holdsMapped_204 (by decide) (fun q => absurd (rfl) q) (fun _ => ?_)
              refine n_iload dX12_holdsMapped_207 rfl ?_
              refine n_goto (tgt := 214) dX12_holdsMapped_209 (by decide) ?_
              refine n_iload dX12_holdsMapped_214 rfl ?_
              refine n_if_ne (tgt := 226) dX12_holdsMapped_216 (by decide) (fun _ => ?_) (fun q => absurd q ((by decide)))
              refine n_iload dX12_holdsMapped_226 rfl ?_
              refine n_iconst (v := (nI 1)) dX12_holdsMapped_228 (by decide) ?_
              refine n_icmp_ne (tgt := 239) dX12_holdsMapped_229 (by decide) (fun _ => ?_) (fun q => absurd q ((by decide)))
              refine n_iload dX12_holdsMapped_239 rfl ?_
              refine n_iconst (v := (nI 4)) dX12_holdsMapped_241 (by decide) ?_
              refine n_icmp_ne (tgt := 250) dX12_holdsMapped_242 (by decide) (fun q => absurd (rfl) q) (fun _ => ?_)
              refine n_iload dX12_holdsMapped_245 rfl ?_
              refine n_goto (tgt := 252) dX12_holdsMapped_247 (by decide) ?_
              exact nx _ _ _ _ _ (by simp only [zmk, g3]; rfl) (by simp only [zmv, g3]; rfl)
          · have elo : D 9 = lo := g1.symm.trans hlo
            have eF : zsifP D (pp.take (j + 1)) = zsifP D (pp.take j) ++ (if (decide (D 9 ≤ q.2) && decide (q.2 ≤ D 10)) = true then [q] else []) := by
              rw [ztake hq, zsifP, List.filter_append]
              congr 1
              by_cases c : (decide (D 9 ≤ q.2) && decide (q.2 ≤ D 10)) = true
              · rw [if_pos c]; exact List.filter_cons_of_pos (p := fun q : Int32 × Int32 => decide (D 9 ≤ q.2) && decide (q.2 ≤ D 10)) c
              · rw [if_neg c]; exact List.filter_cons_of_neg (p := fun q : Int32 × Int32 => decide (D 9 ≤ q.2) && decide (q.2 ≤ D 10)) c
            refine n_icmp_ne (tgt := 161) dX12_holdsMapped_117 (by decide) (fun q => absurd (rfl) q) (fun _ => ?_)
            refine n_aload_n dX12_holdsMapped_120 rfl ?_
            refine n_iload_n dX12_holdsMapped_121 rfl ?_
            refine n_iload dX12_holdsMapped_122 rfl ?_
            refine n_iload dX12_holdsMapped_124 rfl ?_
            refine n_iload dX12_holdsMapped_126 rfl ?_
            refine n_call dX12_holdsMapped_128 cv_X12_155 (c_adds hi (by omega)) rfl rfl rfl ⟨(Nat.le_of_ble_eq_true rfl), (Nat.le_of_ble_eq_true rfl)⟩ rfl rfl (Nat.le_of_ble_eq_true rfl) (fun v S5 hq5 => ?_)
            obtain ⟨rfl, rfl⟩ := hq5
            have hK5 := hK3.row (n := DN.flatten.length + (zsifP D (pp.take j)).length) (x := q.1) (y := q.2) (by omega)
            have no : ∀ (y7 y8 y9 : Option Value), ¬ ((decide (D 9 ≤ q.2) && decide (q.2 ≤ D 10)) = true) → zNW G kX12_holdsMapped m Q 154 [some (.ref m), some (.int (nI its)), some (.int (nI f)), some (.int lo), some (.int (nI (DN.flatten.length + (zsifP D (pp.take j)).length))), some (.int (nI p)), some (.int (nI (300 * f + b + j))), y7, y8, y9] [.int (nI (DN.flatten.length + (zsifP D (pp.take j)).length))] (zST (zST S4 14 (300 * its + (DN.flatten.length + (zsifP D (pp.take j)).length)) q.1) 15 (300 * its + (DN.flatten.length + (zsifP D (pp.take j)).length)) q.2) := by
              intro y7 y8 y9 c
              rw [if_neg c, List.append_nil] at eF
              refine n_iconst (v := (nI 0)) dX12_holdsMapped_154 (by decide) ?_
              refine n_iadd dX12_holdsMapped_155 ?_
              rw [nI_add]
              refine n_istore dX12_holdsMapped_156 (by decide) ?_
              refine n_goto (tgt := 258) dX12_holdsMapped_158 (by decide) ?_
              refine n_inc1 dX12_holdsMapped_258 rfl (by decide) ?_
              refine n_goto (tgt := 72) dX12_holdsMapped_261 (by decide) ?_
              rw [nI_1]
              have := ihe (j + 1) _ y7 y8 y9 (by omega) hK5 ((zSTo (by decide)).trans ((zSTo (by decide)).trans hpt3)) (by rw [eF]; exact hB3.skip rfl)
              rw [eF, ← Nat.add_assoc] at this
              exact this
            refine n_iload dX12_holdsMapped_131 rfl ?_
            refine n_iload dX12_holdsMapped_133 rfl ?_
            refine n_iload_n dX12_holdsMapped_135 rfl ?_
            refine n_icmp_lt (tgt := 154) dX12_holdsMapped_136 (by decide) (fun h136 => ?_) (fun h136 => ?_)
            · exact no _ _ _ (by simp only [Bool.and_eq_true, decide_eq_true_eq]; rintro ⟨w, -⟩; rw [elo] at w; exact Int32.not_lt.mpr w h136)
            · refine n_iload dX12_holdsMapped_139 rfl ?_
              refine n_aload_n dX12_holdsMapped_141 rfl ?_
              refine n_get dX12_holdsMapped_142 fl_X12_25 rfl ?_
              refine n_iload_n dX12_holdsMapped_145 rfl ?_
              refine n_iald (j := 5) dX12_holdsMapped_146 (by decide) rfl rfl (show _ < 14 by omega) (hK5.v (by decide) g2) ?_
              refine n_icmp_gt (tgt := 154) dX12_holdsMapped_147 (by decide) (fun h147 => ?_) (fun h147 => ?_)
              · exact no _ _ _ (by simp only [Bool.and_eq_true, decide_eq_true_eq]; rintro ⟨-, w⟩; exact Int32.not_lt.mpr w h147)
              · have c : (decide (D 9 ≤ q.2) && decide (q.2 ≤ D 10)) = true := by
                  simp only [Bool.and_eq_true, decide_eq_true_eq]
                  exact ⟨by rw [elo]; exact Int32.not_lt.mp h136, Int32.not_lt.mp h147⟩
                rw [if_pos c] at eF
                refine n_iconst (v := (nI 1)) dX12_holdsMapped_150 (by decide) ?_
                refine n_goto (tgt := 155) dX12_holdsMapped_151 (by decide) ?_
                refine n_iadd dX12_holdsMapped_155 ?_
                rw [nI_add]
                refine n_istore dX12_holdsMapped_156 (by decide) ?_
                refine n_goto (tgt := 258) dX12_holdsMapped_158 (by decide) ?_
                refine n_inc1 dX12_holdsMapped_258 rfl (by decide) ?_
                refine n_goto (tgt := 72) dX12_holdsMapped_261 (by decide) ?_
                rw [nI_1]
                have := ihe (j + 1) _ (some (.int q.1)) (some (.int q.2)) x9 (by omega) hK5 ((zSTo (by decide)).trans ((zSTo (by decide)).trans hpt3)) (by rw [eF]; exact hB3.row (x := q.1) (y := q.2) rfl)
                rw [eF, List.length_append, List.length_singleton, ← Nat.add_assoc, ← Nat.add_assoc] at this
                exact this
      have := inner pp.length 0 _ x7 x8 x9 (by omega) hK2 ((zSTo (by decide)).trans hpt) (by rw [List.take_zero, hF0]; exact hb)
      rw [List.take_zero, hF0] at this
      exact this
  refine n_aload_n dX12_holdsMapped_0 rfl ?_
  refine n_get dX12_holdsMapped_1 fl_X12_13 rfl ?_
  refine n_iload_n dX12_holdsMapped_4 rfl ?_
  refine n_iald (j := 1) dX12_holdsMapped_5 (by decide) rfl rfl (show _ < 14 by omega) h1 ?_
  refine n_istore_n dX12_holdsMapped_6 (by decide) ?_
  refine n_aload_n dX12_holdsMapped_7 rfl ?_
  refine n_get dX12_holdsMapped_8 fl_X12_22 rfl ?_
  refine n_iload_n dX12_holdsMapped_11 rfl ?_
  refine n_iald (j := 4) dX12_holdsMapped_12 (by decide) rfl rfl (show _ < 14 by omega) hlo ?_
  refine n_istore_n dX12_holdsMapped_13 (by decide) ?_
  refine n_aload_n dX12_holdsMapped_14 rfl ?_
  refine n_get dX12_holdsMapped_15 fl_X12_46 rfl ?_
  refine n_iload_n dX12_holdsMapped_18 rfl ?_
  refine n_aload_n dX12_holdsMapped_19 rfl ?_
  refine n_get dX12_holdsMapped_20 fl_X12_46 rfl ?_
  refine n_iload_n dX12_holdsMapped_23 rfl ?_
  refine n_iald (j := 12) dX12_holdsMapped_24 (by decide) rfl rfl (show _ < 14 by omega) hP.1 ?_
  refine n_iast (j := 12) dX12_holdsMapped_25 (by decide) rfl rfl (show _ < 14 by omega) ?_
  refine n_iconst (v := (nI 0)) dX12_holdsMapped_26 (by decide) ?_
  refine n_istore dX12_holdsMapped_27 (by decide) ?_
  refine n_iconst (v := (nI 0)) dX12_holdsMapped_29 (by decide) ?_
  refine n_istore dX12_holdsMapped_30 (by decide) ?_
  exact outer P.length 0 _ none none none none (by omega) zKp.rf.par zSTs (by rw [List.take_zero]; exact zBd0.nil)
end
