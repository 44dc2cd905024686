/-! the law: maps and filters, row by row -/
theorem zmkv0 {D : Nat → Int32} {q : Int32 × Int32} (h : D 7 = 0) : (zmk D q, zmv D q) = (q.1, q.2 + D 8) := by unfold zmk zmv; rw [h, if_neg (by decide), if_neg (by decide), if_neg (by decide), if_neg (by decide), if_neg (by decide), if_neg (by decide)]
theorem zmkv1 {D : Nat → Int32} {q : Int32 × Int32} (h : D 7 = 1) : (zmk D q, zmv D q) = (q.1, q.2 * D 8) := by unfold zmk zmv; rw [h, if_neg (by decide), if_neg (by decide), if_neg (by decide), if_pos rfl]
theorem zmkv2 {D : Nat → Int32} {q : Int32 × Int32} (h : D 7 = 2) : (zmk D q, zmv D q) = (q.1 + D 8, q.2) := by unfold zmk zmv; rw [h, if_pos rfl, if_neg (by decide), if_neg (by decide), if_pos (by decide)]
theorem zmkv3 {D : Nat → Int32} {q : Int32 × Int32} (h : D 7 = 3) : (zmk D q, zmv D q) = (zmd q.1 (D 8), q.2) := by unfold zmk zmv; rw [h, if_neg (by decide), if_pos rfl, if_neg (by decide), if_neg (by decide), if_pos (by decide)]
theorem zmkv4 {D : Nat → Int32} {q : Int32 × Int32} (h : D 7 = 4) : (zmk D q, zmv D q) = (q.2, q.1) := by unfold zmk zmv; rw [h, if_neg (by decide), if_neg (by decide), if_pos rfl, if_neg (by decide), if_pos rfl]
theorem zfull {P : List zP2} {p : Nat} : (P.getD p []).take (zsz P p) = P.getD p [] := List.take_length
section
variable {G : zG} {σ : zH} {b nx : Nat} {R : Nat → Nat → Int32} {nt : zNT} {lim mem wk r tk sp cs : Nat} {slow : Nat → Nat} {L : zNS} {A : List zAE}
set_option maxRecDepth 100000 in
set_option maxHeartbeats 4000000 in
theorem l_isMappedM {i : Nat} (hG : zKap G) (S : zVs G σ b (nt, lim, mem, wk, slow, r, L, A, tk, sp, cs) R) (hr : zRl nt R) (hi : i < nt.length) (hk : zkd nt i = 1) : zM G yL_isMapped kL_isMapped [.ref b, .ref (b + 74 + 0), .ref (b + 74 + 1), .ref (b + 74 + 2), .ref (b + 74 + 3), .ref (b + 81), .int (nI i)] σ nx (fun v σ' nx' => v = some (.int 1) ∧ zVs G σ' b (nt, lim, mem, wk, slow, r, L, A, tk, sp, cs) R ∧ nx' = nx) := by
  refine zM.of (ls := [some (.ref b), some (.ref (b + 74 + 0)), some (.ref (b + 74 + 1)), some (.ref (b + 74 + 2)), some (.ref (b + 74 + 3)), some (.ref (b + 81)), some (.int (nI i)), none, none, none, none, none, none, none, none, none]) (by decide +kernel) ⟨rfl, rfl, rfl⟩ (Nat.le_of_ble_eq_true rfl) (fun _ h => h) ?_
  have h14 : nt.length ≤ 14 := S.2.1.2.2.1
  obtain ⟨e, f, s, p0, hg, k6, ke, r0, -, hf, -, -, -, -, ra, rc8, rb, -, hcon, -⟩ := zNi (lim := lim) S.2.1.1 h14 hr hi
  have ek : e.2.1 = 1 := ke.symm.trans hk
  rw [ek] at r0
  obtain ⟨fi, rf⟩ := hf (by omega)
  have hfl : f < nt.length := by omega
  have hcon : zct lim nt i = (zct lim nt f).map (zmapP e.2.2.1) := by rw [hcon, zcont, ek, if_neg (by decide), if_pos rfl]
  obtain ⟨h9, h4, hh⟩ := (S.2.1.2.1 i e hg).1 ek
  obtain ⟨p300, p1, p8⟩ := zct_le (lim := lim) S.2.1.1 h14 hfl
  obtain ⟨P, hP⟩ : ∃ P, P = zct lim nt f := ⟨_, rfl⟩
  rw [← hP] at p300 p1 p8 hcon
  have hlen : (zct lim nt i).length = P.length := by rw [hcon, List.length_map]
  obtain ⟨r2, r3⟩ := ra ek
  generalize e.2.2.1 = D at hcon r2 r3 rc8 hh
  have rc8 := rc8 ek
  have hrow : ∀ p j, j < zsz P p → (zrw (zct lim nt i) p j = (zmk D (zrw P p j), zmv D (zrw P p j)) ∧ j < zsz (zct lim nt i) p) := fun p j h => zrw_of (by rw [hcon, zgetD_map _ rfl, zmapP, List.getElem?_map, zrw_at2 h]; rfl)
  have szM : ∀ p, zsz (zct lim nt i) p = zsz P p := fun p => by rw [hcon, zsz_map _ rfl, zmapP, List.length_map]; rfl
  have outer : ∀ (d p : Nat) (σ2 : zH) (x10 x11 x12 x13 x14 x15 : Option Value), p + d = P.length → zVs G σ2 b (nt, lim, mem, wk, slow, r, L, A, tk, sp, cs) R →
      zWP G kL_isMapped (zFM G kL_isMapped.2.2.2.1 (fun v σ' nx' => v = some (.int 1) ∧ zVs G σ' b (nt, lim, mem, wk, slow, r, L, A, tk, sp, cs) R ∧ nx' = nx)) 31 [some (.ref b), some (.ref (b + 74 + 0)), some (.ref (b + 74 + 1)), some (.ref (b + 74 + 2)), some (.ref (b + 74 + 3)), some (.ref (b + 81)), some (.int (nI i)), some (.int (nI f)), some (.int 1), some (.int (nI p)), x10, x11, x12, x13, x14, x15] [] σ2 nx 0 0 := by
    intro d
    induction d with
    | zero =>
      intro p σ2 x10 x11 x12 x13 x14 x15 hp S
      refine z_iload dL_isMapped_31 rfl ?_
      refine z_aload_n dL_isMapped_33 rfl ?_
      refine z_iload dL_isMapped_34 rfl ?_
      refine z_callV dL_isMapped_36 cv0_L_58 (q_partitions hG S hi) rfl S.c rfl rfl ⟨(Nat.le_of_ble_eq_true rfl), (Nat.le_of_ble_eq_true rfl)⟩ (Nat.le_of_ble_eq_true rfl) (Nat.le_of_ble_eq_true rfl) (Nat.le_of_ble_eq_true rfl) (fun v σ1 nx1 hx1 hq1 => ?_)
      obtain ⟨rfl, S, rfl⟩ := hq1
      rw [hlen]
      refine z_icmp_ge (tgt := 292) dL_isMapped_39 (by decide) (fun _ => ?_) (fun q => absurd ((nI_le (by omega) (by omega))) q)
      refine z_iload dL_isMapped_292 rfl ?_
      exact z_zret dL_isMapped_294 rfl rfl (Nat.le_of_ble_eq_true rfl) (Nat.le_of_ble_eq_true rfl) ⟨rfl, S, rfl⟩
    | succ d ih =>
      intro p σ2 x10 x11 x12 x13 x14 x15 hp S
      have hpl : p < P.length := by omega
      have hpi : p < (zct lim nt i).length := by omega
      have hs := zsz_le (P := P) (j := p)
      have hsi := zsz_le (P := zct lim nt i) (j := p)
      have hi300 := zct_300 (lim := lim) S.2.1.1 h14 hi
      have inner : ∀ (e9 j : Nat) (σ2 : zH) (x12 x13 x14 x15 : Option Value), j + e9 = zsz P p → zVs G σ2 b (nt, lim, mem, wk, slow, r, L, A, tk, sp, cs) R →
          zWP G kL_isMapped (zFM G kL_isMapped.2.2.2.1 (fun v σ' nx' => v = some (.int 1) ∧ zVs G σ' b (nt, lim, mem, wk, slow, r, L, A, tk, sp, cs) R ∧ nx' = nx)) 53 [some (.ref b), some (.ref (b + 74 + 0)), some (.ref (b + 74 + 1)), some (.ref (b + 74 + 2)), some (.ref (b + 74 + 3)), some (.ref (b + 81)), some (.int (nI i)), some (.int (nI f)), some (.int 1), some (.int (nI p)), some (.int (nI (j))), some (.int (nI j)), x12, x13, x14, x15] [] σ2 nx 0 0 := by
        intro e9
        induction e9 with
        | zero =>
          intro j σ2 x12 x13 x14 x15 hj S
          have ej : j = zsz P p := by omega
          subst ej
          refine z_iload dL_isMapped_53 rfl ?_
          refine z_aload_n dL_isMapped_55 rfl ?_
          refine z_iload dL_isMapped_56 rfl ?_
          refine z_iload dL_isMapped_58 rfl ?_
          refine z_callV dL_isMapped_60 cv0_L_61 (q_rowsIn hG S hfl (by rw [← hP]; exact hpl)) rfl S.c rfl rfl ⟨(Nat.le_of_ble_eq_true rfl), (Nat.le_of_ble_eq_true rfl)⟩ (Nat.le_of_ble_eq_true rfl) (Nat.le_of_ble_eq_true rfl) (Nat.le_of_ble_eq_true rfl) (fun v σ1 nx1 hx1 hq1 => ?_)
          obtain ⟨rfl, S, rfl⟩ := hq1
          rw [← hP]
          refine z_icmp_ge (tgt := 261) dL_isMapped_63 (by decide) (fun _ => ?_) (fun q => absurd ((nI_le (Nat.le_refl _) (by omega))) q)
          refine z_iload dL_isMapped_261 rfl ?_
          refine z_if_eq (tgt := 283) dL_isMapped_263 (by decide) (fun q => absurd q (((by decide)))) (fun _ => ?_)
          refine z_aload_n dL_isMapped_266 rfl ?_
          refine z_iload dL_isMapped_267 rfl ?_
          refine z_iload dL_isMapped_269 rfl ?_
          refine z_callV dL_isMapped_271 cv0_L_61 (q_rowsIn hG S hi hpi) rfl S.c rfl rfl ⟨(Nat.le_of_ble_eq_true rfl), (Nat.le_of_ble_eq_true rfl)⟩ (Nat.le_of_ble_eq_true rfl) (Nat.le_of_ble_eq_true rfl) (Nat.le_of_ble_eq_true rfl) (fun v σ1 nx1 hx1 hq1 => ?_)
          obtain ⟨rfl, S, rfl⟩ := hq1
          refine z_iload dL_isMapped_274 rfl ?_
          refine z_icmp_ne (tgt := 283) dL_isMapped_276 (by decide) (fun q => absurd (((by rw [szM p]))) q) (fun _ => ?_)
          refine z_iconst (v := 1) dL_isMapped_279 (by decide) ?_
          refine z_goto (tgt := 284) dL_isMapped_280 (by decide) ?_
          refine z_istore dL_isMapped_284 (by decide) ?_
          refine z_inc1 dL_isMapped_286 rfl (by decide) ?_
          rw [nI_1]
          refine z_goto (tgt := 31) dL_isMapped_289 (by decide) ?_
          exact ih (p + 1) _ _ _ _ _ _ _ (by omega) S
        | succ e9 ie =>
          intro j σ2 x12 x13 x14 x15 hj S
          have hjl : j < zsz P p := by omega
          have nxt := ie (j + 1)
          obtain ⟨q, hq⟩ : ∃ q, q = zrw P p j := ⟨_, rfl⟩
          refine z_iload dL_isMapped_53 rfl ?_
          refine z_aload_n dL_isMapped_55 rfl ?_
          refine z_iload dL_isMapped_56 rfl ?_
          refine z_iload dL_isMapped_58 rfl ?_
          refine z_callV dL_isMapped_60 cv0_L_61 (q_rowsIn hG S hfl (by rw [← hP]; exact hpl)) rfl S.c rfl rfl ⟨(Nat.le_of_ble_eq_true rfl), (Nat.le_of_ble_eq_true rfl)⟩ (Nat.le_of_ble_eq_true rfl) (Nat.le_of_ble_eq_true rfl) (Nat.le_of_ble_eq_true rfl) (fun v σ1 nx1 hx1 hq1 => ?_)
          obtain ⟨rfl, S, rfl⟩ := hq1
          rw [← hP]
          refine z_icmp_ge (tgt := 261) dL_isMapped_63 (by decide) (fun q => absurd q ((nI_ge hjl (by omega)))) (fun _ => ?_)
          refine z_iload dL_isMapped_66 rfl ?_
          refine z_if_eq (tgt := 261) dL_isMapped_68 (by decide) (fun q => absurd q (((by decide)))) (fun _ => ?_)
          refine z_aload_n dL_isMapped_71 rfl ?_
          refine z_iload dL_isMapped_72 rfl ?_
          refine z_iload dL_isMapped_74 rfl ?_
          refine z_iload dL_isMapped_76 rfl ?_
          refine z_callV dL_isMapped_78 cv0_L_67 (q_keyAt hG S hfl (by rw [← hP]; exact hpl) (by rw [← hP]; exact hjl)) rfl S.c rfl rfl ⟨(Nat.le_of_ble_eq_true rfl), (Nat.le_of_ble_eq_true rfl)⟩ (Nat.le_of_ble_eq_true rfl) (Nat.le_of_ble_eq_true rfl) (Nat.le_of_ble_eq_true rfl) (fun v σ1 nx1 hx1 hq1 => ?_)
          obtain ⟨rfl, S, rfl⟩ := hq1
          rw [← hP, ← hq]
          refine z_istore dL_isMapped_81 (by decide) ?_
          refine z_aload_n dL_isMapped_83 rfl ?_
          refine z_iload dL_isMapped_84 rfl ?_
          refine z_iload dL_isMapped_86 rfl ?_
          refine z_iload dL_isMapped_88 rfl ?_
          refine z_callV dL_isMapped_90 cv0_L_70 (q_valueAt hG S hfl (by rw [← hP]; exact hpl) (by rw [← hP]; exact hjl)) rfl S.c rfl rfl ⟨(Nat.le_of_ble_eq_true rfl), (Nat.le_of_ble_eq_true rfl)⟩ (Nat.le_of_ble_eq_true rfl) (Nat.le_of_ble_eq_true rfl) (Nat.le_of_ble_eq_true rfl) (fun v σ1 nx1 hx1 hq1 => ?_)
          obtain ⟨rfl, S, rfl⟩ := hq1
          rw [← hP, ← hq]
          refine z_istore dL_isMapped_93 (by decide) ?_
          refine z_aload_n dL_isMapped_95 rfl ?_
          refine z_iload dL_isMapped_96 rfl ?_
          refine z_ar dL_isMapped_98 S (by decide) (by omega) r0 ?_
          refine z_iconst (v := 2) dL_isMapped_99 (by decide) ?_
          obtain ⟨he, hji⟩ := hrow p j hjl
          rw [← hq] at he
          refine z_icmp_ne (tgt := 144) dL_isMapped_100 (by decide) (fun _ => ?_) (fun q => absurd q (((by decide))))
          refine z_aload_n dL_isMapped_144 rfl ?_
          refine z_iload dL_isMapped_145 rfl ?_
          refine z_ar dL_isMapped_147 S (by decide) (by omega) (r2.trans hh) ?_
          refine z_istore dL_isMapped_148 (by decide) ?_
          refine z_aload dL_isMapped_150 rfl ?_
          refine z_iload dL_isMapped_152 rfl ?_
          refine z_ar dL_isMapped_154 S (by decide) (by omega) r3 ?_
          refine z_istore dL_isMapped_155 (by decide) ?_
          rcases (show h9 = 0 ∨ h9 = 1 ∨ h9 = 2 ∨ h9 = 3 ∨ h9 = 4 by omega) with g | g | g | g | g
          · subst g
            have he : zrw (zct lim nt i) p j = (q.1, q.2 + D 8) := by rw [he, zmkv0 (by rw [hh]; rfl)]
            refine z_aload_n dL_isMapped_157 rfl ?_
            refine z_iload dL_isMapped_158 rfl ?_
            refine z_iload dL_isMapped_160 rfl ?_
            refine z_iload dL_isMapped_162 rfl ?_
            refine z_iload dL_isMapped_164 rfl ?_
            refine z_iconst (v := 2) dL_isMapped_166 (by decide) ?_
            refine z_icmp_ne (tgt := 178) dL_isMapped_167 (by decide) (fun _ => ?_) (fun q => absurd q (((by decide))))
            refine z_iload dL_isMapped_178 rfl ?_
            refine z_iconst (v := 3) dL_isMapped_180 (by decide) ?_
            refine z_icmp_ne (tgt := 194) dL_isMapped_181 (by decide) (fun _ => ?_) (fun q => absurd q (((by decide))))
            refine z_iload dL_isMapped_194 rfl ?_
            refine z_iconst (v := 4) dL_isMapped_196 (by decide) ?_
            refine z_icmp_ne (tgt := 205) dL_isMapped_197 (by decide) (fun _ => ?_) (fun q => absurd q (((by decide))))
            refine z_iload dL_isMapped_205 rfl ?_
            refine z_iload dL_isMapped_207 rfl ?_
            refine z_if_ne (tgt := 220) dL_isMapped_209 (by decide) (fun q => absurd ((rfl)) q) (fun _ => ?_)
            refine z_iload dL_isMapped_212 rfl ?_
            refine z_iload dL_isMapped_214 rfl ?_
            refine z_iadd dL_isMapped_216 ?_
            refine z_goto (tgt := 247) dL_isMapped_217 (by decide) ?_
            refine z_callS dL_isMapped_247 cv_L_108 (l_isRow hG S hi hpi hji he) rfl rfl ⟨(Nat.le_of_ble_eq_true rfl), (Nat.le_of_ble_eq_true rfl)⟩ (Nat.le_of_ble_eq_true rfl) (Nat.le_of_ble_eq_true rfl) (Nat.le_of_ble_eq_true rfl) (fun v σ1 nx1 hx1 hq1 => ?_)
            obtain ⟨rfl, S, rfl⟩ := hq1
            refine z_istore dL_isMapped_250 (by decide) ?_
            refine z_inc1 dL_isMapped_252 rfl (by decide) ?_
            refine z_inc1 dL_isMapped_255 rfl (by decide) ?_
            rw [nI_1]
            refine z_goto (tgt := 53) dL_isMapped_258 (by decide) ?_
            exact nxt _ _ _ _ _ (by omega) S
          · subst g
            have he : zrw (zct lim nt i) p j = (q.1, q.2 * D 8) := by rw [he, zmkv1 (by rw [hh]; rfl)]
            refine z_aload_n dL_isMapped_157 rfl ?_
            refine z_iload dL_isMapped_158 rfl ?_
            refine z_iload dL_isMapped_160 rfl ?_
            refine z_iload dL_isMapped_162 rfl ?_
            refine z_iload dL_isMapped_164 rfl ?_
            refine z_iconst (v := 2) dL_isMapped_166 (by decide) ?_
            refine z_icmp_ne (tgt := 178) dL_isMapped_167 (by decide) (fun _ => ?_) (fun q => absurd q (((by decide))))
            refine z_iload dL_isMapped_178 rfl ?_
            refine z_iconst (v := 3) dL_isMapped_180 (by decide) ?_
            refine z_icmp_ne (tgt := 194) dL_isMapped_181 (by decide) (fun _ => ?_) (fun q => absurd q (((by decide))))
            refine z_iload dL_isMapped_194 rfl ?_
            refine z_iconst (v := 4) dL_isMapped_196 (by decide) ?_
            refine z_icmp_ne (tgt := 205) dL_isMapped_197 (by decide) (fun _ => ?_) (fun q => absurd q (((by decide))))
            refine z_iload dL_isMapped_205 rfl ?_
            refine z_iload dL_isMapped_207 rfl ?_
            refine z_if_ne (tgt := 220) dL_isMapped_209 (by decide) (fun _ => ?_) (fun q => absurd q (((by decide))))
            refine z_iload dL_isMapped_220 rfl ?_
            refine z_iconst (v := 1) dL_isMapped_222 (by decide) ?_
            refine z_icmp_ne (tgt := 234) dL_isMapped_223 (by decide) (fun q => absurd ((rfl)) q) (fun _ => ?_)
            refine z_iload dL_isMapped_226 rfl ?_
            refine z_iload dL_isMapped_228 rfl ?_
            refine z_imul dL_isMapped_230 ?_
            refine z_goto (tgt := 247) dL_isMapped_231 (by decide) ?_
            refine z_callS dL_isMapped_247 cv_L_108 (l_isRow hG S hi hpi hji he) rfl rfl ⟨(Nat.le_of_ble_eq_true rfl), (Nat.le_of_ble_eq_true rfl)⟩ (Nat.le_of_ble_eq_true rfl) (Nat.le_of_ble_eq_true rfl) (Nat.le_of_ble_eq_true rfl) (fun v σ1 nx1 hx1 hq1 => ?_)
            obtain ⟨rfl, S, rfl⟩ := hq1
            refine z_istore dL_isMapped_250 (by decide) ?_
            refine z_inc1 dL_isMapped_252 rfl (by decide) ?_
            refine z_inc1 dL_isMapped_255 rfl (by decide) ?_
            rw [nI_1]
            refine z_goto (tgt := 53) dL_isMapped_258 (by decide) ?_
            exact nxt _ _ _ _ _ (by omega) S
          · subst g
            have he : zrw (zct lim nt i) p j = (q.1 + D 8, q.2) := by rw [he, zmkv2 (by rw [hh]; rfl)]
            refine z_aload_n dL_isMapped_157 rfl ?_
            refine z_iload dL_isMapped_158 rfl ?_
            refine z_iload dL_isMapped_160 rfl ?_
            refine z_iload dL_isMapped_162 rfl ?_
            refine z_iload dL_isMapped_164 rfl ?_
            refine z_iconst (v := 2) dL_isMapped_166 (by decide) ?_
            refine z_icmp_ne (tgt := 178) dL_isMapped_167 (by decide) (fun q => absurd ((rfl)) q) (fun _ => ?_)
            refine z_iload dL_isMapped_170 rfl ?_
            refine z_iload dL_isMapped_172 rfl ?_
            refine z_iadd dL_isMapped_174 ?_
            refine z_goto (tgt := 207) dL_isMapped_175 (by decide) ?_
            refine z_iload dL_isMapped_207 rfl ?_
            refine z_if_ne (tgt := 220) dL_isMapped_209 (by decide) (fun _ => ?_) (fun q => absurd q (((by decide))))
            refine z_iload dL_isMapped_220 rfl ?_
            refine z_iconst (v := 1) dL_isMapped_222 (by decide) ?_
            refine z_icmp_ne (tgt := 234) dL_isMapped_223 (by decide) (fun _ => ?_) (fun q => absurd q (((by decide))))
            refine z_iload dL_isMapped_234 rfl ?_
            refine z_iconst (v := 4) dL_isMapped_236 (by decide) ?_
            refine z_icmp_ne (tgt := 245) dL_isMapped_237 (by decide) (fun _ => ?_) (fun q => absurd q (((by decide))))
            refine z_iload dL_isMapped_245 rfl ?_
            refine z_callS dL_isMapped_247 cv_L_108 (l_isRow hG S hi hpi hji he) rfl rfl ⟨(Nat.le_of_ble_eq_true rfl), (Nat.le_of_ble_eq_true rfl)⟩ (Nat.le_of_ble_eq_true rfl) (Nat.le_of_ble_eq_true rfl) (Nat.le_of_ble_eq_true rfl) (fun v σ1 nx1 hx1 hq1 => ?_)
            obtain ⟨rfl, S, rfl⟩ := hq1
            refine z_istore dL_isMapped_250 (by decide) ?_
            refine z_inc1 dL_isMapped_252 rfl (by decide) ?_
            refine z_inc1 dL_isMapped_255 rfl (by decide) ?_
            rw [nI_1]
            refine z_goto (tgt := 53) dL_isMapped_258 (by decide) ?_
            exact nxt _ _ _ _ _ (by omega) S
          · subst g
            obtain ⟨c, c1, c2, c3⟩ := rc8 (by rw [hh]; rfl)
            rw [c3]
            have he : zrw (zct lim nt i) p j = (zmd q.1 (nI c), q.2) := by rw [he, zmkv3 (by rw [hh]; rfl)]; rw [c3]
            refine z_aload_n dL_isMapped_157 rfl ?_
            refine z_iload dL_isMapped_158 rfl ?_
            refine z_iload dL_isMapped_160 rfl ?_
            refine z_iload dL_isMapped_162 rfl ?_
            refine z_iload dL_isMapped_164 rfl ?_
            refine z_iconst (v := 2) dL_isMapped_166 (by decide) ?_
            refine z_icmp_ne (tgt := 178) dL_isMapped_167 (by decide) (fun _ => ?_) (fun q => absurd q (((by decide))))
            refine z_iload dL_isMapped_178 rfl ?_
            refine z_iconst (v := 3) dL_isMapped_180 (by decide) ?_
            refine z_icmp_ne (tgt := 194) dL_isMapped_181 (by decide) (fun q => absurd ((rfl)) q) (fun _ => ?_)
            refine z_iload dL_isMapped_184 rfl ?_
            refine z_iload dL_isMapped_186 rfl ?_
            refine z_callS dL_isMapped_188 cv_L_112 (l_share (by omega) c2 S) rfl rfl ⟨(Nat.le_of_ble_eq_true rfl), (Nat.le_of_ble_eq_true rfl)⟩ (Nat.le_of_ble_eq_true rfl) (Nat.le_of_ble_eq_true rfl) (Nat.le_of_ble_eq_true rfl) (fun v σ1 nx1 hx1 hq1 => ?_)
            obtain ⟨rfl, S, rfl⟩ := hq1
            refine z_goto (tgt := 207) dL_isMapped_191 (by decide) ?_
            refine z_iload dL_isMapped_207 rfl ?_
            refine z_if_ne (tgt := 220) dL_isMapped_209 (by decide) (fun _ => ?_) (fun q => absurd q (((by decide))))
            refine z_iload dL_isMapped_220 rfl ?_
            refine z_iconst (v := 1) dL_isMapped_222 (by decide) ?_
            refine z_icmp_ne (tgt := 234) dL_isMapped_223 (by decide) (fun _ => ?_) (fun q => absurd q (((by decide))))
            refine z_iload dL_isMapped_234 rfl ?_
            refine z_iconst (v := 4) dL_isMapped_236 (by decide) ?_
            refine z_icmp_ne (tgt := 245) dL_isMapped_237 (by decide) (fun _ => ?_) (fun q => absurd q (((by decide))))
            refine z_iload dL_isMapped_245 rfl ?_
            refine z_callS dL_isMapped_247 cv_L_108 (l_isRow hG S hi hpi hji he) rfl rfl ⟨(Nat.le_of_ble_eq_true rfl), (Nat.le_of_ble_eq_true rfl)⟩ (Nat.le_of_ble_eq_true rfl) (Nat.le_of_ble_eq_true rfl) (Nat.le_of_ble_eq_true rfl) (fun v σ1 nx1 hx1 hq1 => ?_)
            obtain ⟨rfl, S, rfl⟩ := hq1
            refine z_istore dL_isMapped_250 (by decide) ?_
            refine z_inc1 dL_isMapped_252 rfl (by decide) ?_
            refine z_inc1 dL_isMapped_255 rfl (by decide) ?_
            rw [nI_1]
            refine z_goto (tgt := 53) dL_isMapped_258 (by decide) ?_
            exact nxt _ _ _ _ _ (by omega) S
          · subst g
            have he : zrw (zct lim nt i) p j = (q.2, q.1) := by rw [he, zmkv4 (by rw [hh]; rfl)]
            refine z_aload_n dL_isMapped_157 rfl ?_
            refine z_iload dL_isMapped_158 rfl ?_
            refine z_iload dL_isMapped_160 rfl ?_
            refine z_iload dL_isMapped_162 rfl ?_
            refine z_iload dL_isMapped_164 rfl ?_
            refine z_iconst (v := 2) dL_isMapped_166 (by decide) ?_
            refine z_icmp_ne (tgt := 178) dL_isMapped_167 (by decide) (fun _ => ?_) (fun q => absurd q (((by decide))))
            refine z_iload dL_isMapped_178 rfl ?_
            refine z_iconst (v := 3) dL_isMapped_180 (by decide) ?_
            refine z_icmp_ne (tgt := 194) dL_isMapped_181 (by decide) (fun _ => ?_) (fun q => absurd q (((by decide))))
            refine z_iload dL_isMapped_194 rfl ?_
            refine z_iconst (v := 4) dL_isMapped_196 (by decide) ?_
            refine z_icmp_ne (tgt := 205) dL_isMapped_197 (by decide) (fun q => absurd ((rfl)) q) (fun _ => ?_)
            refine z_iload dL_isMapped_200 rfl ?_
            refine z_goto (tgt := 207) dL_isMapped_202 (by decide) ?_
            refine z_iload dL_isMapped_207 rfl ?_
            refine z_if_ne (tgt := 220) dL_isMapped_209 (by decide) (fun _ => ?_) (fun q => absurd q (((by decide))))
            refine z_iload dL_isMapped_220 rfl ?_
            refine z_iconst (v := 1) dL_isMapped_222 (by decide) ?_
            refine z_icmp_ne (tgt := 234) dL_isMapped_223 (by decide) (fun _ => ?_) (fun q => absurd q (((by decide))))
            refine z_iload dL_isMapped_234 rfl ?_
            refine z_iconst (v := 4) dL_isMapped_236 (by decide) ?_
            refine z_icmp_ne (tgt := 245) dL_isMapped_237 (by decide) (fun q => absurd ((rfl)) q) (fun _ => ?_)
            refine z_iload dL_isMapped_240 rfl ?_
            refine z_goto (tgt := 247) dL_isMapped_242 (by decide) ?_
            refine z_callS dL_isMapped_247 cv_L_108 (l_isRow hG S hi hpi hji he) rfl rfl ⟨(Nat.le_of_ble_eq_true rfl), (Nat.le_of_ble_eq_true rfl)⟩ (Nat.le_of_ble_eq_true rfl) (Nat.le_of_ble_eq_true rfl) (Nat.le_of_ble_eq_true rfl) (fun v σ1 nx1 hx1 hq1 => ?_)
            obtain ⟨rfl, S, rfl⟩ := hq1
            refine z_istore dL_isMapped_250 (by decide) ?_
            refine z_inc1 dL_isMapped_252 rfl (by decide) ?_
            refine z_inc1 dL_isMapped_255 rfl (by decide) ?_
            rw [nI_1]
            refine z_goto (tgt := 53) dL_isMapped_258 (by decide) ?_
            exact nxt _ _ _ _ _ (by omega) S
      refine z_iload dL_isMapped_31 rfl ?_
      refine z_aload_n dL_isMapped_33 rfl ?_
      refine z_iload dL_isMapped_34 rfl ?_
      refine z_callV dL_isMapped_36 cv0_L_58 (q_partitions hG S hi) rfl S.c rfl rfl ⟨(Nat.le_of_ble_eq_true rfl), (Nat.le_of_ble_eq_true rfl)⟩ (Nat.le_of_ble_eq_true rfl) (Nat.le_of_ble_eq_true rfl) (Nat.le_of_ble_eq_true rfl) (fun v σ1 nx1 hx1 hq1 => ?_)
      obtain ⟨rfl, S, rfl⟩ := hq1
      rw [hlen]
      refine z_icmp_ge (tgt := 292) dL_isMapped_39 (by decide) (fun q => absurd q ((nI_ge hpl (by omega)))) (fun _ => ?_)
      refine z_iload dL_isMapped_42 rfl ?_
      refine z_if_eq (tgt := 292) dL_isMapped_44 (by decide) (fun q => absurd q (((by decide)))) (fun _ => ?_)
      refine z_iconst (v := 0) dL_isMapped_47 (by decide) ?_
      refine z_istore dL_isMapped_48 (by decide) ?_
      refine z_iconst (v := 0) dL_isMapped_50 (by decide) ?_
      refine z_istore dL_isMapped_51 (by decide) ?_
      exact inner _ 0 _ _ _ _ _ (Nat.zero_add _) S
  refine z_aload_n dL_isMapped_0 rfl ?_
  refine z_iload dL_isMapped_1 rfl ?_
  refine z_ar dL_isMapped_3 S (by decide) (by omega) rf ?_
  refine z_istore dL_isMapped_4 (by decide) ?_
  refine z_aload_n dL_isMapped_6 rfl ?_
  refine z_iload dL_isMapped_7 rfl ?_
  refine z_callV dL_isMapped_9 cv0_L_58 (q_partitions hG S hi) rfl S.c rfl rfl ⟨(Nat.le_of_ble_eq_true rfl), (Nat.le_of_ble_eq_true rfl)⟩ (Nat.le_of_ble_eq_true rfl) (Nat.le_of_ble_eq_true rfl) (Nat.le_of_ble_eq_true rfl) (fun v σ1 nx1 hx1 hq1 => ?_)
  obtain ⟨rfl, S, rfl⟩ := hq1
  refine z_aload_n dL_isMapped_12 rfl ?_
  refine z_iload dL_isMapped_13 rfl ?_
  refine z_callV dL_isMapped_15 cv0_L_58 (q_partitions hG S hfl) rfl S.c rfl rfl ⟨(Nat.le_of_ble_eq_true rfl), (Nat.le_of_ble_eq_true rfl)⟩ (Nat.le_of_ble_eq_true rfl) (Nat.le_of_ble_eq_true rfl) (Nat.le_of_ble_eq_true rfl) (fun v σ1 nx1 hx1 hq1 => ?_)
  obtain ⟨rfl, S, rfl⟩ := hq1
  rw [← hP, hlen]
  refine z_icmp_ne (tgt := 25) dL_isMapped_18 (by decide) (fun q => absurd ((rfl)) q) (fun _ => ?_)
  refine z_iconst (v := 1) dL_isMapped_21 (by decide) ?_
  refine z_goto (tgt := 26) dL_isMapped_22 (by decide) ?_
  refine z_istore dL_isMapped_26 (by decide) ?_
  refine z_iconst (v := 0) dL_isMapped_28 (by decide) ?_
  refine z_istore dL_isMapped_29 (by decide) ?_
  exact outer _ 0 _ _ _ _ _ _ _ (Nat.zero_add _) S
set_option maxRecDepth 100000 in
set_option maxHeartbeats 4000000 in
theorem l_isMappedF {i : Nat} (hG : zKap G) (S : zVs G σ b (nt, lim, mem, wk, slow, r, L, A, tk, sp, cs) R) (hr : zRl nt R) (hi : i < nt.length) (hk : zkd nt i = 2) : zM G yL_isMapped kL_isMapped [.ref b, .ref (b + 74 + 0), .ref (b + 74 + 1), .ref (b + 74 + 2), .ref (b + 74 + 3), .ref (b + 81), .int (nI i)] σ nx (fun v σ' nx' => v = some (.int 1) ∧ zVs G σ' b (nt, lim, mem, wk, slow, r, L, A, tk, sp, cs) R ∧ nx' = nx) := by
  refine zM.of (ls := [some (.ref b), some (.ref (b + 74 + 0)), some (.ref (b + 74 + 1)), some (.ref (b + 74 + 2)), some (.ref (b + 74 + 3)), some (.ref (b + 81)), some (.int (nI i)), none, none, none, none, none, none, none, none, none]) (by decide +kernel) ⟨rfl, rfl, rfl⟩ (Nat.le_of_ble_eq_true rfl) (fun _ h => h) ?_
  have h14 : nt.length ≤ 14 := S.2.1.2.2.1
  obtain ⟨e, f, s, p0, hg, k6, ke, r0, -, hf, -, -, -, -, ra, rc8, rb, -, hcon, -⟩ := zNi (lim := lim) S.2.1.1 h14 hr hi
  have ek : e.2.1 = 2 := ke.symm.trans hk
  rw [ek] at r0
  obtain ⟨fi, rf⟩ := hf (by omega)
  have hfl : f < nt.length := by omega
  have hcon : zct lim nt i = (zct lim nt f).map (zsifP e.2.2.1) := by rw [hcon, zcont, ek, if_neg (by decide), if_neg (by decide), if_pos rfl]
  obtain ⟨p300, p1, p8⟩ := zct_le (lim := lim) S.2.1.1 h14 hfl
  obtain ⟨P, hP⟩ : ∃ P, P = zct lim nt f := ⟨_, rfl⟩
  rw [← hP] at p300 p1 p8 hcon
  have hlen : (zct lim nt i).length = P.length := by rw [hcon, List.length_map]
  obtain ⟨r2, r3⟩ := rb ek
  generalize e.2.2.1 = D at hcon r2 r3
  obtain ⟨c, hc⟩ : ∃ c : Int32 × Int32 → Bool, c = fun q => decide (D 9 ≤ q.2) && decide (q.2 ≤ D 10) := ⟨_, rfl⟩
  have hgd : ∀ p, (zct lim nt i).getD p [] = (P.getD p []).filter c := fun p => by rw [hcon, zgetD_map _ rfl, zsifP, hc]
  have szM : ∀ p, zsz (zct lim nt i) p = ((P.getD p []).filter c).length := fun p => by rw [zsz, hgd]
  have outer : ∀ (d p : Nat) (σ2 : zH) (x10 x11 x12 x13 x14 x15 : Option Value), p + d = P.length → zVs G σ2 b (nt, lim, mem, wk, slow, r, L, A, tk, sp, cs) R →
      zWP G kL_isMapped (zFM G kL_isMapped.2.2.2.1 (fun v σ' nx' => v = some (.int 1) ∧ zVs G σ' b (nt, lim, mem, wk, slow, r, L, A, tk, sp, cs) R ∧ nx' = nx)) 31 [some (.ref b), some (.ref (b + 74 + 0)), some (.ref (b + 74 + 1)), some (.ref (b + 74 + 2)), some (.ref (b + 74 + 3)), some (.ref (b + 81)), some (.int (nI i)), some (.int (nI f)), some (.int 1), some (.int (nI p)), x10, x11, x12, x13, x14, x15] [] σ2 nx 0 0 := by
    intro d
    induction d with
    | zero =>
      intro p σ2 x10 x11 x12 x13 x14 x15 hp S
      refine z_iload dL_isMapped_31 rfl ?_
      refine z_aload_n dL_isMapped_33 rfl ?_
      refine z_iload dL_isMapped_34 rfl ?_
      refine z_callV dL_isMapped_36 cv0_L_58 (q_partitions hG S hi) rfl S.c rfl rfl ⟨(Nat.le_of_ble_eq_true rfl), (Nat.le_of_ble_eq_true rfl)⟩ (Nat.le_of_ble_eq_true rfl) (Nat.le_of_ble_eq_true rfl) (Nat.le_of_ble_eq_true rfl) (fun v σ1 nx1 hx1 hq1 => ?_)
      obtain ⟨rfl, S, rfl⟩ := hq1
      rw [hlen]
      refine z_icmp_ge (tgt := 292) dL_isMapped_39 (by decide) (fun _ => ?_) (fun q => absurd ((nI_le (by omega) (by omega))) q)
      refine z_iload dL_isMapped_292 rfl ?_
      exact z_zret dL_isMapped_294 rfl rfl (Nat.le_of_ble_eq_true rfl) (Nat.le_of_ble_eq_true rfl) ⟨rfl, S, rfl⟩
    | succ d ih =>
      intro p σ2 x10 x11 x12 x13 x14 x15 hp S
      have hpl : p < P.length := by omega
      have hpi : p < (zct lim nt i).length := by omega
      have hs := zsz_le (P := P) (j := p)
      have hsi := zsz_le (P := zct lim nt i) (j := p)
      have hi300 := zct_300 (lim := lim) S.2.1.1 h14 hi
      have inner : ∀ (e9 j : Nat) (σ2 : zH) (x12 x13 x14 x15 : Option Value), j + e9 = zsz P p → zVs G σ2 b (nt, lim, mem, wk, slow, r, L, A, tk, sp, cs) R →
          zWP G kL_isMapped (zFM G kL_isMapped.2.2.2.1 (fun v σ' nx' => v = some (.int 1) ∧ zVs G σ' b (nt, lim, mem, wk, slow, r, L, A, tk, sp, cs) R ∧ nx' = nx)) 53 [some (.ref b), some (.ref (b + 74 + 0)), some (.ref (b + 74 + 1)), some (.ref (b + 74 + 2)), some (.ref (b + 74 + 3)), some (.ref (b + 81)), some (.int (nI i)), some (.int (nI f)), some (.int 1), some (.int (nI p)), some (.int (nI (((P.getD p []).take j).filter c).length)), some (.int (nI j)), x12, x13, x14, x15] [] σ2 nx 0 0 := by
        intro e9
        induction e9 with
        | zero =>
          intro j σ2 x12 x13 x14 x15 hj S
          have ej : j = zsz P p := by omega
          subst ej
          refine z_iload dL_isMapped_53 rfl ?_
          refine z_aload_n dL_isMapped_55 rfl ?_
          refine z_iload dL_isMapped_56 rfl ?_
          refine z_iload dL_isMapped_58 rfl ?_
          refine z_callV dL_isMapped_60 cv0_L_61 (q_rowsIn hG S hfl (by rw [← hP]; exact hpl)) rfl S.c rfl rfl ⟨(Nat.le_of_ble_eq_true rfl), (Nat.le_of_ble_eq_true rfl)⟩ (Nat.le_of_ble_eq_true rfl) (Nat.le_of_ble_eq_true rfl) (Nat.le_of_ble_eq_true rfl) (fun v σ1 nx1 hx1 hq1 => ?_)
          obtain ⟨rfl, S, rfl⟩ := hq1
          rw [← hP]
          refine z_icmp_ge (tgt := 261) dL_isMapped_63 (by decide) (fun _ => ?_) (fun q => absurd ((nI_le (Nat.le_refl _) (by omega))) q)
          refine z_iload dL_isMapped_261 rfl ?_
          refine z_if_eq (tgt := 283) dL_isMapped_263 (by decide) (fun q => absurd q (((by decide)))) (fun _ => ?_)
          refine z_aload_n dL_isMapped_266 rfl ?_
          refine z_iload dL_isMapped_267 rfl ?_
          refine z_iload dL_isMapped_269 rfl ?_
          refine z_callV dL_isMapped_271 cv0_L_61 (q_rowsIn hG S hi hpi) rfl S.c rfl rfl ⟨(Nat.le_of_ble_eq_true rfl), (Nat.le_of_ble_eq_true rfl)⟩ (Nat.le_of_ble_eq_true rfl) (Nat.le_of_ble_eq_true rfl) (Nat.le_of_ble_eq_true rfl) (fun v σ1 nx1 hx1 hq1 => ?_)
          obtain ⟨rfl, S, rfl⟩ := hq1
          refine z_iload dL_isMapped_274 rfl ?_
          refine z_icmp_ne (tgt := 283) dL_isMapped_276 (by decide) (fun q => absurd (((by rw [szM p, zfull]))) q) (fun _ => ?_)
          refine z_iconst (v := 1) dL_isMapped_279 (by decide) ?_
          refine z_goto (tgt := 284) dL_isMapped_280 (by decide) ?_
          refine z_istore dL_isMapped_284 (by decide) ?_
          refine z_inc1 dL_isMapped_286 rfl (by decide) ?_
          rw [nI_1]
          refine z_goto (tgt := 31) dL_isMapped_289 (by decide) ?_
          exact ih (p + 1) _ _ _ _ _ _ _ (by omega) S
        | succ e9 ie =>
          intro j σ2 x12 x13 x14 x15 hj S
          have hjl : j < zsz P p := by omega
          have nxt := ie (j + 1)
          obtain ⟨q, hq⟩ : ∃ q, q = zrw P p j := ⟨_, rfl⟩
          have hq2 := zrw_at2 hjl
          rw [← hq] at hq2
          have hs9 := zfilt_s (c := c) hq2
          refine z_iload dL_isMapped_53 rfl ?_
          refine z_aload_n dL_isMapped_55 rfl ?_
          refine z_iload dL_isMapped_56 rfl ?_
          refine z_iload dL_isMapped_58 rfl ?_
          refine z_callV dL_isMapped_60 cv0_L_61 (q_rowsIn hG S hfl (by rw [← hP]; exact hpl)) rfl S.c rfl rfl ⟨(Nat.le_of_ble_eq_true rfl), (Nat.le_of_ble_eq_true rfl)⟩ (Nat.le_of_ble_eq_true rfl) (Nat.le_of_ble_eq_true rfl) (Nat.le_of_ble_eq_true rfl) (fun v σ1 nx1 hx1 hq1 => ?_)
          obtain ⟨rfl, S, rfl⟩ := hq1
          rw [← hP]
          refine z_icmp_ge (tgt := 261) dL_isMapped_63 (by decide) (fun q => absurd q ((nI_ge hjl (by omega)))) (fun _ => ?_)
          refine z_iload dL_isMapped_66 rfl ?_
          refine z_if_eq (tgt := 261) dL_isMapped_68 (by decide) (fun q => absurd q (((by decide)))) (fun _ => ?_)
          refine z_aload_n dL_isMapped_71 rfl ?_
          refine z_iload dL_isMapped_72 rfl ?_
          refine z_iload dL_isMapped_74 rfl ?_
          refine z_iload dL_isMapped_76 rfl ?_
          refine z_callV dL_isMapped_78 cv0_L_67 (q_keyAt hG S hfl (by rw [← hP]; exact hpl) (by rw [← hP]; exact hjl)) rfl S.c rfl rfl ⟨(Nat.le_of_ble_eq_true rfl), (Nat.le_of_ble_eq_true rfl)⟩ (Nat.le_of_ble_eq_true rfl) (Nat.le_of_ble_eq_true rfl) (Nat.le_of_ble_eq_true rfl) (fun v σ1 nx1 hx1 hq1 => ?_)
          obtain ⟨rfl, S, rfl⟩ := hq1
          rw [← hP, ← hq]
          refine z_istore dL_isMapped_81 (by decide) ?_
          refine z_aload_n dL_isMapped_83 rfl ?_
          refine z_iload dL_isMapped_84 rfl ?_
          refine z_iload dL_isMapped_86 rfl ?_
          refine z_iload dL_isMapped_88 rfl ?_
          refine z_callV dL_isMapped_90 cv0_L_70 (q_valueAt hG S hfl (by rw [← hP]; exact hpl) (by rw [← hP]; exact hjl)) rfl S.c rfl rfl ⟨(Nat.le_of_ble_eq_true rfl), (Nat.le_of_ble_eq_true rfl)⟩ (Nat.le_of_ble_eq_true rfl) (Nat.le_of_ble_eq_true rfl) (Nat.le_of_ble_eq_true rfl) (fun v σ1 nx1 hx1 hq1 => ?_)
          obtain ⟨rfl, S, rfl⟩ := hq1
          rw [← hP, ← hq]
          refine z_istore dL_isMapped_93 (by decide) ?_
          refine z_aload_n dL_isMapped_95 rfl ?_
          refine z_iload dL_isMapped_96 rfl ?_
          refine z_ar dL_isMapped_98 S (by decide) (by omega) r0 ?_
          refine z_iconst (v := 2) dL_isMapped_99 (by decide) ?_
          by_cases hcq : c q = true
          · obtain ⟨he, hji⟩ := zrw_of (P := zct lim nt i) (p := p) (by rw [hgd]; exact zfilt_at hq2 hcq)
            have hcq2 : D 9 ≤ q.2 ∧ q.2 ≤ D 10 := by rw [hc] at hcq; simpa using hcq
            rw [if_pos hcq] at hs9
            rw [hs9] at nxt
            refine z_icmp_ne (tgt := 144) dL_isMapped_100 (by decide) (fun q => absurd ((rfl)) q) (fun _ => ?_)
            refine z_iload dL_isMapped_103 rfl ?_
            refine z_aload_n dL_isMapped_105 rfl ?_
            refine z_iload dL_isMapped_106 rfl ?_
            refine z_ar dL_isMapped_108 S (by decide) (by omega) r2 ?_
            refine z_icmp_lt (tgt := 255) dL_isMapped_109 (by decide) (fun q => absurd q ((Int32.not_lt.mpr hcq2.1))) (fun _ => ?_)
            refine z_iload dL_isMapped_112 rfl ?_
            refine z_aload dL_isMapped_114 rfl ?_
            refine z_iload dL_isMapped_116 rfl ?_
            refine z_ar dL_isMapped_118 S (by decide) (by omega) r3 ?_
            refine z_icmp_gt (tgt := 255) dL_isMapped_119 (by decide) (fun q => absurd q ((Int32.not_lt.mpr hcq2.2))) (fun _ => ?_)
            refine z_aload_n dL_isMapped_122 rfl ?_
            refine z_iload dL_isMapped_123 rfl ?_
            refine z_iload dL_isMapped_125 rfl ?_
            refine z_iload dL_isMapped_127 rfl ?_
            refine z_iload dL_isMapped_129 rfl ?_
            refine z_iload dL_isMapped_131 rfl ?_
            refine z_callS dL_isMapped_133 cv_L_108 (l_isRow hG S hi hpi hji (by rw [he])) rfl rfl ⟨(Nat.le_of_ble_eq_true rfl), (Nat.le_of_ble_eq_true rfl)⟩ (Nat.le_of_ble_eq_true rfl) (Nat.le_of_ble_eq_true rfl) (Nat.le_of_ble_eq_true rfl) (fun v σ1 nx1 hx1 hq1 => ?_)
            obtain ⟨rfl, S, rfl⟩ := hq1
            refine z_istore dL_isMapped_136 (by decide) ?_
            refine z_inc1 dL_isMapped_138 rfl (by decide) ?_
            refine z_goto (tgt := 255) dL_isMapped_141 (by decide) ?_
            refine z_inc1 dL_isMapped_255 rfl (by decide) ?_
            rw [nI_1, nI_1]
            refine z_goto (tgt := 53) dL_isMapped_258 (by decide) ?_
            exact nxt _ _ _ _ _ (by omega) S
          · rw [if_neg hcq, Nat.add_zero] at hs9
            rw [hs9] at nxt
            refine z_icmp_ne (tgt := 144) dL_isMapped_100 (by decide) (fun q => absurd ((rfl)) q) (fun _ => ?_)
            refine z_iload dL_isMapped_103 rfl ?_
            refine z_aload_n dL_isMapped_105 rfl ?_
            refine z_iload dL_isMapped_106 rfl ?_
            refine z_ar dL_isMapped_108 S (by decide) (by omega) r2 ?_
            by_cases h1 : q.2 < D 9
            · refine z_icmp_lt (tgt := 255) dL_isMapped_109 (by decide) (fun _ => ?_) (fun q => absurd ((h1)) q)
              refine z_inc1 dL_isMapped_255 rfl (by decide) ?_
              rw [nI_1]
              refine z_goto (tgt := 53) dL_isMapped_258 (by decide) ?_
              exact nxt _ _ _ _ _ (by omega) S
            · have h2 : D 10 < q.2 := by
                rw [hc] at hcq
                simp only [Bool.and_eq_true, decide_eq_true_eq, not_and] at hcq
                exact Int32.not_le.mp (hcq (Int32.not_lt.mp h1))
              refine z_icmp_lt (tgt := 255) dL_isMapped_109 (by decide) (fun q => absurd q ((h1))) (fun _ => ?_)
              refine z_iload dL_isMapped_112 rfl ?_
              refine z_aload dL_isMapped_114 rfl ?_
              refine z_iload dL_isMapped_116 rfl ?_
              refine z_ar dL_isMapped_118 S (by decide) (by omega) r3 ?_
              refine z_icmp_gt (tgt := 255) dL_isMapped_119 (by decide) (fun _ => ?_) (fun q => absurd ((h2)) q)
              refine z_inc1 dL_isMapped_255 rfl (by decide) ?_
              rw [nI_1]
              refine z_goto (tgt := 53) dL_isMapped_258 (by decide) ?_
              exact nxt _ _ _ _ _ (by omega) S
      refine z_iload dL_isMapped_31 rfl ?_
      refine z_aload_n dL_isMapped_33 rfl ?_
      refine z_iload dL_isMapped_34 rfl ?_
      refine z_callV dL_isMapped_36 cv0_L_58 (q_partitions hG S hi) rfl S.c rfl rfl ⟨(Nat.le_of_ble_eq_true rfl), (Nat.le_of_ble_eq_true rfl)⟩ (Nat.le_of_ble_eq_true rfl) (Nat.le_of_ble_eq_true rfl) (Nat.le_of_ble_eq_true rfl) (fun v σ1 nx1 hx1 hq1 => ?_)
      obtain ⟨rfl, S, rfl⟩ := hq1
      rw [hlen]
      refine z_icmp_ge (tgt := 292) dL_isMapped_39 (by decide) (fun q => absurd q ((nI_ge hpl (by omega)))) (fun _ => ?_)
      refine z_iload dL_isMapped_42 rfl ?_
      refine z_if_eq (tgt := 292) dL_isMapped_44 (by decide) (fun q => absurd q (((by decide)))) (fun _ => ?_)
      refine z_iconst (v := 0) dL_isMapped_47 (by decide) ?_
      refine z_istore dL_isMapped_48 (by decide) ?_
      refine z_iconst (v := 0) dL_isMapped_50 (by decide) ?_
      refine z_istore dL_isMapped_51 (by decide) ?_
      exact inner _ 0 _ _ _ _ _ (Nat.zero_add _) S
  refine z_aload_n dL_isMapped_0 rfl ?_
  refine z_iload dL_isMapped_1 rfl ?_
  refine z_ar dL_isMapped_3 S (by decide) (by omega) rf ?_
  refine z_istore dL_isMapped_4 (by decide) ?_
  refine z_aload_n dL_isMapped_6 rfl ?_
  refine z_iload dL_isMapped_7 rfl ?_
  refine z_callV dL_isMapped_9 cv0_L_58 (q_partitions hG S hi) rfl S.c rfl rfl ⟨(Nat.le_of_ble_eq_true rfl), (Nat.le_of_ble_eq_true rfl)⟩ (Nat.le_of_ble_eq_true rfl) (Nat.le_of_ble_eq_true rfl) (Nat.le_of_ble_eq_true rfl) (fun v σ1 nx1 hx1 hq1 => ?_)
  obtain ⟨rfl, S, rfl⟩ := hq1
  refine z_aload_n dL_isMapped_12 rfl ?_
  refine z_iload dL_isMapped_13 rfl ?_
  refine z_callV dL_isMapped_15 cv0_L_58 (q_partitions hG S hfl) rfl S.c rfl rfl ⟨(Nat.le_of_ble_eq_true rfl), (Nat.le_of_ble_eq_true rfl)⟩ (Nat.le_of_ble_eq_true rfl) (Nat.le_of_ble_eq_true rfl) (Nat.le_of_ble_eq_true rfl) (fun v σ1 nx1 hx1 hq1 => ?_)
  obtain ⟨rfl, S, rfl⟩ := hq1
  rw [← hP, hlen]
  refine z_icmp_ne (tgt := 25) dL_isMapped_18 (by decide) (fun q => absurd ((rfl)) q) (fun _ => ?_)
  refine z_iconst (v := 1) dL_isMapped_21 (by decide) ?_
  refine z_goto (tgt := 26) dL_isMapped_22 (by decide) ?_
  refine z_istore dL_isMapped_26 (by decide) ?_
  refine z_iconst (v := 0) dL_isMapped_28 (by decide) ?_
  refine z_istore dL_isMapped_29 (by decide) ?_
  exact outer _ 0 _ _ _ _ _ _ _ (Nat.zero_add _) S
end
