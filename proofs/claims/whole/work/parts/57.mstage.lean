-- model
/-! the model: a stage -/
theorem zpw_old {work slow : Nat → Nat} {m o bg tick k j : Nat} {half : Bool} {S : zSS} (h : bg ≤ S.2.2.2.2.length) (hj : j < bg) : (zpw work slow m o bg tick half k S).1.2.2.2.2[j]? = S.2.2.2.2[j]? ∧ S.2.2.2.2.length ≤ (zpw work slow m o bg tick half k S).1.2.2.2.2.length := by
  unfold zpw
  by_cases c1 : S.2.2.2.1 k ≤ tick
  · rw [if_pos c1]
    by_cases c2 : S.1 < m
    · rw [if_pos c2]
      refine ⟨List.getElem?_append_left (by omega), ?_⟩
      show _ ≤ (S.2.2.2.2 ++ [_]).length
      rw [List.length_append]; omega
    · rw [if_neg c2]
      split
      · refine ⟨?_, ?_⟩
        · show (zse (S.2.2.2.2 ++ [_]) _ _)[j]? = _
          rw [zse, List.getElem?_modify, List.getElem?_append_left (by omega)]
          cases S.2.2.2.2[j]? with
          | none => rfl
          | some b => simp; intro e; omega
        · show _ ≤ (zse (S.2.2.2.2 ++ [_]) _ _).length
          rw [zse, List.length_modify, List.length_append]; omega
      · exact ⟨rfl, Nat.le_refl _⟩
  · rw [if_neg c1]; exact ⟨rfl, Nat.le_refl _⟩
theorem zlk_old {work slow : Nat → Nat} {m o bg tick j : Nat} {half : Bool} {S : zSS} (h : bg ≤ S.2.2.2.2.length) (hj : j < bg) : ∀ k, (zlk work slow m o bg tick half k S).1.2.2.2.2[j]? = S.2.2.2.2[j]? ∧ S.2.2.2.2.length ≤ (zlk work slow m o bg tick half k S).1.2.2.2.2.length
  | 0 => ⟨rfl, Nat.le_refl _⟩
  | k + 1 => by
    obtain ⟨a1, a2⟩ := zlk_old (half := half) h hj k
    obtain ⟨b1, b2⟩ := zpw_old (work := work) (slow := slow) (m := m) (o := o) (tick := tick) (k := k) (half := half) (S := (zlk work slow m o bg tick half k S).1) (Nat.le_trans h a2) hj
    exact ⟨b1.trans a1, Nat.le_trans a2 b2⟩
def zmx (b0 : Nat) (ends : Nat → Nat) : Nat → Nat
  | 0 => b0
  | n + 1 => if zmx b0 ends n < ends n then ends n else zmx b0 ends n
theorem zmx_le {b0 t : Nat} {ends : Nat → Nat} (h0 : b0 ≤ t) : ∀ n, (∀ p, p < n → ends p ≤ t) → zmx b0 ends n ≤ t
  | 0, _ => h0
  | n + 1, h => by
    have := zmx_le h0 n fun p hp => h p (by omega)
    have := h n (by omega)
    rw [zmx]; split <;> omega
theorem zmx_ge {b0 : Nat} {ends : Nat → Nat} : ∀ n, b0 ≤ zmx b0 ends n ∧ ∀ p, p < n → ends p ≤ zmx b0 ends n
  | 0 => ⟨Nat.le_refl _, fun p hp => absurd hp (Nat.not_lt_zero _)⟩
  | n + 1 => by
    obtain ⟨h1, h2⟩ := zmx_ge (b0 := b0) (ends := ends) n
    rw [zmx]
    split
    · refine ⟨by omega, fun p hp => ?_⟩
      by_cases e : p = n
      · subst e; exact Nat.le_refl _
      · have := h2 p (by omega); omega
    · refine ⟨h1, fun p hp => ?_⟩
      by_cases e : p = n
      · subst e; omega
      · exact h2 p (by omega)
theorem zmx_eq {b0 t n : Nat} {ends : Nat → Nat} (h0 : b0 ≤ t) (h : ∀ p, p < n → ends p ≤ t) (h2 : t = b0 ∨ ∃ p, p < n ∧ ends p = t) : zmx b0 ends n = t := by
  have := zmx_le h0 n h
  obtain ⟨a, b⟩ := zmx_ge (b0 := b0) (ends := ends) n
  rcases h2 with e | ⟨p, hp, e⟩
  · omega
  · have := b p hp; omega
theorem zea_le {ends : Nat → Nat} {tick t : Nat} (h0 : tick ≤ t) : ∀ n, (∀ p, p < n → ends p ≤ t) → zea ends tick n ≤ t
  | 0, _ => h0
  | n + 1, h => by
    have := zea_le h0 n fun p hp => h p (by omega)
    have := h n (by omega)
    rw [zea]; split <;> omega
section
variable {G : zG} {m' : Nat} {R : zMS} {o m bg sz tick B W b0 : Nat} {work slow : Nat → Nat} {S : zSS}
set_option maxRecDepth 100000 in
set_option maxHeartbeats 2000000 in
/-- one tick: the workers look, then the ends are looked through -/
theorem c_tick {Q : Option Value → zMS → Prop} {x7 x9 x10 x11 : Option Value} (h : zSR R m sz work slow S) (hwk : R.1 4 = nI sz) (hi : zIv o m bg sz tick S) (hok : zOK m bg B S) (hm : m ≤ 8) (hsz : sz ≤ 4) (ho : o < 14) (htB : tick < B) (hW : ∀ p k, p < m → k < 4 → work p * slow k ≤ W) (hB : B + W + 2 ≤ 2 ^ 31) (hw1 : ∀ p, 1 ≤ work p) (hs1 : ∀ k, k < 4 → 1 ≤ slow k) (hold : ∀ (j : Nat) (a : zAE), S.2.2.2.2[j]? = some a → j < bg → a.1 < 14) (hbg : bg ≤ 208) (hb0 : b0 ≤ tick)
    (go : ∀ (R2 : zMS) (y9 y10 y11 : Option Value), zSR R2 m sz work slow (zlk work slow m o bg tick (zhf m tick S) sz S).1 → zSRf R R2 →
      zNW G kX12_stage m' Q 138 [some (.ref m'), some (.int (nI o)), some (.int (nI b0)), some (.int (nI m)), some (.int (nI bg)), some (.int (nI (zlk work slow m o bg tick (zhf m tick S) sz S).1.1)), some (.int (if zlt work slow m o bg tick (zhf m tick S) sz S = true then nI (tick + 1) else if zea (zlk work slow m o bg tick (zhf m tick S) sz S).1.2.1 tick (zlk work slow m o bg tick (zhf m tick S) sz S).1.1 = tick then -1 else nI (zea (zlk work slow m o bg tick (zhf m tick S) sz S).1.2.1 tick (zlk work slow m o bg tick (zhf m tick S) sz S).1.1))), some (.int (nI (zmx b0 (zlk work slow m o bg tick (zhf m tick S) sz S).1.2.1 (zlk work slow m o bg tick (zhf m tick S) sz S).1.1))), some (.int (if zea (zlk work slow m o bg tick (zhf m tick S) sz S).1.2.1 tick (zlk work slow m o bg tick (zhf m tick S) sz S).1.1 = tick then 0 else 1)), y9, y10, y11] [] R2) :
    zNW G kX12_stage m' Q 138 [some (.ref m'), some (.int (nI o)), some (.int (nI b0)), some (.int (nI m)), some (.int (nI bg)), some (.int (nI S.1)), some (.int (nI tick)), x7, some (.int 1), x9, x10, x11] [] R := by
  obtain ⟨half, hhalf⟩ : ∃ z, z = zhf m tick S := ⟨_, rfl⟩
  rw [← hhalf] at go
  have hW2 : ∀ p k, p < m → k < 4 → tick + work p * slow k < B + W + 1 := fun p k hp hk => by have := hW p k hp hk; omega
  have looks : ∀ (d k : Nat) (R1 : zMS), k + d = sz → zSR R1 m sz work slow (zlk work slow m o bg tick half k S).1 → zSRf R R1 →
      zNW G kX12_stage m' Q 149 [some (.ref m'), some (.int (nI o)), some (.int (nI b0)), some (.int (nI m)), some (.int (nI bg)), some (.int (nI (zlk work slow m o bg tick half k S).1.1)), some (.int (nI tick)), x7, some (.int 1), some (.int (zbi (zlt work slow m o bg tick half k S))), some (.int (nI k)), x11] [] R1 := by
    intro d
    induction d with
    | zero =>
      intro k R1 hk h1 f1
      have e : k = sz := by omega
      subst e
      have ok1 := zlk_ok (half := half) (o := o) (tick := tick) (work := work) (slow := slow) (hok.up (show B ≤ B + W + 1 by omega)) hm hW2 k hsz
      generalize zlt work slow m o bg tick half k S = isT at *
      generalize (zlk work slow m o bg tick half k S).1 = U at *
      have u8 : U.1 ≤ m := ok1.1
      have scan : ∀ (d p : Nat), p + d = U.1 → zNW G kX12_stage m' Q 249 [some (.ref m'), some (.int (nI o)), some (.int (nI b0)), some (.int (nI m)), some (.int (nI bg)), some (.int (nI U.1)), some (.int (nI tick)), some (.int (nI (zmx b0 U.2.1 p))), some (.int 1), some (.int (zbi isT)), some (.int (if zea U.2.1 tick p = tick then -1 else nI (zea U.2.1 tick p))), some (.int (nI p))] [] R1 := by
        intro d
        induction d with
        | zero =>
          intro p hp
          have e : p = U.1 := by omega
          subst e
          refine n_iload dX12_stage_249 rfl ?_
          refine n_iload dX12_stage_251 rfl ?_
          refine n_icmp_ge (tgt := 332) dX12_stage_253 (by decide) (fun _ => ?_) (fun q => absurd ((nI_le (Nat.le_refl _) (by omega))) q)
          have last : ∀ x8 : Int32, x8 = (if zea U.2.1 tick U.1 = tick then 0 else 1) → zNW G kX12_stage m' Q 345 [some (.ref m'), some (.int (nI o)), some (.int (nI b0)), some (.int (nI m)), some (.int (nI bg)), some (.int (nI U.1)), some (.int (nI tick)), some (.int (nI (zmx b0 U.2.1 U.1))), some (.int x8), some (.int (zbi isT)), some (.int (if zea U.2.1 tick U.1 = tick then -1 else nI (zea U.2.1 tick U.1))), some (.int (nI U.1))] [] R1 := by
            intro x8 hx
            have g := go R1 (some (.int (zbi isT))) (some (.int (if zea U.2.1 tick U.1 = tick then -1 else nI (zea U.2.1 tick U.1)))) (some (.int (nI U.1))) h1 f1
            rw [← hx] at g
            refine n_iload dX12_stage_345 rfl ?_
            cases isT with
            | true =>
              rw [if_pos rfl] at g
              refine n_if_eq (tgt := 357) dX12_stage_347 (by decide) (fun q => absurd q ((by decide))) (fun _ => ?_)
              refine n_iload dX12_stage_350 rfl ?_
              refine n_iconst (v := (nI 1)) dX12_stage_352 (by decide) ?_
              refine n_iadd dX12_stage_353 ?_
              rw [nI_add]
              refine n_goto (tgt := 359) dX12_stage_354 (by decide) ?_
              refine n_istore dX12_stage_359 (by decide) ?_
              refine n_goto (tgt := 138) dX12_stage_361 (by decide) ?_
              exact g
            | false =>
              rw [if_neg (by decide)] at g
              refine n_if_eq (tgt := 357) dX12_stage_347 (by decide) (fun _ => ?_) (fun q => absurd (rfl) q)
              refine n_iload dX12_stage_357 rfl ?_
              refine n_istore dX12_stage_359 (by decide) ?_
              refine n_goto (tgt := 138) dX12_stage_361 (by decide) ?_
              exact g
          by_cases c : zea U.2.1 tick U.1 = tick
          · simp only [if_pos c] at last ⊢
            refine n_iload dX12_stage_332 rfl ?_
            refine n_iconst (v := (-1)) dX12_stage_334 (by decide) ?_
            refine n_icmp_eq (tgt := 342) dX12_stage_335 (by decide) (fun _ => ?_) (fun q => absurd (rfl) q)
            refine n_iconst (v := (nI 0)) dX12_stage_342 (by decide) ?_
            refine n_istore dX12_stage_343 (by decide) ?_
            exact last _ rfl
          · simp only [if_neg c] at last ⊢
            have := zea_lt (ends := U.2.1) (tick := tick) (B := B + W + 1) (by omega) U.1 ok1.2.1
            refine n_iload dX12_stage_332 rfl ?_
            refine n_iconst (v := (-1)) dX12_stage_334 (by decide) ?_
            refine n_icmp_eq (tgt := 342) dX12_stage_335 (by decide) (fun q => absurd q ((fun w => absurd (show nI (zea U.2.1 tick U.1) < 0 by rw [w]; decide) (nI_pos (by omega))))) (fun _ => ?_)
            refine n_iconst (v := (nI 1)) dX12_stage_338 (by decide) ?_
            refine n_goto (tgt := 343) dX12_stage_339 (by decide) ?_
            refine n_istore dX12_stage_343 (by decide) ?_
            exact last _ rfl
        | succ d ih =>
          intro p hp
          have nx := ih (p + 1) (by omega)
          have r1 := h1.2.2.1 p (by omega)
          have e1 := ok1.2.1 p (by omega)
          have hz := zea_lt (ends := U.2.1) (tick := tick) (B := B + W + 1) (by omega) p fun q hq => ok1.2.1 q (by omega)
          have hx := zmx_le (b0 := b0) (t := B + W + 1) (ends := U.2.1) (by omega) p fun q hq => by have := ok1.2.1 q (by omega); omega
          rw [zea, zmx] at nx
          generalize zea U.2.1 tick p = z at *
          generalize zmx b0 U.2.1 p = y at *
          have sec : ∀ th : Int32, th = (if (if tick < U.2.1 p ∧ (z = tick ∨ U.2.1 p < z) then U.2.1 p else z) = tick then -1 else nI (if tick < U.2.1 p ∧ (z = tick ∨ U.2.1 p < z) then U.2.1 p else z)) → zNW G kX12_stage m' Q 298 [some (.ref m'), some (.int (nI o)), some (.int (nI b0)), some (.int (nI m)), some (.int (nI bg)), some (.int (nI U.1)), some (.int (nI tick)), some (.int (nI y)), some (.int 1), some (.int (zbi isT)), some (.int (if z = tick then -1 else nI z)), some (.int (nI p))] [.int th] R1 := by
            intro th hth
            rw [← hth] at nx
            refine n_istore dX12_stage_298 (by decide) ?_
            refine n_aload_n dX12_stage_300 rfl ?_
            refine n_get dX12_stage_301 fl_X12_111 rfl ?_
            refine n_iload dX12_stage_304 rfl ?_
            refine n_iald (j := 30) dX12_stage_306 (by decide) rfl rfl (show _ < 8 by omega) r1 ?_
            refine n_iload dX12_stage_307 rfl ?_
            by_cases c : y < U.2.1 p
            · rw [if_pos c] at nx
              refine n_icmp_le (tgt := 322) dX12_stage_309 (by decide) (fun q => absurd q ((nI_ge c (by omega)))) (fun _ => ?_)
              refine n_aload_n dX12_stage_312 rfl ?_
              refine n_get dX12_stage_313 fl_X12_111 rfl ?_
              refine n_iload dX12_stage_316 rfl ?_
              refine n_iald (j := 30) dX12_stage_318 (by decide) rfl rfl (show _ < 8 by omega) r1 ?_
              refine n_goto (tgt := 324) dX12_stage_319 (by decide) ?_
              refine n_istore dX12_stage_324 (by decide) ?_
              refine n_inc1 dX12_stage_326 rfl (by decide) ?_
              rw [nI_1]
              refine n_goto (tgt := 249) dX12_stage_329 (by decide) ?_
              exact nx
            · rw [if_neg c] at nx
              refine n_icmp_le (tgt := 322) dX12_stage_309 (by decide) (fun _ => ?_) (fun q => absurd ((nI_le (by omega) (by omega))) q)
              refine n_iload dX12_stage_322 rfl ?_
              refine n_istore dX12_stage_324 (by decide) ?_
              refine n_inc1 dX12_stage_326 rfl (by decide) ?_
              rw [nI_1]
              refine n_goto (tgt := 249) dX12_stage_329 (by decide) ?_
              exact nx
          have stay : ¬ (tick < U.2.1 p ∧ (z = tick ∨ U.2.1 p < z)) → zNW G kX12_stage m' Q 296 [some (.ref m'), some (.int (nI o)), some (.int (nI b0)), some (.int (nI m)), some (.int (nI bg)), some (.int (nI U.1)), some (.int (nI tick)), some (.int (nI y)), some (.int 1), some (.int (zbi isT)), some (.int (if z = tick then -1 else nI z)), some (.int (nI p))] [] R1 := by
            intro c
            rw [if_neg c] at sec
            refine n_iload dX12_stage_296 rfl ?_
            exact sec _ rfl
          have take : (tick < U.2.1 p ∧ (z = tick ∨ U.2.1 p < z)) → zNW G kX12_stage m' Q 286 [some (.ref m'), some (.int (nI o)), some (.int (nI b0)), some (.int (nI m)), some (.int (nI bg)), some (.int (nI U.1)), some (.int (nI tick)), some (.int (nI y)), some (.int 1), some (.int (zbi isT)), some (.int (if z = tick then -1 else nI z)), some (.int (nI p))] [] R1 := by
            intro c
            rw [if_pos c, if_neg (show ¬ U.2.1 p = tick by omega)] at sec
            refine n_aload_n dX12_stage_286 rfl ?_
            refine n_get dX12_stage_287 fl_X12_111 rfl ?_
            refine n_iload dX12_stage_290 rfl ?_
            refine n_iald (j := 30) dX12_stage_292 (by decide) rfl rfl (show _ < 8 by omega) r1 ?_
            refine n_goto (tgt := 298) dX12_stage_293 (by decide) ?_
            exact sec _ rfl
          refine n_iload dX12_stage_249 rfl ?_
          refine n_iload dX12_stage_251 rfl ?_
          refine n_icmp_ge (tgt := 332) dX12_stage_253 (by decide) (fun q => absurd q ((nI_ge (show p < U.1 by omega) (by omega)))) (fun _ => ?_)
          refine n_aload_n dX12_stage_256 rfl ?_
          refine n_get dX12_stage_257 fl_X12_111 rfl ?_
          refine n_iload dX12_stage_260 rfl ?_
          refine n_iald (j := 30) dX12_stage_262 (by decide) rfl rfl (show _ < 8 by omega) r1 ?_
          refine n_iload dX12_stage_263 rfl ?_
          by_cases c1 : tick < U.2.1 p
          · refine n_icmp_le (tgt := 296) dX12_stage_265 (by decide) (fun q => absurd q ((nI_ge c1 (by omega)))) (fun _ => ?_)
            by_cases c2 : z = tick
            · rw [if_pos c2] at take stay ⊢
              refine n_iload dX12_stage_268 rfl ?_
              refine n_iconst (v := (-1)) dX12_stage_270 (by decide) ?_
              refine n_icmp_eq (tgt := 286) dX12_stage_271 (by decide) (fun _ => ?_) (fun q => absurd (rfl) q)
              exact take ⟨c1, Or.inl c2⟩
            · rw [if_neg c2] at take stay ⊢
              refine n_iload dX12_stage_268 rfl ?_
              refine n_iconst (v := (-1)) dX12_stage_270 (by decide) ?_
              refine n_icmp_eq (tgt := 286) dX12_stage_271 (by decide) (fun q => absurd q ((fun w => absurd (show nI z < 0 by rw [w]; decide) (nI_pos (by omega))))) (fun _ => ?_)
              refine n_aload_n dX12_stage_274 rfl ?_
              refine n_get dX12_stage_275 fl_X12_111 rfl ?_
              refine n_iload dX12_stage_278 rfl ?_
              refine n_iald (j := 30) dX12_stage_280 (by decide) rfl rfl (show _ < 8 by omega) r1 ?_
              refine n_iload dX12_stage_281 rfl ?_
              by_cases c3 : U.2.1 p < z
              · refine n_icmp_ge (tgt := 296) dX12_stage_283 (by decide) (fun q => absurd q ((nI_ge c3 (by omega)))) (fun _ => ?_)
                exact take ⟨c1, Or.inr c3⟩
              · refine n_icmp_ge (tgt := 296) dX12_stage_283 (by decide) (fun _ => ?_) (fun q => absurd ((nI_le (by omega) (by omega))) q)
                exact stay fun w => by omega
          · refine n_icmp_le (tgt := 296) dX12_stage_265 (by decide) (fun _ => ?_) (fun q => absurd ((nI_le (by omega) (by omega))) q)
            exact stay fun w => c1 w.1
      have s0 := scan U.1 0 (by omega)
      rw [show zea U.2.1 tick 0 = tick from rfl, if_pos rfl] at s0
      refine n_iload dX12_stage_149 rfl ?_
      refine n_aload_n dX12_stage_151 rfl ?_
      refine n_getE dX12_stage_152 fl_X12_65 rfl ((f1.1 4 (by decide)).trans hwk) ?_
      refine n_icmp_ge (tgt := 240) dX12_stage_155 (by decide) (fun _ => ?_) (fun q => absurd ((nI_le (Nat.le_refl _) (by omega))) q)
      refine n_iconst (v := (-1)) dX12_stage_240 (by decide) ?_
      refine n_istore dX12_stage_241 (by decide) ?_
      refine n_iload_n dX12_stage_243 rfl ?_
      refine n_istore dX12_stage_244 (by decide) ?_
      refine n_iconst (v := (nI 0)) dX12_stage_246 (by decide) ?_
      refine n_istore dX12_stage_247 (by decide) ?_
      exact s0
    | succ d ih =>
      intro k R1 hk h1 f1
      have nx := ih (k + 1)
      have ok1 := zlk_ok (half := half) (o := o) (tick := tick) (work := work) (slow := slow) (hok.up (show B ≤ B + W + 1 by omega)) hm hW2 k (by omega)
      obtain ⟨g1, g2, g3, -⟩ := zlk_keep (half := half) hi hm hw1 hs1 k (by omega)
      have old : ∀ (j : Nat) (a : zAE), (zlk work slow m o bg tick half k S).1.2.2.2.2[j]? = some a → j < bg → a.1 < 14 := fun j a q hj => hold j a ((zlk_old (by have := hi.2.1; omega) hj k).1.symm.trans q) hj
      have e4 : zlk work slow m o bg tick half (k + 1) S = ((zpw work slow m o bg tick half k (zlk work slow m o bg tick half k S).1).1, (zlk work slow m o bg tick half k S).2 || (zpw work slow m o bg tick half k (zlk work slow m o bg tick half k S).1).2) := rfl
      have e5 : zlt work slow m o bg tick half (k + 1) S = (zlt work slow m o bg tick half k S || (decide ((zlk work slow m o bg tick half k S).1.2.2.2.1 k ≤ tick ∧ (zlk work slow m o bg tick half k S).1.1 < m) || (zpw work slow m o bg tick half k (zlk work slow m o bg tick half k S).1).2)) := rfl
      rw [e4, e5] at nx
      simp only at nx
      clear e4 e5 ih go
      generalize zlt work slow m o bg tick half k S = isT at *
      generalize (zlk work slow m o bg tick half k S).1 = U at *
      have hh : half = zhf m tick U := by rw [hhalf]; unfold zhf; rw [g2]
      have u8 : U.1 ≤ m := ok1.1
      have len : U.2.2.2.2.length ≤ bg + 16 := by
        have := ok1.2.2.2.1
        have := zcn_le U.2.2.1 8
        omega
      have r5 := h1.2.2.2.2.1 k (by omega)
      have b5 := ok1.2.2.1 k (by omega)
      have tail : ∀ (R3 : zMS) (b : Bool) (n : Nat), (b = true ↔ isT = true ∨ (U.2.2.2.1 k ≤ tick ∧ U.1 < m) ∨ (zpw work slow m o bg tick half k U).2 = true) → n = (zpw work slow m o bg tick half k U).1.1 → zSR R3 m sz work slow (zpw work slow m o bg tick half k U).1 → zSRf R R3 →
          zNW G kX12_stage m' Q 234 [some (.ref m'), some (.int (nI o)), some (.int (nI b0)), some (.int (nI m)), some (.int (nI bg)), some (.int (nI n)), some (.int (nI tick)), x7, some (.int 1), some (.int (zbi b)), some (.int (nI k)), x11] [] R3 := by
        intro R3 b n hb hn h3 f3
        subst hn
        have eb : b = (isT || (decide (U.2.2.2.1 k ≤ tick ∧ U.1 < m) || (zpw work slow m o bg tick half k U).2)) := by
          rw [Bool.eq_iff_iff, hb]
          simp only [Bool.or_eq_true, decide_eq_true_eq]
        rw [← eb] at nx
        refine n_inc1 dX12_stage_234 rfl (by decide) ?_
        rw [nI_1]
        refine n_goto (tgt := 149) dX12_stage_237 (by decide) ?_
        exact nx R3 (by omega) h3 f3
      refine n_iload dX12_stage_149 rfl ?_
      refine n_aload_n dX12_stage_151 rfl ?_
      refine n_getE dX12_stage_152 fl_X12_65 rfl ((f1.1 4 (by decide)).trans hwk) ?_
      refine n_icmp_ge (tgt := 240) dX12_stage_155 (by decide) (fun q => absurd q ((nI_ge (show k < sz by omega) (by omega)))) (fun _ => ?_)
      refine n_aload_n dX12_stage_158 rfl ?_
      refine n_get dX12_stage_159 fl_X12_117 rfl ?_
      refine n_iload dX12_stage_162 rfl ?_
      refine n_iald (j := 32) dX12_stage_164 (by decide) rfl rfl (show _ < 4 by omega) r5 ?_
      refine n_iload dX12_stage_165 rfl ?_
      by_cases c1 : U.2.2.2.1 k ≤ tick
      · refine n_icmp_gt (tgt := 197) dX12_stage_167 (by decide) (fun q => absurd q ((fun w => absurd w (Int32.not_lt.mpr (nI_le c1 (by omega)))))) (fun _ => ?_)
        refine n_iload dX12_stage_170 rfl ?_
        refine n_iload_n dX12_stage_172 rfl ?_
        by_cases c2 : U.1 < m
        · have ep : zpw work slow m o bg tick half k U = (zpt work slow o tick k U, false) := by unfold zpw; rw [if_pos c1, if_pos c2]
          rw [ep] at tail
          refine n_icmp_ge (tgt := 197) dX12_stage_173 (by decide) (fun q => absurd q ((nI_ge c2 (by omega)))) (fun _ => ?_)
          refine n_aload_n dX12_stage_176 rfl ?_
          refine n_iload_n dX12_stage_177 rfl ?_
          refine n_iload dX12_stage_178 rfl ?_
          refine n_iload dX12_stage_180 rfl ?_
          refine n_iload dX12_stage_182 rfl ?_
          refine n_iconst (v := (nI 0)) dX12_stage_184 (by decide) ?_
          refine n_call dX12_stage_185 cv_X12_244 (c_takes (c := nI 0) (n := U.2.2.2.2.length) (w := work U.1) (s := slow k) h1.1 (by omega) (by omega) (by omega) (h1.2.2.2.2.2.1 U.1 (by omega)) (h1.2.2.2.2.2.2 k (by omega)) rfl) rfl rfl rfl ⟨(Nat.le_of_ble_eq_true rfl), (Nat.le_of_ble_eq_true rfl)⟩ rfl rfl (Nat.le_of_ble_eq_true rfl) (fun v S2 hq2 => ?_)
          obtain ⟨rfl, hS⟩ := hq2
          subst hS
          refine n_inc1 dX12_stage_188 rfl (by decide) ?_
          rw [nI_1]
          refine n_iconst (v := (nI 1)) dX12_stage_191 (by decide) ?_
          refine n_istore dX12_stage_192 (by decide) ?_
          refine n_goto (tgt := 234) dX12_stage_194 (by decide) ?_
          exact tail _ true (U.1 + 1) ⟨fun _ => Or.inr (Or.inl ⟨c1, c2⟩), fun _ => rfl⟩ rfl (zSR_pt h1 g1 c2 hm) (f1.tr zSRf_k)
        · have em : U.1 = m := by omega
          refine n_icmp_ge (tgt := 197) dX12_stage_173 (by decide) (fun _ => ?_) (fun q => absurd ((nI_le (by omega) (by omega))) q)
          refine n_aload_n dX12_stage_197 rfl ?_
          refine n_get dX12_stage_198 fl_X12_117 rfl ?_
          refine n_iload dX12_stage_201 rfl ?_
          refine n_iald (j := 32) dX12_stage_203 (by decide) rfl rfl (show _ < 4 by omega) r5 ?_
          refine n_iload dX12_stage_204 rfl ?_
          refine n_icmp_gt (tgt := 234) dX12_stage_206 (by decide) (fun q => absurd q ((fun w => absurd w (Int32.not_lt.mpr (nI_le c1 (by omega)))))) (fun _ => ?_)
          refine n_aload_n dX12_stage_209 rfl ?_
          refine n_iload_n dX12_stage_210 rfl ?_
          refine n_iload_n dX12_stage_211 rfl ?_
          refine n_iload dX12_stage_212 rfl ?_
          refine n_iload dX12_stage_214 rfl ?_
          refine n_call dX12_stage_216 cv_X12_251 (c_copies h1 g1 ok1 (by omega) em hm ho (by omega) c1 (by omega) (fun p hp => by have := hW2 p k hp (by omega); omega) old (by omega)) rfl rfl rfl ⟨(Nat.le_of_ble_eq_true rfl), (Nat.le_of_ble_eq_true rfl)⟩ rfl rfl (Nat.le_of_ble_eq_true rfl) (fun v S2 hq2 => ?_)
          obtain ⟨rfl, q1, q2⟩ := hq2
          rw [← hh] at q1 ⊢
          have en : U.1 = (zpw work slow m o bg tick half k U).1.1 := by
            unfold zpw
            rw [if_pos c1, if_neg c2]
            split
            · rfl
            · rfl
          cases w : (zpw work slow m o bg tick half k U).2 with
          | true =>
            refine n_if_ne (tgt := 227) dX12_stage_219 (by decide) (fun _ => ?_) (fun q => absurd q ((by decide)))
            refine n_iconst (v := (nI 1)) dX12_stage_227 (by decide) ?_
            refine n_goto (tgt := 232) dX12_stage_228 (by decide) ?_
            refine n_istore dX12_stage_232 (by decide) ?_
            exact tail S2 true U.1 ⟨fun _ => Or.inr (Or.inr w), fun _ => rfl⟩ en q1 (f1.tr q2)
          | false =>
            refine n_if_ne (tgt := 227) dX12_stage_219 (by decide) (fun q => absurd ((by decide)) q) (fun _ => ?_)
            refine n_iload dX12_stage_222 rfl ?_
            cases isT with
            | true =>
              refine n_if_eq (tgt := 231) dX12_stage_224 (by decide) (fun q => absurd q ((by decide))) (fun _ => ?_)
              refine n_iconst (v := (nI 1)) dX12_stage_227 (by decide) ?_
              refine n_goto (tgt := 232) dX12_stage_228 (by decide) ?_
              refine n_istore dX12_stage_232 (by decide) ?_
              exact tail S2 true U.1 ⟨fun _ => Or.inl rfl, fun _ => rfl⟩ en q1 (f1.tr q2)
            | false =>
              refine n_if_eq (tgt := 231) dX12_stage_224 (by decide) (fun _ => ?_) (fun q => absurd (rfl) q)
              refine n_iconst (v := (nI 0)) dX12_stage_231 (by decide) ?_
              refine n_istore dX12_stage_232 (by decide) ?_
              exact tail S2 false U.1 ⟨fun z => (nomatch z), fun z => by rcases z with z | z | z; exact z; exact absurd z.2 c2; rw [w] at z; exact z⟩ en q1 (f1.tr q2)
      · have ep : zpw work slow m o bg tick half k U = (U, false) := by unfold zpw; rw [if_neg c1]
        rw [ep] at tail
        refine n_icmp_gt (tgt := 197) dX12_stage_167 (by decide) (fun _ => ?_) (fun q => absurd ((nI_lt (by omega) (by omega))) q)
        refine n_aload_n dX12_stage_197 rfl ?_
        refine n_get dX12_stage_198 fl_X12_117 rfl ?_
        refine n_iload dX12_stage_201 rfl ?_
        refine n_iald (j := 32) dX12_stage_203 (by decide) rfl rfl (show _ < 4 by omega) r5 ?_
        refine n_iload dX12_stage_204 rfl ?_
        refine n_icmp_gt (tgt := 234) dX12_stage_206 (by decide) (fun _ => ?_) (fun q => absurd ((nI_lt (by omega) (by omega))) q)
        exact tail R1 isT U.1 ⟨fun z => Or.inl z, fun z => by rcases z with z | z | z; exact z; exact absurd z.1 c1; exact nomatch z⟩ rfl h1 f1
  refine n_iload dX12_stage_138 rfl ?_
  refine n_if_eq (tgt := 364) dX12_stage_140 (by decide) (fun q => absurd q ((by decide))) (fun _ => ?_)
  refine n_iconst (v := (nI 0)) dX12_stage_143 (by decide) ?_
  refine n_istore dX12_stage_144 (by decide) ?_
  refine n_iconst (v := (nI 0)) dX12_stage_146 (by decide) ?_
  refine n_istore dX12_stage_147 (by decide) ?_
  exact looks sz 0 R (by omega) h (zSRf.rf R)
end
