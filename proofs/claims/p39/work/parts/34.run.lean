/-! Taskgraphic: run -/
/-- what is so of the sets while a plan is drawn for a node -/
def zDI (nt : zNT) (C : Nat → Bool) (i : Nat) (t : zT3) : Prop := (∀ m, t.1 m = true → C m = true ∧ bt (zLin nt i) m = true ∧ m < nt.length) ∧ (∀ m, t.2.1 m = true → C m = false ∧ bt (zLin nt i) m = true ∧ m < nt.length) ∧ ∀ m, t.2.2 m = true → bt (zLin nt i) m = true ∧ m < nt.length
theorem zDI_need {nt : zNT} {C : Nat → Bool} {i k : Nat} {t : zT3} (h : zDI nt C i t) (h1 : bt (zLin nt i) k = true) (h2 : k < nt.length) : zDI nt C i (zneed C k t) := by
  unfold zneed
  by_cases c : C k = true
  · rw [if_pos c]
    refine ⟨fun m q => ?_, h.2⟩
    rcases zor_iff.mp q with q | q
    · exact h.1 m q
    · subst q; exact ⟨c, h1, h2⟩
  · rw [if_neg c]
    refine ⟨h.1, fun m q => ?_, h.2.2⟩
    rcases zor_iff.mp q with q | q
    · exact h.2.1 m q
    · subst q; exact ⟨by simpa using c, h1, h2⟩
theorem zDI_met {nt : zNT} {C : Nat → Bool} {i k : Nat} {t : zT3} (h : zDI nt C i t) (h1 : bt (zLin nt i) k = true) (h2 : k < nt.length) : zDI nt C i (t.1, t.2.1, zor t.2.2 k) := by
  refine ⟨h.1, h.2.1, fun m q => ?_⟩
  rcases zor_iff.mp q with q | q
  · exact h.2.2 m q
  · subst q; exact ⟨h1, h2⟩
theorem zDI_read {lim : Nat} {nt : zNT} {C : Nat → Bool} {i : Nat} (hw : zWf nt) (hl : nt.length ≤ 14) (hi : i < nt.length) : ∀ (d k j : Nat) (t : zT3), k < d → k < nt.length → bt (zLin nt i) k = true → zDI nt C i t → zDI nt C i (zread lim nt C d k j t).1 := by
  intro d
  induction d with
  | zero => intro k j t hd; exact absurd hd (Nat.not_lt_zero _)
  | succ d ih =>
    intro k j t hd hk lk h
    obtain ⟨e, hei, eD, ek, k6, ff, ss, pp, lf, ls, -⟩ := zNfo (lim := lim) hw hl hk
    have one : 1 ≤ e.2.1 → zf1 nt k < nt.length ∧ bt (zLin nt i) (zf1 nt k) = true := fun q => by
      have f1 := (ff q).1
      exact ⟨by omega, zLin_tr hw hl i hi k (by omega) lk _ (by omega) (lf q _ (by omega) (zLin_lt hw hl _ (by omega)).2)⟩
    have two : e.2.1 = 3 ∨ e.2.1 = 5 → zf2 nt k < nt.length ∧ bt (zLin nt i) (zf2 nt k) = true := fun q => by
      have f1 := (ss q).1
      exact ⟨by omega, zLin_tr hw hl i hi k (by omega) lk _ (by omega) (ls q _ (by omega) (zLin_lt hw hl _ (by omega)).2)⟩
    have hm := zDI_met h lk hk
    rw [zread]
    by_cases c1 : C k = true
    · rw [if_pos c1]
      refine ⟨fun m q => ?_, h.2⟩
      rcases zor_iff.mp q with q | q
      · exact h.1 m q
      · subst q; exact ⟨c1, lk, hk⟩
    · rw [if_neg c1]
      by_cases c2 : zkd nt k = 0
      · rw [if_pos c2]; exact hm
      · rw [if_neg c2]
        rw [ek] at c2
        have f1 := (ff (by omega)).1
        obtain ⟨o1, o2⟩ := one (by omega)
        by_cases c3 : zkd nt k = 4
        · rw [if_pos c3]; exact zDI_need hm o2 o1
        · rw [if_neg c3]
          by_cases c4 : zkd nt k = 5
          · rw [if_pos c4]
            obtain ⟨w1, w2⟩ := two (by omega)
            by_cases c5 : zbr lim nt k = true
            · rw [if_pos c5]; exact ih _ _ _ (by omega) o1 o2 (zDI_need hm w2 w1)
            · rw [if_neg c5]; exact zDI_need (zDI_need hm o2 o1) w2 w1
          · rw [if_neg c4]
            by_cases c6 : zkd nt k = 3 ∧ (zct lim nt (zf1 nt k)).length ≤ j
            · rw [if_pos c6]
              have s1 := (ss (by omega)).1
              obtain ⟨w1, w2⟩ := two (by omega)
              exact ih _ _ _ (by omega) w1 w2 hm
            · rw [if_neg c6]; exact ih _ _ _ (by omega) o1 o2 hm
theorem zDI_row {lim : Nat} {nt : zNT} {C : Nat → Bool} {i k : Nat} (hw : zWf nt) (hl : nt.length ≤ 14) (hi : i < nt.length) (hk : k < nt.length) (lk : bt (zLin nt i) k = true) {t : zT3} (h : zDI nt C i t) : ∀ n, zDI nt C i (zrow lim nt C k n t)
  | 0 => h
  | n + 1 => zDI_read hw hl hi 14 k n _ (by omega) hk lk (zDI_row hw hl hi hk lk h n)
theorem zDI_dr {lim : Nat} {nt : zNT} {C : Nat → Bool} {i : Nat} (hw : zWf nt) (hl : nt.length ≤ 14) (hi : i < nt.length) : ∀ (k : Nat) (t : zT3), zDI nt C i t → zDI nt C i (zdr lim nt C k t)
  | 0, t, h => h
  | k + 1, t, h => by
    rw [zdr]
    by_cases c : t.2.1 k = true
    · rw [if_pos c]; exact zDI_dr hw hl hi k _ (zDI_row hw hl hi (h.2.1 k c).2.2 (h.2.1 k c).2.1 h _)
    · rw [if_neg c]; exact zDI_dr hw hl hi k _ h
theorem zDI_draw {lim : Nat} {nt : zNT} {C : Nat → Bool} {i : Nat} (hw : zWf nt) (hl : nt.length ≤ 14) (hi : i < nt.length) : zDI nt C i (zdraw lim nt C i) := by
  refine zDI_dr hw hl hi 14 _ (zDI_need ⟨fun m q => (nomatch q), fun m q => (nomatch q), fun m q => (nomatch q)⟩ (zLin_lt hw hl i hi).2 hi)
theorem zct_le {lim : Nat} {nt : zNT} (hw : zWf nt) (hl : nt.length ≤ 14) {i : Nat} (hi : i < nt.length) : (zct lim nt i).flatten.length ≤ 300 ∧ 1 ≤ (zct lim nt i).length ∧ (zct lim nt i).length ≤ 8 := by
  have he : nt[i]? = some (nt[i]'hi) := List.getElem?_eq_getElem _
  obtain ⟨f, s, p, -, ⟨-, b2, -, -, b3⟩, -⟩ := hw i _ he
  have := zcon_len hw hl false lim i _ he
  simp only [Bool.false_eq_true, if_false] at this
  exact ⟨by unfold zct; omega, this.2.1, by unfold zct; omega⟩
theorem zread_le {lim : Nat} {nt : zNT} {C : Nat → Bool} (hw : zWf nt) (hl : nt.length ≤ 14) : ∀ (d i j : Nat) (t : zT3), i < d → i < nt.length → (zread lim nt C d i j t).2 ≤ 300 * (d + 1) := by
  intro d
  induction d with
  | zero => intro k j t hd; exact absurd hd (Nat.not_lt_zero _)
  | succ d ih =>
    intro k j t hd hk
    obtain ⟨e, hei, eD, ek, k6, ff, ss, -⟩ := zNfo (lim := lim) hw hl hk
    have own := (zct_le (lim := lim) hw hl hk).1
    have hz := zsz_le (P := zct lim nt k) (j := j)
    have sh : ∀ m, m < nt.length → ∀ p, zshr (zct lim nt m) p j ≤ 300 := fun m hm p => Nat.le_trans (List.length_filter_le _ _) (zct_le (lim := lim) hw hl hm).1
    rw [zread]
    by_cases c1 : C k = true
    · rw [if_pos c1]; show zsz _ _ ≤ _; omega
    · rw [if_neg c1]
      by_cases c2 : zkd nt k = 0
      · rw [if_pos c2]; show zsz _ _ ≤ _; omega
      · rw [if_neg c2]
        rw [ek] at c2
        have f1 := (ff (by omega)).1
        have s1 := sh (zf1 nt k) (by omega) (ztd nt k)
        by_cases c3 : zkd nt k = 4
        · rw [if_pos c3]; show zshr _ _ _ ≤ _; omega
        · rw [if_neg c3]
          by_cases c4 : zkd nt k = 5
          · rw [if_pos c4]
            have f2 := (ss (by omega)).1
            have s2 := sh (zf2 nt k) (by omega) (ztd nt k)
            have w2 := (zct_le (lim := lim) hw hl (show zf2 nt k < nt.length by omega)).1
            by_cases c5 : zbr lim nt k = true
            · rw [if_pos c5]
              have := ih (zf1 nt k) j (zneed C (zf2 nt k) (t.1, t.2.1, zor t.2.2 k)) (by omega) (by omega)
              show _ + _ ≤ _; omega
            · rw [if_neg c5]; show _ + _ ≤ _; omega
          · rw [if_neg c4]
            by_cases c6 : zkd nt k = 3 ∧ (zct lim nt (zf1 nt k)).length ≤ j
            · rw [if_pos c6]
              have f2 := (ss (by omega)).1
              have := ih (zf2 nt k) (j - (zct lim nt (zf1 nt k)).length) (t.1, t.2.1, zor t.2.2 k) (by omega) (by omega)
              omega
            · rw [if_neg c6]
              have := ih (zf1 nt k) j (t.1, t.2.1, zor t.2.2 k) (by omega) (by omega)
              omega
theorem zsum_le {lim : Nat} {nt : zNT} {C : Nat → Bool} (hw : zWf nt) (hl : nt.length ≤ 14) {i : Nat} (hi : i < nt.length) (j : Nat) : zsum lim nt C i j ≤ 4500 := zread_le hw hl 14 i j zt0 (by omega) hi
/-- the rows above what fits, of the first n tasks -/
def zsp (rd : Nat → Nat) (mem : Nat) : Nat → Nat
  | 0 => 0
  | n + 1 => zsp rd mem n + (rd n - mem)
def zwf (rd : Nat → Nat) (mem p : Nat) : Nat := 1 + rd p + (rd p - mem)
theorem zmax0 {a m : Nat} (ha : a < 2 ^ 30) (hm : m < 2 ^ 30) : (if (0 : Int32) < nI a - nI m then nI a - nI m else 0) = nI (a - m) := by
  by_cases h : m < a
  · rw [pk_sub (by omega), if_pos (show (0 : Int32) < nI (a - m) from nI_lt (a := 0) (by omega) (by omega))]
  · by_cases e : a = m
    · subst e; rw [pk_sub (Nat.le_refl _), Nat.sub_self, if_neg (show ¬ (0 : Int32) < nI 0 by decide)]; rfl
    · rw [if_neg (fun q => absurd (pk_sneg (a := a) (b := m) hm (by omega)) (Int32.not_lt.mpr (Int32.le_of_lt q))), show a - m = 0 by omega]; rfl
section
variable {G : zG} {σ σ' : zH} {b hi lim mem wk r tk sp cs : Nat} {nt : zNT} {slow : Nat → Nat} {L : zNS} {A : List zAE}
set_option maxRecDepth 100000 in
set_option maxHeartbeats 1000000 in
theorem c_X11_loadStage {nx k mk : Nat} {t : zT3} {rf : Nat → Int32} {rd : Nat → Nat} {P : List zP2} {fr : Int32} (h : zTG G σ b hi nt lim mem wk slow r L A tk sp cs) (hmem : mem ≤ 1000) (hgh : zHB G σ (b + 1) (b + 25) false nt fr) (hkl : k < nt.length) (hk : k < 14) (has : zHas G σ (zhr nt false k) mk P) (hp : zPl G σ (b + 46) (b + 1) (b + 25) (b + 41) t) (hr : zInts G σ (b + 46 + 1) 112 rf) (hrd : ∀ q, q < P.length → rf (8 * k + q) = nI (rd q)) (hrb : ∀ q, q < P.length → rd q ≤ 4500) :
    zM G yX11_loadStage kX11_loadStage [.ref b, .int (nI k)] σ nx (fun v σ' nx' => v = none ∧ zSt G σ' (b + 49) k P.length 0 A.length (zwf rd mem) (fun _ => 0) (fun _ => false) ∧ zLg G σ' (b + 49 + 7) A tk (sp + zsp rd mem P.length) cs ∧ (∀ x, (x < b + 49 ∨ b + 57 ≤ x) → σ' x = σ x) ∧ nx' = nx) := by
  refine zM.of2 (ls := [some (.ref b), some (.int (nI k)), none, none, none, none]) (by decide +kernel) ⟨rfl, rfl, rfl⟩ (Nat.le_of_ble_eq_true rfl) (fun _ h => h) (fun Q hQ => ?_)
  have hP := has.len.1
  have hst := h.2.2.2.2.2.1
  obtain ⟨wf0, ef0, af0, x1, x2, x3, x4, st1, -⟩ := id hst
  have loop : ∀ (d n : Nat) (σ1 : zH) (work : Nat → Nat) (x4 x5 : Option Value), n + d = P.length → (∀ x, (x < b + 49 ∨ b + 57 ≤ x) → σ1 x = σ x) → zSt G σ1 (b + 49) k P.length 0 A.length work (fun _ => 0) (fun _ => false) → (∀ p, p < n → work p = zwf rd mem p) → zLg G σ1 (b + 49 + 7) A tk (sp + zsp rd mem n) cs →
      zWP G kX11_loadStage (zFM G kX11_loadStage.2.2.2.1 Q) 23 [some (.ref b), some (.int (nI k)), some (.int (nI P.length)), some (.int (nI n)), x4, x5] [] σ1 nx 0 0 := by
    intro d
    induction d with
    | zero =>
      intro n σ1 work x4 x5 hn f1 s1 hwk l1
      have en : n = P.length := by omega
      subst en
      refine z_iload_n dX11_loadStage_23 rfl ?_
      refine z_iload_n dX11_loadStage_24 rfl ?_
      refine z_icmp_ge (tgt := 90) dX11_loadStage_25 (by decide) (fun _ => ?_) (fun q => absurd (nI_le (Nat.le_refl _) (by omega)) q)
      obtain ⟨wf, ef, af, cw, q1, q2, q3, q4, q5, q6⟩ := s1
      exact z_vret dX11_loadStage_90 rfl (Nat.le_of_ble_eq_true rfl) (Nat.le_of_ble_eq_true rfl) (hQ _ _ _ ⟨rfl, ⟨wf, ef, af, cw, q1, q2, q3, q4, fun p hp => by rw [q5 p hp, hwk p hp], q6⟩, l1, f1, rfl⟩)
    | succ d ih =>
      intro n σ1 work x4 x5 hn f1 s1 hwk l1
      obtain ⟨wf, ef, af, cw, q1, q2, q3, q4, q5, q6, q7, q8, q9, q10⟩ := s1
      obtain ⟨u, o, w, p1, p2⟩ := id hp
      have hp1 : zPl G σ1 (b + 46) (b + 1) (b + 25) (b + 41) t := ⟨u, o, w, (f1 _ (by omega)).trans p1, p2⟩
      have hr1 := hr.fr (σ' := σ1) fun x a c => f1 x (by omega)
      have hb1 := (f1 b (by omega)).trans h.1
      have hrb' := hrb n (by omega)
      obtain ⟨f, l2, l3, l4, l5⟩ := id l1
      refine z_iload_n dX11_loadStage_23 rfl ?_
      refine z_iload_n dX11_loadStage_24 rfl ?_
      refine z_icmp_ge (tgt := 90) dX11_loadStage_25 (by decide) (fun q => absurd q (nI_ge (show n < P.length by omega) (by omega))) (fun _ => ?_)
      refine z_aload_n dX11_loadStage_28 rfl ?_
      refine z_getf dX11_loadStage_29 fl_X11_44 hb1 rfl ?_
      refine z_iload_n dX11_loadStage_32 rfl ?_
      refine z_iload_n dX11_loadStage_33 rfl ?_
      refine z_callV dX11_loadStage_34 cv_X11_351 (c_X8_readsOf hp1 hr1 hk (show n < 8 by omega)) rfl hp1.choose_spec.choose_spec.choose_spec.1 rfl rfl ⟨(Nat.le_of_ble_eq_true rfl), (Nat.le_of_ble_eq_true rfl)⟩ (Nat.le_of_ble_eq_true rfl) (Nat.le_of_ble_eq_true rfl) (Nat.le_of_ble_eq_true rfl) (fun v σ2 nx2 hx2 hq2 => ?_)
      obtain ⟨rfl, rfl, rfl⟩ := hq2
      rw [hrd n (by omega)]
      refine z_istore dX11_loadStage_37 (by decide) ?_
      refine z_iconst (v := 0) dX11_loadStage_39 (by decide) ?_
      refine z_iload dX11_loadStage_40 rfl ?_
      refine z_aload_n dX11_loadStage_42 rfl ?_
      refine z_getf dX11_loadStage_43 fl_X11_9 hb1 rfl ?_
      refine z_isub dX11_loadStage_46 ?_
      refine z_callS dX11_loadStage_47 cv_X11_177 c_max rfl rfl ⟨(Nat.le_of_ble_eq_true rfl), (Nat.le_of_ble_eq_true rfl)⟩ (Nat.le_of_ble_eq_true rfl) (Nat.le_of_ble_eq_true rfl) (Nat.le_of_ble_eq_true rfl) (fun v σ3 nx3 hx3 hq3 => ?_)
      obtain ⟨rfl, rfl, rfl⟩ := hq3
      rw [zmax0 (by omega) (by omega)]
      refine z_istore dX11_loadStage_50 (by decide) ?_
      refine z_aload_n dX11_loadStage_52 rfl ?_
      refine z_getf dX11_loadStage_53 fl_X11_51 hb1 rfl ?_
      refine z_getf dX11_loadStage_56 fl_X11_354 q1 rfl ?_
      refine z_iload_n dX11_loadStage_59 rfl ?_
      refine z_iconst (v := 1) dX11_loadStage_60 (by decide) ?_
      refine z_iload dX11_loadStage_61 rfl ?_
      refine z_iadd dX11_loadStage_63 ?_
      rw [show (1 : Int32) = nI 1 from rfl, nI_add]
      refine z_iload dX11_loadStage_64 rfl ?_
      refine z_iadd dX11_loadStage_66 ?_
      rw [nI_add]
      refine z_callV dX11_loadStage_67 cv_X11_243 (c_X4_set q2 (by omega)) rfl q2.1 rfl rfl ⟨(Nat.le_of_ble_eq_true rfl), (Nat.le_of_ble_eq_true rfl)⟩ (Nat.le_of_ble_eq_true rfl) (Nat.le_of_ble_eq_true rfl) (Nat.le_of_ble_eq_true rfl) (fun v σ4 nx4 hx4 hq4 => ?_)
      obtain ⟨rfl, g4, k4, rfl⟩ := hq4
      rw [zwr_nI (by omega) (by omega)] at g4
      have l2' := (k4 (b + 49 + 7) (by omega)).trans l2
      refine z_aload_n dX11_loadStage_70 rfl ?_
      refine z_getf dX11_loadStage_71 fl_X11_58 ((k4 b (by omega)).trans hb1) rfl ?_
      refine z_dup dX11_loadStage_74 rfl ?_
      refine z_getf dX11_loadStage_75 fl_X11_301 l2' rfl ?_
      refine z_iload dX11_loadStage_78 rfl ?_
      refine z_iadd dX11_loadStage_80 ?_
      rw [nI_add]
      refine z_putf dX11_loadStage_81 fp_X11_301 l2' rfl rfl (Nat.le_of_ble_eq_true rfl) ?_
      refine z_inc1 dX11_loadStage_84 rfl (by decide) ?_
      refine z_goto (tgt := 23) dX11_loadStage_87 (by decide) ?_
      rw [nI_1]
      refine ih (n + 1) _ (zun work n (zwf rd mem n)) _ _ (by omega) (fun x hx => ?_) ⟨_, ef, af, cw, ?_, g4.fr fun x a c => zu_ne (by omega), q3.fr fun x a c => ?_, q4.fr fun x a c => ?_, fun p hp => ?_, q6, q7, q8, q9, q10⟩ (fun p hp => ?_) ⟨f, ?_, l3.fr fun x a c => ?_, l4, l5⟩
      · rw [zu_ne (by omega), k4 x (by omega)]; exact f1 x hx
      · rw [zu_ne (by omega), k4 _ (by omega)]; exact q1
      · rw [zu_ne (by omega), k4 x (by omega)]
      · rw [zu_ne (by omega), k4 x (by omega)]
      · by_cases e : p = n
        · subst e; rw [pk_us, zun_s]; rfl
        · rw [pk_un e, zun_n e]; exact q5 p hp
      · by_cases e : p = n
        · subst e; rw [zun_s]
        · rw [zun_n e]; exact hwk p (by omega)
      · rw [zu_eq, zsp, ← Nat.add_assoc]; rfl
      · rw [zu_ne (by omega), k4 x (by omega)]
  refine z_aload_n dX11_loadStage_0 rfl ?_
  refine z_getf dX11_loadStage_1 fl_X11_25 h.1 rfl ?_
  refine z_iload_n dX11_loadStage_4 rfl ?_
  refine z_callV dX11_loadStage_5 cv_X11_346 (c_X3_ofn hgh h.gr hkl) rfl hgh.1 rfl rfl ⟨(Nat.le_of_ble_eq_true rfl), (Nat.le_of_ble_eq_true rfl)⟩ (Nat.le_of_ble_eq_true rfl) (Nat.le_of_ble_eq_true rfl) (Nat.le_of_ble_eq_true rfl) (fun v σ1 nx1 hx1 hq1 => ?_)
  obtain ⟨rfl, rfl, rfl⟩ := hq1
  refine z_callV dX11_loadStage_8 cv_X11_191 (c_X9_parts has) rfl has.c rfl rfl ⟨(Nat.le_of_ble_eq_true rfl), (Nat.le_of_ble_eq_true rfl)⟩ (Nat.le_of_ble_eq_true rfl) (Nat.le_of_ble_eq_true rfl) (Nat.le_of_ble_eq_true rfl) (fun v σ1 nx1 hx1 hq1 => ?_)
  obtain ⟨rfl, rfl, rfl⟩ := hq1
  rw [zcum_len]
  refine z_istore_n dX11_loadStage_11 (by decide) ?_
  refine z_aload_n dX11_loadStage_12 rfl ?_
  refine z_getf dX11_loadStage_13 fl_X11_51 h.1 rfl ?_
  refine z_iload_n dX11_loadStage_16 rfl ?_
  refine z_iload_n dX11_loadStage_17 rfl ?_
  refine z_callV dX11_loadStage_18 cv_X11_349 (c_X10_begin hst hP) rfl st1 rfl rfl ⟨(Nat.le_of_ble_eq_true rfl), (Nat.le_of_ble_eq_true rfl)⟩ (Nat.le_of_ble_eq_true rfl) (Nat.le_of_ble_eq_true rfl) (Nat.le_of_ble_eq_true rfl) (fun v σ2 nx2 hx2 hq2 => ?_)
  obtain ⟨rfl, g2, k2, rfl⟩ := hq2
  obtain ⟨work, g3⟩ := g2 A.length (fun _ => 0)
  refine z_iconst (v := 0) dX11_loadStage_21 (by decide) ?_
  refine z_istore_n dX11_loadStage_22 (by decide) ?_
  exact loop P.length 0 σ2 work _ _ (by omega) (fun x hx => k2 x (by omega)) g3 (fun p hp => absurd hp (Nat.not_lt_zero _)) (h.lg.fr fun x a c => k2 x (by omega))
def zmkd (nt : zNT) (k : Nat) : Bool := decide ((nt.getD k zdf).2.2.1 11 ≠ 0)
def zren1 (U : Nat → Bool) (L : zNS) : Nat → zNS
  | 0 => L
  | k + 1 => if U k = true then zlat (zren1 U L k) k else zren1 U L k
noncomputable def zren2 (lim : Nat) (nt : zNT) (W : Nat → Bool) (r : Nat) (L : zNS) : Nat → zNS
  | 0 => L
  | k + 1 => if W k = true ∧ zmkd nt k = true ∧ zcd (zren2 lim nt W r L k) k = false then zent r k (zct lim nt k).flatten.length (zren2 lim nt W r L k) else zren2 lim nt W r L k
set_option maxRecDepth 100000 in
set_option maxHeartbeats 1000000 in
theorem c_X11_renewCache {nx i : Nat} {t : zT3} {fr : Int32} {C : Nat → Bool} (h : zTG G σ b hi nt lim mem wk slow r L A tk sp cs) (hw : zWf nt) (hgh : zGH G σ (b + 1) (b + 25) hi false lim nt fr) (hfr : ∀ j, j < 14 → bt (zLin nt i) j = true → bt fr j = true) (hp : zPl G σ (b + 46) (b + 1) (b + 25) (b + 41) t) (hd : zDI nt C i t) :
    zM G yX11_renewCache kX11_renewCache [.ref b] σ nx (fun v σ' nx' => v = none ∧ zTG G σ' b hi nt lim mem wk slow r (zren2 lim nt t.2.2 r (zren1 t.1 L 14) 14) A tk sp cs ∧ zFh σ σ' b hi ∧ nx' = nx) := by
  refine zM.of2 (ls := [some (.ref b), none]) (by decide +kernel) ⟨rfl, rfl, rfl⟩ (Nat.le_of_ble_eq_true rfl) (fun _ h => h) (fun Q hQ => ?_)
  have h14 := h.gr.2.2.2.2.2.1
  have hhi := h.2.2.2.2.2.2.2.2
  obtain ⟨u, o, w, p1, b1, b2, b3⟩ := id hp
  obtain ⟨L1, hL1⟩ : ∃ z, z = zren1 t.1 L 14 := ⟨_, rfl⟩
  rw [← hL1] at hQ
  obtain ⟨L2, hL2⟩ : ∃ z, z = zren2 lim nt t.2.2 r L1 14 := ⟨_, rfl⟩
  rw [← hL2] at hQ
  have loop2 : ∀ (d n : Nat) (σ1 : zH), n + d = 14 → (∀ x, (x < b + 41 ∨ b + 46 ≤ x) → σ1 x = σ x) → zCa G σ1 (b + 41) (zren2 lim nt t.2.2 r L1 n) r →
      zWP G kX11_renewCache (zFM G kX11_renewCache.2.2.2.1 Q) 38 [some (.ref b), some (.int (nI n))] [] σ1 nx 0 0 := by
    intro d
    induction d with
    | zero =>
      intro n σ1 hn f1 c1
      have en : n = 14 := by omega
      subst en
      rw [← hL2] at c1
      refine z_iload_n dX11_renewCache_38 rfl ?_
      refine z_bipush (v := 14) dX11_renewCache_39 (by decide) ?_
      refine z_icmp_ge (tgt := 108) dX11_renewCache_41 (by decide) (fun _ => ?_) (fun q => absurd ((show nI 14 ≤ nI 14 from nI_le (by omega) (by omega))) q)
      exact z_vret dX11_renewCache_108 rfl (Nat.le_of_ble_eq_true rfl) (Nat.le_of_ble_eq_true rfl) (hQ _ _ _ ⟨rfl, h.onCache f1 c1, fun x hx => f1 x (by omega), rfl⟩)
    | succ d ih =>
      intro n σ1 hn f1 c1
      have nxt := ih (n + 1)
      rw [zren2] at nxt
      have hb1 := (f1 b (by omega)).trans h.1
      have pl1 := (f1 (b + 46) (by omega)).trans p1
      have gr1 : zGr G σ1 (b + 1) hi nt (nI lim) := h.gr.fr (fun x a c => f1 x (by omega)) (fun x a _ => f1 x (by omega))
      have gh1 := hgh.fr (σ' := σ1) fun x q => f1 x (by omega)
      obtain ⟨mm, cc1⟩ := c1.c
      refine z_iload_n dX11_renewCache_38 rfl ?_
      refine z_bipush (v := 14) dX11_renewCache_39 (by decide) ?_
      refine z_icmp_ge (tgt := 108) dX11_renewCache_41 (by decide) (fun q => absurd q ((show ¬ nI 14 ≤ nI n from nI_ge (by omega) (by omega)))) (fun _ => ?_)
      refine z_aload_n dX11_renewCache_44 rfl ?_
      refine z_getf dX11_renewCache_45 fl_X11_44 hb1 rfl ?_
      refine z_getf dX11_renewCache_48 fl_X11_363 pl1 rfl ?_
      refine z_iload_n dX11_renewCache_51 rfl ?_
      refine z_callS dX11_renewCache_52 cv_X11_284 (c_X11_has (show n < 14 by omega)) rfl rfl ⟨(Nat.le_of_ble_eq_true rfl), (Nat.le_of_ble_eq_true rfl)⟩ (Nat.le_of_ble_eq_true rfl) (Nat.le_of_ble_eq_true rfl) (Nat.le_of_ble_eq_true rfl) (fun v σ2 nx2 hx2 hq2 => ?_)
      obtain ⟨rfl, rfl, rfl⟩ := hq2
      rw [b3.1 n (by omega)]
      by_cases q1 : t.2.2 n = true
      · rw [if_pos q1]
        obtain ⟨li, ln⟩ := hd.2.2 n q1
        have hg : nt[n]? = some (nt[n]'ln) := List.getElem?_eq_getElem _
        generalize nt[n]'ln = e at hg
        have eD : nt.getD n zdf = e := by rw [List.getD_eq_getElem?_getD, hg]; rfl
        have has : zHas G σ2 (zhr nt false n) (zhc nt n) (zct lim nt n) := (gh1.2.1.2 n (by omega) (hfr n (by omega) li)).2
        have h300 := (zct_le (lim := lim) hw h14 ln).1
        refine z_if_eq (tgt := 102) dX11_renewCache_55 (by decide) (fun q => absurd q ((by decide))) (fun _ => ?_)
        refine z_aload_n dX11_renewCache_58 rfl ?_
        refine z_getf dX11_renewCache_59 fl_X11_16 hb1 rfl ?_
        refine z_iload_n dX11_renewCache_62 rfl ?_
        refine z_callV dX11_renewCache_63 cv_X11_99 (c_X2_at gr1) rfl gr1.1 rfl rfl ⟨(Nat.le_of_ble_eq_true rfl), (Nat.le_of_ble_eq_true rfl)⟩ (Nat.le_of_ble_eq_true rfl) (Nat.le_of_ble_eq_true rfl) (Nat.le_of_ble_eq_true rfl) (fun v σ3 nx3 hx3 hq3 => ?_)
        obtain ⟨rfl, rfl, rfl⟩ := hq3
        rw [znat_in hg h14]
        refine z_getf dX11_renewCache_66 fl_X11_261 (gr1.2.2.2.1 n e hg).1.1 rfl ?_
        by_cases q2 : e.2.2.1 11 = 0
        · rw [if_neg (fun z => by rw [zmkd, eD] at z; exact absurd q2 (of_decide_eq_true z.2.1))] at nxt
          refine z_if_eq (tgt := 102) dX11_renewCache_69 (by decide) (fun _ => ?_) (fun q => absurd (q2) q)
          refine z_inc1 dX11_renewCache_102 rfl (by decide) ?_
          refine z_goto (tgt := 38) dX11_renewCache_105 (by decide) ?_
          rw [nI_1]
          exact nxt σ3 (by omega) f1 c1
        · have q2' : zmkd nt n = true := by rw [zmkd, eD]; exact decide_eq_true q2
          refine z_if_eq (tgt := 102) dX11_renewCache_69 (by decide) (fun q => absurd q (q2)) (fun _ => ?_)
          refine z_aload_n dX11_renewCache_72 rfl ?_
          refine z_getf dX11_renewCache_73 fl_X11_35 hb1 rfl ?_
          refine z_iload_n dX11_renewCache_76 rfl ?_
          refine z_callV dX11_renewCache_77 cv_X11_265 (c_X0_holds c1 (show n < 14 by omega)) rfl cc1 rfl rfl ⟨(Nat.le_of_ble_eq_true rfl), (Nat.le_of_ble_eq_true rfl)⟩ (Nat.le_of_ble_eq_true rfl) (Nat.le_of_ble_eq_true rfl) (Nat.le_of_ble_eq_true rfl) (fun v σ4 nx4 hx4 hq4 => ?_)
          obtain ⟨⟨bb, rfl, hbb⟩, rfl, rfl⟩ := hq4
          rw [← zcd_iff] at hbb
          cases bb with
          | true =>
            rw [if_neg (fun z => by rw [hbb.mp rfl] at z; exact nomatch z.2.2)] at nxt
            refine z_if_ne (tgt := 102) dX11_renewCache_80 (by decide) (fun _ => ?_) (fun q => absurd q ((by decide)))
            refine z_inc1 dX11_renewCache_102 rfl (by decide) ?_
            refine z_goto (tgt := 38) dX11_renewCache_105 (by decide) ?_
            rw [nI_1]
            exact nxt σ4 (by omega) f1 c1
          | false =>
            have q3 : zcd (zren2 lim nt t.2.2 r L1 n) n = false := by cases hz : zcd (zren2 lim nt t.2.2 r L1 n) n with | true => exact nomatch hbb.mpr hz | false => rfl
            rw [if_pos ⟨q1, q2', q3⟩] at nxt
            refine z_if_ne (tgt := 102) dX11_renewCache_80 (by decide) (fun q => absurd (rfl) q) (fun _ => ?_)
            refine z_aload_n dX11_renewCache_83 rfl ?_
            refine z_getf dX11_renewCache_84 fl_X11_35 hb1 rfl ?_
            refine z_iload_n dX11_renewCache_87 rfl ?_
            refine z_aload_n dX11_renewCache_88 rfl ?_
            refine z_getf dX11_renewCache_89 fl_X11_25 hb1 rfl ?_
            refine z_iload_n dX11_renewCache_92 rfl ?_
            refine z_callV dX11_renewCache_93 cv_X11_346 (c_X3_ofn gh1.2.1.1 gr1 ln) rfl gh1.2.1.1.1 rfl rfl ⟨(Nat.le_of_ble_eq_true rfl), (Nat.le_of_ble_eq_true rfl)⟩ (Nat.le_of_ble_eq_true rfl) (Nat.le_of_ble_eq_true rfl) (Nat.le_of_ble_eq_true rfl) (fun v σ5 nx5 hx5 hq5 => ?_)
            obtain ⟨rfl, rfl, rfl⟩ := hq5
            refine z_callV dX11_renewCache_96 cv_X11_110 (c_X9_size has) rfl has.c rfl rfl ⟨(Nat.le_of_ble_eq_true rfl), (Nat.le_of_ble_eq_true rfl)⟩ (Nat.le_of_ble_eq_true rfl) (Nat.le_of_ble_eq_true rfl) (Nat.le_of_ble_eq_true rfl) (fun v σ5 nx5 hx5 hq5 => ?_)
            obtain ⟨rfl, rfl, rfl⟩ := hq5
            refine z_callV dX11_renewCache_99 cv_X11_366 (c_X0_enter c1 (show n < 14 by omega) h300 (fun z => by rw [← zcd_iff, q3] at z; exact nomatch z)) rfl cc1 rfl rfl ⟨(Nat.le_of_ble_eq_true rfl), (Nat.le_of_ble_eq_true rfl)⟩ (Nat.le_of_ble_eq_true rfl) (Nat.le_of_ble_eq_true rfl) (Nat.le_of_ble_eq_true rfl) (fun v σ6 nx6 hx6 hq6 => ?_)
            obtain ⟨rfl, g6, k6, rfl⟩ := hq6
            refine z_inc1 dX11_renewCache_102 rfl (by decide) ?_
            refine z_goto (tgt := 38) dX11_renewCache_105 (by decide) ?_
            rw [nI_1]
            exact nxt σ6 (by omega) (fun x hx => (k6 x (by omega)).trans (f1 x hx)) g6
      · rw [if_neg (fun z => q1 z.1)] at nxt
        rw [if_neg q1]
        refine z_if_eq (tgt := 102) dX11_renewCache_55 (by decide) (fun _ => ?_) (fun q => absurd (rfl) q)
        refine z_inc1 dX11_renewCache_102 rfl (by decide) ?_
        refine z_goto (tgt := 38) dX11_renewCache_105 (by decide) ?_
        rw [nI_1]
        exact nxt σ2 (by omega) f1 c1
  have loop1 : ∀ (d n : Nat) (σ1 : zH), n + d = 14 → (∀ x, (x < b + 41 ∨ b + 46 ≤ x) → σ1 x = σ x) → zCa G σ1 (b + 41) (zren1 t.1 L n) r →
      zWP G kX11_renewCache (zFM G kX11_renewCache.2.2.2.1 Q) 2 [some (.ref b), some (.int (nI n))] [] σ1 nx 0 0 := by
    intro d
    induction d with
    | zero =>
      intro n σ1 hn f1 c1
      have en : n = 14 := by omega
      subst en
      rw [← hL1] at c1
      refine z_iload_n dX11_renewCache_2 rfl ?_
      refine z_bipush (v := 14) dX11_renewCache_3 (by decide) ?_
      refine z_icmp_ge (tgt := 36) dX11_renewCache_5 (by decide) (fun _ => ?_) (fun q => absurd ((show nI 14 ≤ nI 14 from nI_le (by omega) (by omega))) q)
      refine z_iconst (v := 0) dX11_renewCache_36 (by decide) ?_
      refine z_istore_n dX11_renewCache_37 (by decide) ?_
      exact loop2 14 0 σ1 rfl f1 c1
    | succ d ih =>
      intro n σ1 hn f1 c1
      have nxt := ih (n + 1)
      rw [zren1] at nxt
      have hb1 := (f1 b (by omega)).trans h.1
      have pl1 := (f1 (b + 46) (by omega)).trans p1
      obtain ⟨mm, cc1⟩ := c1.c
      refine z_iload_n dX11_renewCache_2 rfl ?_
      refine z_bipush (v := 14) dX11_renewCache_3 (by decide) ?_
      refine z_icmp_ge (tgt := 36) dX11_renewCache_5 (by decide) (fun q => absurd q ((show ¬ nI 14 ≤ nI n from nI_ge (by omega) (by omega)))) (fun _ => ?_)
      refine z_aload_n dX11_renewCache_8 rfl ?_
      refine z_getf dX11_renewCache_9 fl_X11_44 hb1 rfl ?_
      refine z_getf dX11_renewCache_12 fl_X11_357 pl1 rfl ?_
      refine z_iload_n dX11_renewCache_15 rfl ?_
      refine z_callS dX11_renewCache_16 cv_X11_284 (c_X11_has (show n < 14 by omega)) rfl rfl ⟨(Nat.le_of_ble_eq_true rfl), (Nat.le_of_ble_eq_true rfl)⟩ (Nat.le_of_ble_eq_true rfl) (Nat.le_of_ble_eq_true rfl) (Nat.le_of_ble_eq_true rfl) (fun v σ2 nx2 hx2 hq2 => ?_)
      obtain ⟨rfl, rfl, rfl⟩ := hq2
      rw [b1.1 n (by omega)]
      by_cases q1 : t.1 n = true
      · rw [if_pos q1] at nxt
        rw [if_pos q1]
        refine z_if_eq (tgt := 30) dX11_renewCache_19 (by decide) (fun q => absurd q ((by decide))) (fun _ => ?_)
        refine z_aload_n dX11_renewCache_22 rfl ?_
        refine z_getf dX11_renewCache_23 fl_X11_35 hb1 rfl ?_
        refine z_iload_n dX11_renewCache_26 rfl ?_
        refine z_callV dX11_renewCache_27 cv_X11_360 (c_X0_makeLatest c1 (show n < 14 by omega)) rfl cc1 rfl rfl ⟨(Nat.le_of_ble_eq_true rfl), (Nat.le_of_ble_eq_true rfl)⟩ (Nat.le_of_ble_eq_true rfl) (Nat.le_of_ble_eq_true rfl) (Nat.le_of_ble_eq_true rfl) (fun v σ3 nx3 hx3 hq3 => ?_)
        obtain ⟨rfl, g3, k3, rfl⟩ := hq3
        refine z_inc1 dX11_renewCache_30 rfl (by decide) ?_
        refine z_goto (tgt := 2) dX11_renewCache_33 (by decide) ?_
        rw [nI_1]
        exact nxt σ3 (by omega) (fun x hx => (k3 x (by omega)).trans (f1 x hx)) g3
      · rw [if_neg q1] at nxt
        rw [if_neg q1]
        refine z_if_eq (tgt := 30) dX11_renewCache_19 (by decide) (fun _ => ?_) (fun q => absurd (rfl) q)
        refine z_inc1 dX11_renewCache_30 rfl (by decide) ?_
        refine z_goto (tgt := 2) dX11_renewCache_33 (by decide) ?_
        rw [nI_1]
        exact nxt σ2 (by omega) f1 c1
  refine z_iconst (v := 0) dX11_renewCache_0 (by decide) ?_
  refine z_istore_n dX11_renewCache_1 (by decide) ?_
  exact loop1 14 0 σ rfl (fun _ _ => rfl) h.ca
theorem zQg {k : zK} {R : Room} {pc nx ca sl : Nat} {ls : zL} {st : List Value} {P : Option Value → zH → Nat → Prop} (h : ∀ Q : Option Value → zH → Nat → Prop, (∀ v σ' nx', P v σ' nx' → Q v σ' nx') → zWP G k (zFM G R Q) pc ls st σ nx ca sl) : zWP G k (zFM G R P) pc ls st σ nx ca sl := h P fun _ _ _ q => q
noncomputable def zrs (lim : Nat) (nt : zNT) (C : Nat → Bool) (mem : Nat) (slow : Nat → Nat) (wk k : Nat) (p : Nat × List zAE × Nat) : Nat × List zAE × Nat :=
  ((zwo (zwf (zsum lim nt C k) mem) slow (zct lim nt k).length k p.2.1.length wk 17 p.1 (0, fun _ => 0, fun _ => false, fun _ => p.1, p.2.1)).1, (zwo (zwf (zsum lim nt C k) mem) slow (zct lim nt k).length k p.2.1.length wk 17 p.1 (0, fun _ => 0, fun _ => false, fun _ => p.1, p.2.1)).2.2.2.2.2, p.2.2 + zsp (zsum lim nt C k) mem (zct lim nt k).length)
noncomputable def zrn (lim : Nat) (nt : zNT) (C : Nat → Bool) (mem : Nat) (slow : Nat → Nat) (wk : Nat) (O : Nat → Bool) : Nat → Nat × List zAE × Nat
  | 0 => (0, [], 0)
  | k + 1 => if O k = true then zrs lim nt C mem slow wk k (zrn lim nt C mem slow wk O k) else zrn lim nt C mem slow wk O k
theorem zS0_ok {m b0 : Nat} {A : List zAE} : zOK m A.length (b0 + 1) (0, fun _ => 0, fun _ => false, fun _ => b0, A) := ⟨Nat.zero_le _, fun p hp => absurd hp (Nat.not_lt_zero _), fun _ _ => Nat.lt_succ_self _, by show A.length = A.length + 0 + 0; omega, fun _ => rfl, fun p hp => absurd hp (Nat.not_lt_zero _)⟩
theorem zwf_le {rd slow : Nat → Nat} {mem p k : Nat} (h1 : rd p ≤ 4500) (h2 : slow k ≤ 9) : zwf rd mem p * slow k ≤ 81009 := by
  have : zwf rd mem p ≤ 9001 := by unfold zwf; omega
  exact Nat.mul_le_mul this h2
theorem zrs_ok {lim : Nat} {nt : zNT} {C : Nat → Bool} {mem : Nat} {slow : Nat → Nat} {wk k : Nat} {p : Nat × List zAE × Nat} (hw : zWf nt) (hl : nt.length ≤ 14) (hk : k < nt.length) (hs : ∀ k, k < 4 → slow k ≤ 9) (hwk : wk ≤ 4) : (zrs lim nt C mem slow wk k p).1 ≤ p.1 + 2000000 ∧ (zrs lim nt C mem slow wk k p).2.1.length ≤ p.2.1.length + 16 := by
  have h8 := (zct_le (lim := lim) hw hl hk).2.2
  obtain ⟨q1, q2⟩ := zwo_ok (work := zwf (zsum lim nt C k) mem) (slow := slow) (o := k) (sz := wk) h8 hwk (fun p j hp hj => zwf_le (zsum_le hw hl hk p) (hs j hj)) 17 p.1 (p.1 + 1) _ (zS0_ok (A := p.2.1)) (Nat.lt_succ_self _)
  refine ⟨?_, ?_⟩
  · show (zwo _ _ _ _ _ _ _ _ _).1 ≤ _
    omega
  · show (zwo _ _ _ _ _ _ _ _ _).2.2.2.2.2.length ≤ _
    have := zcn_le (zwo (zwf (zsum lim nt C k) mem) slow (zct lim nt k).length k p.2.1.length wk 17 p.1 (0, fun _ => 0, fun _ => false, fun _ => p.1, p.2.1)).2.2.2.1 8
    have h4 := q1.2.2.2.1
    have h1 := q1.1
    omega
set_option maxRecDepth 100000 in
set_option maxHeartbeats 2000000 in
theorem c_run {nx : Nat} {x : Int32} (hG : zKap G) (hw : zWf nt) (hlim : lim ≤ 1000) (hmem : mem ≤ 1000) (hs : ∀ k, k < 4 → slow k ≤ 9) (hwk : wk ≤ 4) (h : zTG G σ b hi nt lim mem wk slow r L A tk sp cs) : zMX G yX11_run kX11_run [.ref b, .int x] σ nx (fun v σ' nx' => (∃ i, i < nt.length ∧ x = nI i ∧ v = some (.int (nI (zrn lim nt (zcd L) mem slow wk (zdraw lim nt (zcd L) i).2.1 14).1)) ∧ zTG G σ' b hi nt lim mem wk slow r (zren2 lim nt (zdraw lim nt (zcd L) i).2.2 r (zren1 (zdraw lim nt (zcd L) i).1 L 14) 14) (zrn lim nt (zcd L) mem slow wk (zdraw lim nt (zcd L) i).2.1 14).2.1 (zrn lim nt (zcd L) mem slow wk (zdraw lim nt (zcd L) i).2.1 14).1 (zrn lim nt (zcd L) mem slow wk (zdraw lim nt (zcd L) i).2.1 14).2.2 wk) ∧ zFh σ σ' b hi ∧ nx' = nx) (fun E σ' nx' => E = zEI ∧ σ' = σ ∧ (x < 0 ∨ nI nt.length ≤ x)) := by
  refine zMX.of (ls := [some (.ref b), some (.int x), none, none]) (by decide +kernel) ⟨rfl, rfl, rfl⟩ (Nat.le_of_ble_eq_true rfl) (fun _ h => h) ?_
  obtain ⟨fr, hgh⟩ := h.2.1
  have hhi := h.2.2.2.2.2.2.2.2
  have h14 := h.gr.2.2.2.2.2.1
  refine z_aload_n dX11_run_0 rfl ?_
  refine z_iload_n dX11_run_1 rfl ?_
  refine z_callVX dX11_run_2 cv_X11_96 (c_X11_checkNode h.1 h.gr) rfl h.1 rfl rfl ⟨(Nat.le_of_ble_eq_true rfl), (Nat.le_of_ble_eq_true rfl)⟩ (Nat.le_of_ble_eq_true rfl) (Nat.le_of_ble_eq_true rfl) (Nat.le_of_ble_eq_true rfl) rfl (fun E σ' nx' _ q => q) (fun v σ1 nx1 hx1 hq1 => ?_)
  obtain ⟨rfl, rfl, rfl, i, hil, rfl⟩ := hq1
  refine z_aload_n dX11_run_5 rfl ?_
  refine z_getf dX11_run_6 fl_X11_25 h.1 rfl ?_
  refine z_iload_n dX11_run_9 rfl ?_
  refine z_callV dX11_run_10 cv_X11_187 (c_X3_freshRows hG hgh hw hlim hil) rfl hgh.2.1.1.1 rfl rfl ⟨(Nat.le_of_ble_eq_true rfl), (Nat.le_of_ble_eq_true rfl)⟩ (Nat.le_of_ble_eq_true rfl) (Nat.le_of_ble_eq_true rfl) (Nat.le_of_ble_eq_true rfl) (fun v σ2 nx2 hx2 hq2 => ?_)
  obtain ⟨rfl, ⟨fr2, g1, -, g2⟩, g3, rfl⟩ := hq2
  obtain ⟨t2, f2, has⟩ := h.fresh (nx := nx2) hw hil g1 g2 g3
  obtain ⟨tt, rf, p1, p2⟩ := t2.pl
  obtain ⟨u0, o0, w0, pc⟩ := p1.c
  refine z_pop dX11_run_13 rfl ?_
  refine z_aload_n dX11_run_14 rfl ?_
  refine z_getf dX11_run_15 fl_X11_44 t2.1 rfl ?_
  refine z_iload_n dX11_run_18 rfl ?_
  refine z_callV dX11_run_19 cv_X11_268 (c_X8_draw hG (t2.en g1 hw hlim) p1 p2 (by omega) (by omega) hil g2) rfl pc rfl rfl ⟨(Nat.le_of_ble_eq_true rfl), (Nat.le_of_ble_eq_true rfl)⟩ (Nat.le_of_ble_eq_true rfl) (Nat.le_of_ble_eq_true rfl) (Nat.le_of_ble_eq_true rfl) (fun v σ3 nx3 hx3 hq3 => ?_)
  obtain ⟨rfl, q1, ⟨rf', q2, q2'⟩, q3, rfl⟩ := hq3
  have t3 := t2.onPlan (fun x hx => q3 x (by omega)) ⟨_, rf', q1, q2⟩
  have gh3 : zGH G σ3 (b + 1) (b + 25) hi false lim nt fr2 := g1.fr fun x q => q3 x (by omega)
  have f3 := zFh.tr f2 (q3.h (by omega) (by omega))
  obtain ⟨t, ht⟩ : ∃ z, z = zdraw lim nt (zcd L) i := ⟨_, rfl⟩
  have hd : zDI nt (zcd L) i t := by rw [ht]; exact zDI_draw hw h14 hil
  rw [← ht] at q1 q2'
  obtain ⟨idle, hcr⟩ := t3.cr
  refine z_aload_n dX11_run_22 rfl ?_
  refine z_getf dX11_run_23 fl_X11_58 t3.1 rfl ?_
  refine z_aload_n dX11_run_26 rfl ?_
  refine z_getf dX11_run_27 fl_X11_67 t3.1 rfl ?_
  refine z_getf dX11_run_30 fl_X11_226 hcr.c rfl ?_
  refine z_callV dX11_run_33 cv_X11_279 (c_X6_begin t3.lg) rfl t3.lg.c rfl rfl ⟨(Nat.le_of_ble_eq_true rfl), (Nat.le_of_ble_eq_true rfl)⟩ (Nat.le_of_ble_eq_true rfl) (Nat.le_of_ble_eq_true rfl) (Nat.le_of_ble_eq_true rfl) (fun v σ4 nx4 hx4 hq4 => ?_)
  obtain ⟨rfl, q4, k4, rfl⟩ := hq4
  have t4 : zTG G σ4 b hi nt lim mem wk slow r L [] tk 0 wk := t3.onRun (fun x hx => k4 x (by omega)) (t3.2.2.2.2.2.1.fr fun x a c => k4 x (by omega)) q4 ⟨idle, hcr.fr fun x a c => k4 x (by omega)⟩
  have f4 : zFh σ1 σ4 b hi := zFh.tr f3 (fun x hx => k4 x (by omega))
  refine zX (zQg fun Q hQ => ?_)
  obtain ⟨u, o, w, pl4, b1, b2, b3⟩ := id q1
  obtain ⟨rn, hrn⟩ : ∃ z, z = zrn lim nt (zcd L) mem slow wk t.2.1 := ⟨_, rfl⟩
  have loop : ∀ (d k : Nat) (σ5 : zH), k + d = 14 → (∀ x, (x < b + 49 ∨ b + 74 ≤ x) → σ5 x = σ4 x) → zTG G σ5 b hi nt lim mem wk slow r L (rn k).2.1 tk (rn k).2.2 wk → (rn k).1 ≤ k * 2000000 → (rn k).2.1.length ≤ 16 * k →
      zWP G kX11_run (zFM G kX11_run.2.2.2.1 Q) 40 [some (.ref b), some (.int (nI i)), some (.int (nI (rn k).1)), some (.int (nI k))] [] σ5 nx4 1 6 := by
    intro d
    induction d with
    | zero =>
      intro k σ5 hk e5 t5 hb1 hb2
      have ek : k = 14 := by omega
      subst ek
      refine z_iload_n dX11_run_40 rfl ?_
      refine z_bipush (v := 14) dX11_run_41 (by decide) ?_
      refine z_icmp_ge (tgt := 84) dX11_run_43 (by decide) (fun _ => ?_) (fun q => absurd ((show nI 14 ≤ nI 14 from nI_le (by omega) (by omega))) q)
      obtain ⟨f, l1, l2, l3, l4⟩ := t5.lg
      refine z_aload_n dX11_run_84 rfl ?_
      refine z_getf dX11_run_85 fl_X11_58 t5.1 rfl ?_
      refine z_iload_n dX11_run_88 rfl ?_
      refine z_putf dX11_run_89 fp_X11_295 l1 rfl rfl (Nat.le_of_ble_eq_true rfl) ?_
      obtain ⟨σ6, e6⟩ : ∃ z, z = zu σ5 (b + 49 + 7) (zLC (b + 49 + 7) (rn 14).2.1.length (rn 14).1 (rn 14).2.2 wk) := ⟨_, rfl⟩
      have e6' : zu σ5 (b + 56) (.inr (6, [Value.ref (b + 49 + 7 + 1), .ref (b + 49 + 7 + 3), .ref (b + 49 + 7 + 5), .ref (b + 49 + 7 + 7), .ref (b + 49 + 7 + 9), .ref (b + 49 + 7 + 11), .int (nI (rn 14).2.1.length), .int (nI tk), .int (nI (rn 14).2.2), .int (nI wk)].set 7 (.int (nI (rn 14).1)))) = σ6 := e6.symm
      rw [e6']
      have k6 : ∀ x, x ≠ b + 56 → σ6 x = σ5 x := fun x hx => by rw [e6]; exact zu_ne hx
      have lg6 : zLg G σ6 (b + 49 + 7) (rn 14).2.1 (rn 14).1 (rn 14).2.2 wk := ⟨f, by rw [e6]; exact zu_eq _ _ _, l2.fr fun x a c => k6 x (by omega), l3, l4⟩
      obtain ⟨idle5, cr5⟩ := t5.cr
      have t6 := t5.onRun (fun x hx => k6 x (by omega)) (t5.2.2.2.2.2.1.fr fun x a c => k6 x (by omega)) lg6 ⟨idle5, cr5.fr fun x a c => k6 x (by omega)⟩
      have gh6 : zGH G σ6 (b + 1) (b + 25) hi false lim nt fr2 := gh3.fr fun x q => ((k6 x (by omega)).trans (e5 x (by omega))).trans (k4 x (by omega))
      have pl6 : zPl G σ6 (b + 46) (b + 1) (b + 25) (b + 41) t := ⟨u, o, w, ((k6 _ (by omega)).trans (e5 _ (by omega))).trans ((k4 _ (by omega)).trans pl4), b1, b2, b3⟩
      refine z_aload_n dX11_run_92 rfl ?_
      refine z_callV dX11_run_93 cv_X11_298 (c_X11_renewCache t6 hw gh6 g2 pl6 hd) rfl t6.1 rfl rfl ⟨(Nat.le_of_ble_eq_true rfl), (Nat.le_of_ble_eq_true rfl)⟩ (Nat.le_of_ble_eq_true rfl) (Nat.le_of_ble_eq_true rfl) (Nat.le_of_ble_eq_true rfl) (fun v σ7 nx7 hx7 hq7 => ?_)
      obtain ⟨rfl, t7, f7, rfl⟩ := hq7
      refine z_iload_n dX11_run_96 rfl ?_
      exact z_iret dX11_run_97 rfl (Nat.le_of_ble_eq_true rfl) (Nat.le_of_ble_eq_true rfl) (hQ _ _ _ ⟨⟨i, hil, rfl, by rw [← ht, ← hrn], by rw [← ht, ← hrn]; exact t7⟩, zFh.tr f4 (zFh.tr (fun x hx => (k6 x (by omega)).trans (e5 x (by omega))) f7), rfl⟩)
    | succ d ih =>
      intro k σ5 hk e5 t5 hb1 hb2
      have nxt := ih (k + 1)
      have hstep : rn (k + 1) = if t.2.1 k = true then zrs lim nt (zcd L) mem slow wk k (rn k) else rn k := by rw [hrn]; rfl
      rw [hstep] at nxt
      have plc : σ5 (b + 46) = some (zPC (b + 46) (b + 1) (b + 25) (b + 41) u o w) := (e5 _ (by omega)).trans ((k4 _ (by omega)).trans pl4)
      refine z_iload_n dX11_run_40 rfl ?_
      refine z_bipush (v := 14) dX11_run_41 (by decide) ?_
      refine z_icmp_ge (tgt := 84) dX11_run_43 (by decide) (fun q => absurd q ((show ¬ nI 14 ≤ nI k from nI_ge (by omega) (by omega)))) (fun _ => ?_)
      refine z_aload_n dX11_run_46 rfl ?_
      refine z_getf dX11_run_47 fl_X11_44 t5.1 rfl ?_
      refine z_getf dX11_run_50 fl_X11_281 plc rfl ?_
      refine z_iload_n dX11_run_53 rfl ?_
      refine z_callS dX11_run_54 cv_X11_284 (c_X11_has (show k < 14 by omega)) rfl rfl ⟨(Nat.le_of_ble_eq_true rfl), (Nat.le_of_ble_eq_true rfl)⟩ (Nat.le_of_ble_eq_true rfl) (Nat.le_of_ble_eq_true rfl) (Nat.le_of_ble_eq_true rfl) (fun v σ6 nx6 hx6 hq6 => ?_)
      obtain ⟨rfl, rfl, rfl⟩ := hq6
      rw [b2.1 k (by omega)]
      by_cases ok : t.2.1 k = true
      · rw [if_pos ok] at nxt
        rw [if_pos ok]
        obtain ⟨-, lk, kn⟩ := hd.2.1 k ok
        have gh5 : zGH G σ6 (b + 1) (b + 25) hi false lim nt fr2 := gh3.fr fun x q => (e5 x (by omega)).trans (k4 x (by omega))
        have has5 : zHas G σ6 (zhr nt false k) (zhc nt k) (zct lim nt k) := (gh5.2.1.2 k (by omega) (g2 k (by omega) lk)).2
        have pl5 : zPl G σ6 (b + 46) (b + 1) (b + 25) (b + 41) t := ⟨u, o, w, plc, b1, b2, b3⟩
        have rf5 : zInts G σ6 (b + 46 + 1) 112 rf' := q2.fr fun x a c => (e5 x (by omega)).trans (k4 x (by omega))
        obtain ⟨z1, z2⟩ := zrs_ok (lim := lim) (C := zcd L) (mem := mem) (p := rn k) hw h14 kn hs hwk
        refine z_if_eq (tgt := 78) dX11_run_57 (by decide) (fun q => absurd q ((by decide))) (fun _ => ?_)
        refine z_aload_n dX11_run_60 rfl ?_
        refine z_iload_n dX11_run_61 rfl ?_
        refine z_callV dX11_run_62 cv_X11_288 (c_X11_loadStage t5 hmem gh5.2.1.1 kn (by omega) has5 pl5 rf5 (rd := zsum lim nt (zcd L) k) (fun q hq => q2' k q ok hq) (fun q hq => zsum_le hw h14 kn q)) rfl t5.1 rfl rfl ⟨(Nat.le_of_ble_eq_true rfl), (Nat.le_of_ble_eq_true rfl)⟩ (Nat.le_of_ble_eq_true rfl) (Nat.le_of_ble_eq_true rfl) (Nat.le_of_ble_eq_true rfl) (fun v σ7 nx7 hx7 hq7 => ?_)
        obtain ⟨rfl, s7, l7, k7, rfl⟩ := hq7
        obtain ⟨idle5, cr5⟩ := t5.cr
        have sch7 : zSch G σ7 (b + 49) k (zct lim nt k).length (rn k).2.1.length (zwf (zsum lim nt (zcd L) k) mem) slow wk tk ((rn k).2.2 + zsp (zsum lim nt (zcd L) k) mem (zct lim nt k).length) wk (0, fun _ => 0, fun _ => false, idle5, (rn k).2.1) := ⟨s7, l7, cr5.fr fun x a c => k7 x (by omega)⟩
        obtain ⟨cw7, st7, -⟩ := s7.c
        have hb7 := (k7 b (by omega)).trans t5.1
        refine z_aload_n dX11_run_65 rfl ?_
        refine z_getf dX11_run_66 fl_X11_67 hb7 rfl ?_
        refine z_aload_n dX11_run_69 rfl ?_
        refine z_getf dX11_run_70 fl_X11_51 hb7 rfl ?_
        refine z_iload_n dX11_run_73 rfl ?_
        refine z_callV dX11_run_74 cv_X11_291 (c_X1_workOff (W := 81009) sch7 rfl (fun p j hp hj => zwf_le (zsum_le hw h14 kn p) (hs j hj)) (by omega) (by omega) hwk) rfl sch7.2.2.c rfl rfl ⟨(Nat.le_of_ble_eq_true rfl), (Nat.le_of_ble_eq_true rfl)⟩ (Nat.le_of_ble_eq_true rfl) (Nat.le_of_ble_eq_true rfl) (Nat.le_of_ble_eq_true rfl) (fun v σ8 nx8 hx8 hq8 => ?_)
        obtain ⟨rfl, s8, k8, rfl⟩ := hq8
        have e85 : ∀ x, (x < b + 49 ∨ b + 74 ≤ x) → σ8 x = σ6 x := fun x hx => (k8 x (by omega)).trans (k7 x (by omega))
        have t8 := t5.onRun e85 s8.1.to0 s8.2.1 ⟨_, s8.2.2⟩
        refine z_istore_n dX11_run_77 (by decide) ?_
        refine z_inc1 dX11_run_78 rfl (by decide) ?_
        refine z_goto (tgt := 40) dX11_run_81 (by decide) ?_
        rw [nI_1]
        exact nxt σ8 (by omega) (fun x hx => (e85 x hx).trans (e5 x hx)) t8 (by omega) (by omega)
      · rw [if_neg ok] at nxt
        rw [if_neg ok]
        refine z_if_eq (tgt := 78) dX11_run_57 (by decide) (fun _ => ?_) (fun q => absurd (rfl) q)
        refine z_inc1 dX11_run_78 rfl (by decide) ?_
        refine z_goto (tgt := 40) dX11_run_81 (by decide) ?_
        rw [nI_1]
        exact nxt σ6 (by omega) e5 t5 (Nat.le_trans hb1 (Nat.mul_le_mul_right _ (Nat.le_succ k))) (Nat.le_trans hb2 (Nat.mul_le_mul_left _ (Nat.le_succ k)))
  have r0 : rn 0 = (0, [], 0) := by rw [hrn]; rfl
  refine z_iconst (v := 0) dX11_run_36 (by decide) ?_
  refine z_istore_n dX11_run_37 (by decide) ?_
  refine z_iconst (v := 0) dX11_run_38 (by decide) ?_
  refine z_istore_n dX11_run_39 (by decide) ?_
  have l0 := loop 14 0 σ4 rfl (fun _ _ => rfl) (by rw [r0]; exact t4) (by rw [r0]; exact Nat.le_refl _) (by rw [r0]; exact Nat.le_refl _)
  rw [r0] at l0
  exact l0
end
