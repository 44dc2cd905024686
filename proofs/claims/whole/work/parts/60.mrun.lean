-- model
/-! the model: a run -/
def zAll (B : Nat) (A : List zAE) : Prop := ∀ a ∈ A, a.1 < B
theorem zAll_app {B : Nat} {A : List zAE} {x : zAE} (h : zAll B A) (hx : x.1 < B) : zAll B (A ++ [x]) := fun a ha => by
  rcases List.mem_append.mp ha with w | w
  · exact h a w
  · rw [List.mem_singleton.mp w]; exact hx
theorem zAll_se {B : Nat} {A : List zAE} {j e : Nat} (h : zAll B A) : zAll B (zse A j e) := fun a ha => by
  obtain ⟨i, hi⟩ := List.getElem?_of_mem ha
  rw [zse, List.getElem?_modify] at hi
  cases hb : A[i]? with
  | none => rw [hb] at hi; exact nomatch hi
  | some b =>
    rw [hb] at hi
    have ea : (if j = i then (b.1, b.2.1, b.2.2.1, b.2.2.2.1, e, b.2.2.2.2.2) else b) = a := Option.some.inj hi
    have := h b (List.mem_of_getElem? hb)
    by_cases q : j = i
    · rw [if_pos q] at ea; subst ea; exact this
    · rw [if_neg q] at ea; subst ea; exact this
section
variable {work slow : Nat → Nat} {m o bg tick sz B : Nat} {half : Bool}
theorem zpw_all {k : Nat} {S : zSS} (h : zAll B S.2.2.2.2) (ho : o < B) : zAll B (zpw work slow m o bg tick half k S).1.2.2.2.2 := by
  unfold zpw
  split
  · split
    · exact zAll_app h ho
    · split
      · exact zAll_se (zAll_app h ho)
      · exact h
  · exact h
theorem zlk_all {S : zSS} (h : zAll B S.2.2.2.2) (ho : o < B) : ∀ k, zAll B (zlk work slow m o bg tick half k S).1.2.2.2.2
  | 0 => h
  | k + 1 => zpw_all (zlk_all h ho k) ho
theorem zwo_all (ho : o < B) : ∀ (d tick : Nat) (S : zSS), zAll B S.2.2.2.2 → zAll B (zwo work slow m o bg sz d tick S).2.2.2.2.2
  | 0, _, _, h => h
  | d + 1, tick, S, h => by
    rw [zwo]
    split
    · exact zwo_all ho d _ _ (zlk_all h ho sz)
    · exact h
end
theorem zrs_all {lim : Nat} {nt : zNT} {C : Nat → Bool} {mem : Nat} {slow : Nat → Nat} {wk k : Nat} {p : Nat × List zAE × Nat} (h : zAll k p.2.1) : zAll (k + 1) (zrs lim nt C mem slow wk k p).2.1 := zwo_all (Nat.lt_succ_self k) _ _ _ fun a ha => Nat.lt_succ_of_lt (h a ha)
theorem zrn_all {lim : Nat} {nt : zNT} {C : Nat → Bool} {mem : Nat} {slow : Nat → Nat} {wk : Nat} {O : Nat → Bool} : ∀ k, zAll k (zrn lim nt C mem slow wk O k).2.1
  | 0 => fun a ha => nomatch ha
  | k + 1 => by
    rw [zrn]
    split
    · exact zrs_all (zrn_all k)
    · exact fun a ha => Nat.lt_succ_of_lt (zrn_all k a ha)
theorem zrn_skip {lim : Nat} {nt : zNT} {C : Nat → Bool} {mem : Nat} {slow : Nat → Nat} {wk : Nat} {O : Nat → Bool} {n : Nat} (h : ∀ m, n ≤ m → O m = false) : ∀ d, zrn lim nt C mem slow wk O (n + d) = zrn lim nt C mem slow wk O n
  | 0 => rfl
  | d + 1 => by
    rw [← Nat.add_assoc, zrn, if_neg (by rw [h (n + d) (by omega)]; decide)]
    exact zrn_skip h d
set_option maxRecDepth 100000 in
theorem zrn_le {lim : Nat} {nt : zNT} {C : Nat → Bool} {mem : Nat} {slow : Nat → Nat} {wk : Nat} {O : Nat → Bool} (hw : zWf nt) (hl : nt.length ≤ 14) (hs : ∀ k, k < 4 → slow k ≤ 9) (hwk : wk ≤ 4) (hO : ∀ k, O k = true → k < nt.length) : ∀ k, (zrn lim nt C mem slow wk O k).1 ≤ k * 2000000 ∧ (zrn lim nt C mem slow wk O k).2.1.length ≤ 16 * k
  | 0 => ⟨Nat.le_refl _, Nat.le_refl _⟩
  | k + 1 => by
    obtain ⟨a, b⟩ := zrn_le (lim := lim) (C := C) (mem := mem) hw hl hs hwk hO k
    rw [zrn]
    by_cases c : O k = true
    · rw [if_pos c]
      obtain ⟨x, y⟩ := zrs_ok (lim := lim) (C := C) (mem := mem) (p := zrn lim nt C mem slow wk O k) hw hl (hO k c) hs hwk
      exact ⟨by omega, by omega⟩
    · rw [if_neg c]
      exact ⟨Nat.le_trans a (Nat.mul_le_mul_right _ (Nat.le_succ k)), Nat.le_trans b (Nat.mul_le_mul_left _ (Nat.le_succ k))⟩
section
variable {G : zG} {m : Nat} {nt : zNT} {lim mem wk r tk sp cs un : Nat} {slow : Nat → Nat} {L : zNS} {A : List zAE} {S S' : zMS}
set_option maxRecDepth 100000 in
set_option maxHeartbeats 2000000 in
theorem c_m_run {x : Int32} (hw : zWf nt) (hh : zHow nt) (hlim : lim ≤ 1000) (hmem : mem ≤ 1000) (hs : ∀ k, k < 4 → 1 ≤ slow k ∧ slow k ≤ 9) (hwk : 1 ≤ wk ∧ wk ≤ 4) (hr : r ≤ 1000) (hun : un < 2 ^ 29) (hL : zLok L) (hsz : ∀ (i : Nat) (q : Nat × Nat), L[i]? = some q → q.1 < nt.length ∧ q.2 = (zct lim nt q.1).flatten.length) (h : zrM S nt lim mem wk slow r L A tk sp cs un) :
    zMN G yX12_run kX12_run m [.int x] S (fun v S' => zQm v S' (zk_node nt.length x) (v = some (.int (nI (zrn lim nt (zcd L) mem slow wk (zdraw lim nt (zcd L) x.toNatClampNeg).2.1 14).1)) ∧ ∃ un', un' ≤ un + 28 ∧ zrM S' nt lim mem wk slow r (zren2 lim nt (zdraw lim nt (zcd L) x.toNatClampNeg).2.2 r (zren1 (zdraw lim nt (zcd L) x.toNatClampNeg).1 L 14) 14) (zrn lim nt (zcd L) mem slow wk (zdraw lim nt (zcd L) x.toNatClampNeg).2.1 14).2.1 (zrn lim nt (zcd L) mem slow wk (zdraw lim nt (zcd L) x.toNatClampNeg).2.1 14).1 (zrn lim nt (zcd L) mem slow wk (zdraw lim nt (zcd L) x.toNatClampNeg).2.1 14).2.2 wk un') (zrM S' nt lim mem wk slow r L A tk sp cs un)) := by
  refine zMN.of (ls := [some (.ref m), some (.int x), none]) (by decide +kernel) ⟨rfl, rfl, rfl⟩ (Nat.le_of_ble_eq_true rfl) (fun _ h => h) fun Q hQ => ?_
  have h14 := h.1.2.1
  have hn := h.1.1
  refine n_aload_n dX12_run_0 rfl ?_
  refine n_aload_n dX12_run_1 rfl ?_
  refine n_iload_n dX12_run_2 rfl ?_
  refine n_call dX12_run_3 cv_X12_138 (c_is hn) rfl rfl rfl ⟨(Nat.le_of_ble_eq_true rfl), (Nat.le_of_ble_eq_true rfl)⟩ rfl rfl (Nat.le_of_ble_eq_true rfl) (fun v S1 hq1 => ?_)
  obtain ⟨rfl, hS⟩ := hq1
  subst hS
  rcases zk_node_01 nt.length x with ⟨k0, c⟩ | ⟨k1, c⟩
  · rw [zif_t c]
    obtain ⟨i, hi, rfl⟩ := zis_of (by omega) c
    rw [nI_clamp (by omega)] at hQ
    refine n_if_eq (tgt := 13) dX12_run_6 (by decide) (fun q => absurd q ((by decide))) (fun _ => ?_)
    refine n_iconst (v := (nI 0)) dX12_run_9 (by decide) ?_
    refine n_goto (tgt := 14) dX12_run_10 (by decide) ?_
    refine n_call dX12_run_14 cv_X12_130 c_fails rfl rfl rfl ⟨(Nat.le_of_ble_eq_true rfl), (Nat.le_of_ble_eq_true rfl)⟩ rfl rfl (Nat.le_of_ble_eq_true rfl) (fun v S2 hq2 => ?_)
    obtain ⟨rfl, rfl⟩ := hq2
    refine n_if_eq (tgt := 22) dX12_run_17 (by decide) (fun _ => ?_) (fun q => absurd (rfl) q)
    refine n_aload_n dX12_run_22 rfl ?_
    refine n_iload_n dX12_run_23 rfl ?_
    refine n_call dX12_run_24 cv_X12_235 (c_finds hw hh hlim h.thr hi) rfl rfl rfl ⟨(Nat.le_of_ble_eq_true rfl), (Nat.le_of_ble_eq_true rfl)⟩ rfl rfl (Nat.le_of_ble_eq_true rfl) (fun v S3 hq3 => ?_)
    obtain ⟨rfl, q1, q2, q3, q4⟩ := hq3
    have h3 := h.thr.fi q1 (fun j w1 w2 w3 w4 => q2 j w1 w2 w3 w4) q3
    have e11 : S3.1 11 = 0 := by rw [q1, pk_un (by decide)]; exact zSF_s
    have hD := zDI_draw (lim := lim) (C := zcd L) hw h14 hi
    clear q1 q2
    obtain ⟨T, hT⟩ : ∃ z, z = zdraw lim nt (zcd L) i := ⟨_, rfl⟩
    rw [← hT] at hQ q4 hD
    have skip := zrn_skip (lim := lim) (nt := nt) (C := zcd L) (mem := mem) (slow := slow) (wk := wk) (O := T.2.1) (n := i + 1) (fun j hj => by
      cases q : T.2.1 j with
      | false => rfl
      | true =>
        obtain ⟨-, b, c⟩ := hD.2.1 j q
        have := (zLin_lt hw h14 i hi).1 j (by omega) b
        omega) (13 - i)
    rw [show i + 1 + (13 - i) = 14 by omega] at skip
    rw [skip] at hQ
    have rle := zrn_le (lim := lim) (C := zcd L) (mem := mem) (O := T.2.1) hw h14 (fun k hk => (hs k hk).2) hwk.2 fun k hk => (hD.2.1 k hk).2.2
    have rall := zrn_all (lim := lim) (nt := nt) (C := zcd L) (mem := mem) (slow := slow) (wk := wk) (O := T.2.1)
    have rstep : ∀ k, zrn lim nt (zcd L) mem slow wk T.2.1 (k + 1) = if T.2.1 k = true then zrs lim nt (zcd L) mem slow wk k (zrn lim nt (zcd L) mem slow wk T.2.1 k) else zrn lim nt (zcd L) mem slow wk T.2.1 k := fun _ => rfl
    have r0 : zrn lim nt (zcd L) mem slow wk T.2.1 0 = (0, [], 0) := rfl
    obtain ⟨rn, hrn⟩ : ∃ z, z = zrn lim nt (zcd L) mem slow wk T.2.1 := ⟨_, rfl⟩
    rw [← hrn] at hQ rle rall rstep r0
    clear hrn skip
    have done : ∀ (S4 : zMS), zrL S4 (rn (i + 1)).2.1 (rn (i + 1)).1 (rn (i + 1)).2.2 wk → zmT S4 T → (∀ j, j < 7 ∨ j = 11 → S4.1 j = S3.1 j) → (∀ j, j < 20 → S4.2 j = S3.2 j) → zNW G kX12_run m Q 93 [some (.ref m), some (.int (nI i)), some (.int (nI (i + 1)))] [] S4 := by
      intro S4 l4 t4 a b
      have kn4 : zKnw S4 lim nt := fun n hn => (q3 n hn).cg fun j u1 u2 => b j (by omega)
      have c4 : zrC S4 L un := h3.2.2.2.1.cg (a 6 (by decide)) (b 18 (by decide)) (b 19 (by decide))
      have n4 : zrN S4 nt := h3.1.cg (a 0 (by decide)) fun j q => b j (by omega)
      have s4 : zrS S4 lim mem wk slow r := h3.2.2.1.cg (fun j u v => a j (by omega)) (b 16 (by decide))
      refine n_aload_n dX12_run_93 rfl ?_
      refine n_call dX12_run_94 cv_X12_267 (c_keeps hw hun hr n4 s4.2.2.2.1 c4 kn4 hL hsz hD t4) rfl rfl rfl ⟨(Nat.le_of_ble_eq_true rfl), (Nat.le_of_ble_eq_true rfl)⟩ rfl rfl (Nat.le_of_ble_eq_true rfl) (fun v S5 hq5 => ?_)
      obtain ⟨rfl, ⟨un', u1, u2⟩, v1, v2⟩ := hq5
      have l5 : zrL S5 (rn (i + 1)).2.1 (rn (i + 1)).1 (rn (i + 1)).2.2 wk := l4.cg (fun j x y => v1 j (by omega)) fun j x y => v2 j (by omega) (by omega)
      refine n_aload_n dX12_run_97 rfl ?_
      refine n_getE dX12_run_98 fl_X12_258 rfl (l5.1) ?_
      refine n_iret dX12_run_101 rfl (hQ _ _ (zQm.ok ?_ k0 ⟨rfl, un', u1, n4.cg (v1 0 (by decide)) (fun j q => v2 j (by omega) (by omega)), h3.2.1.cg ((v1 1 (by decide)).trans (a 1 (by decide))) (fun j q1 q2 => (v2 j (by omega) (by omega)).trans (b j (by omega))), s4.cg (fun j q1 q2 => v1 j (by omega)) (v2 16 (by decide) (by decide)), u2, l5⟩))
      rw [v1 11 (by decide), a 11 (by decide)]; exact e11
    have loop : ∀ (d k : Nat) (S4 : zMS), k + d = i + 1 → zrL S4 (rn k).2.1 (rn k).1 (rn k).2.2 wk → zmT S4 T → (∀ j, j < 7 ∨ j = 11 → S4.1 j = S3.1 j) → (∀ j, j < 20 → S4.2 j = S3.2 j) → zNW G kX12_run m Q 53 [some (.ref m), some (.int (nI i)), some (.int (nI k))] [] S4 := by
      intro d
      induction d with
      | zero =>
        intro k S4 hk l4 t4 a b
        have ek : k = i + 1 := by omega
        subst ek
        refine n_iload_n dX12_run_53 rfl ?_
        refine n_iload_n dX12_run_54 rfl ?_
        refine n_icmp_gt (tgt := 93) dX12_run_55 (by decide) (fun _ => ?_) (fun q => absurd ((nI_lt (by omega) (by omega))) q)
        exact done S4 l4 t4 a b
      | succ d ih =>
        intro k S4 hk l4 t4 a b
        have nx := ih (k + 1)
        rw [rstep] at nx
        have kn4 : zKnw S4 lim nt := fun n hn => (q3 n hn).cg fun j u1 u2 => b j (by omega)
        have n4 : zrN S4 nt := h3.1.cg (a 0 (by decide)) fun j q => b j (by omega)
        have s4 : zrS S4 lim mem wk slow r := h3.2.2.1.cg (fun j u v => a j (by omega)) (b 16 (by decide))
        have l20 := (t4 k (by omega)).2.1
        obtain ⟨z1, z2⟩ := rle k
        have tail : ∀ (S5 : zMS) (x : Nat), x = (if T.2.1 k = true then zrs lim nt (zcd L) mem slow wk k (rn k) else rn k).1 → zrL (zSF S5 7 (nI x)) (if T.2.1 k = true then zrs lim nt (zcd L) mem slow wk k (rn k) else rn k).2.1 (if T.2.1 k = true then zrs lim nt (zcd L) mem slow wk k (rn k) else rn k).1 (if T.2.1 k = true then zrs lim nt (zcd L) mem slow wk k (rn k) else rn k).2.2 wk → zmT S5 T → (∀ j, j < 7 ∨ j = 11 → S5.1 j = S3.1 j) → (∀ j, j < 20 → S5.2 j = S3.2 j) → zNW G kX12_run m Q 84 [some (.ref m), some (.int (nI i)), some (.int (nI k))] [.int (nI x), .ref m] S5 := by
          intro S5 x hx l5 t5 a5 b5
          refine n_put (j := 7) dX12_run_84 fp_X12_258 (zMFs7 _ _ _) rfl rfl (Nat.le_of_ble_eq_true rfl) ?_
          refine n_inc1 dX12_run_87 rfl (by decide) ?_
          rw [nI_1]
          refine n_goto (tgt := 53) dX12_run_90 (by decide) ?_
          exact nx _ (by omega) l5 t5 (fun j q => (pk_un (by omega)).trans (a5 j q)) b5
        refine n_iload_n dX12_run_53 rfl ?_
        refine n_iload_n dX12_run_54 rfl ?_
        refine n_icmp_gt (tgt := 93) dX12_run_55 (by decide) (fun q => absurd q ((fun w => absurd w (Int32.not_lt.mpr (nI_le (show k ≤ i by omega) (by omega)))))) (fun _ => ?_)
        refine n_aload_n dX12_run_58 rfl ?_
        refine n_aload_n dX12_run_59 rfl ?_
        refine n_get dX12_run_60 fl_X12_81 rfl ?_
        refine n_iload_n dX12_run_63 rfl ?_
        refine n_zald (j := 20) dX12_run_64 (by decide) rfl rfl (show _ < 14 by omega) l20 ?_
        cases w : T.2.1 k with
        | false =>
          rw [w, if_neg (by decide)] at tail
          refine n_if_eq (tgt := 80) dX12_run_65 (by decide) (fun _ => ?_) (fun q => absurd (rfl) q)
          refine n_aload_n dX12_run_80 rfl ?_
          refine n_getE dX12_run_81 fl_X12_258 rfl (l4.1) ?_
          refine tail S4 _ rfl ?_ t4 a b
          have : zSF S4 7 (nI (rn k).1) = S4 := by
            refine Prod.ext (funext fun j => ?_) rfl
            by_cases e : j = 7
            · subst e; rw [zSF_s]; exact l4.1.symm
            · exact zSF_n e
          rw [this]
          exact l4
        | true =>
          have hT2 : (zdraw lim nt (zcd L) i).2.1 k = true := by rw [← hT]; exact w
          rw [w, if_pos rfl] at tail
          refine n_if_eq (tgt := 80) dX12_run_65 (by decide) (fun q => absurd q ((by decide))) (fun _ => ?_)
          refine n_aload_n dX12_run_68 rfl ?_
          refine n_iload_n dX12_run_69 rfl ?_
          refine n_aload_n dX12_run_70 rfl ?_
          refine n_getE dX12_run_71 fl_X12_258 rfl (l4.1) ?_
          refine n_call dX12_run_74 cv_X12_264 (c_m_stage (C := zcd L) (i := i) (r := r) hw h14 hlim hmem hs hwk n4 s4 kn4 (fun k q => by rw [b 18 (by decide)]; exact h3.2.2.2.1.1 k q) hi (by rw [← hT]; exact t4) hT2 l4 (by omega) (zall_iff.mpr (rall k)) (by omega)) rfl rfl rfl ⟨(Nat.le_of_ble_eq_true rfl), (Nat.le_of_ble_eq_true rfl)⟩ rfl rfl (Nat.le_of_ble_eq_true rfl) (fun v S5 hq5 => ?_)
          obtain ⟨rfl, y1, y2, y3, y4⟩ := hq5
          refine n_goto (tgt := 84) dX12_run_77 (by decide) ?_
          refine tail S5 _ rfl ⟨zSF_s, (zSF_n (by decide)).trans y1.2.1, (zSF_n (by decide)).trans y1.2.2.1, (zSF_n (by decide)).trans y1.2.2.2.1, y1.2.2.2.2.1, y1.2.2.2.2.2⟩ (by rw [hT]; exact y2) (fun j q => (y3 j (by omega) (by omega)).trans (a j q)) fun j q => (y4 j q).trans (b j q)
    refine n_pop dX12_run_27 rfl ?_
    refine n_aload_n dX12_run_28 rfl ?_
    refine n_iconst (v := (nI 0)) dX12_run_29 (by decide) ?_
    refine n_put (j := 7) dX12_run_30 fp_X12_258 (zMFs7 _ _ _) rfl rfl (Nat.le_of_ble_eq_true rfl) ?_
    refine n_aload_n dX12_run_33 rfl ?_
    refine n_iconst (v := (nI 0)) dX12_run_34 (by decide) ?_
    refine n_put (j := 8) dX12_run_35 fp_X12_248 (zMFs8 _ _ _) rfl rfl (Nat.le_of_ble_eq_true rfl) ?_
    refine n_aload_n dX12_run_38 rfl ?_
    refine n_iconst (v := (nI 0)) dX12_run_39 (by decide) ?_
    refine n_put (j := 10) dX12_run_40 fp_X12_238 (zMFs10 _ _ _) rfl rfl (Nat.le_of_ble_eq_true rfl) ?_
    refine n_aload_n dX12_run_43 rfl ?_
    refine n_aload_n dX12_run_44 rfl ?_
    refine n_getE dX12_run_45 fl_X12_65 rfl (h3.2.2.1.2.2.1) ?_
    refine n_put (j := 9) dX12_run_48 fp_X12_261 (zMFs9 _ _ _) rfl rfl (Nat.le_of_ble_eq_true rfl) ?_
    refine n_iconst (v := (nI 0)) dX12_run_51 (by decide) ?_
    refine n_istore_n dX12_run_52 (by decide) ?_
    refine loop (i + 1) 0 (zSF (zSF (zSF (zSF S3 7 (nI 0)) 8 (nI 0)) 10 (nI 0)) 9 (nI wk)) (by omega) ?_ q4 (fun j q => ?_) fun _ _ => rfl
    · rw [r0]
      refine ⟨?_, ?_, zSF_s, ?_, Nat.zero_le _, fun k a hk => nomatch hk⟩
      · rw [zSF_n (by decide), zSF_n (by decide), zSF_n (by decide)]; exact zSF_s
      · rw [zSF_n (by decide), zSF_n (by decide)]; exact zSF_s
      · rw [zSF_n (by decide)]; exact zSF_s
    · rw [zSF_n (by omega), zSF_n (by omega), zSF_n (by omega), zSF_n (by omega)]
  · rw [zif_f c]
    refine n_if_eq (tgt := 13) dX12_run_6 (by decide) (fun _ => ?_) (fun q => absurd (rfl) q)
    refine n_iconst (v := (nI 1)) dX12_run_13 (by decide) ?_
    refine n_call dX12_run_14 cv_X12_130 c_fails rfl rfl rfl ⟨(Nat.le_of_ble_eq_true rfl), (Nat.le_of_ble_eq_true rfl)⟩ rfl rfl (Nat.le_of_ble_eq_true rfl) (fun v S2 hq2 => ?_)
    obtain ⟨rfl, rfl⟩ := hq2
    refine n_if_eq (tgt := 22) dX12_run_17 (by decide) (fun q => absurd q ((by decide))) (fun _ => ?_)
    refine n_iconst (v := (nI 0)) dX12_run_20 (by decide) ?_
    exact n_iret dX12_run_21 rfl (hQ _ _ (zQm.bad zSF_s k1 (by decide) h.thr))
end
