-- model
/-! the model: stages -/
def zU (t s : zT3) : zT3 := (fun m => t.1 m || s.1 m, fun m => t.2.1 m || s.2.1 m, fun m => t.2.2 m || s.2.2 m)
theorem zor_or (a b : Nat → Bool) (k : Nat) : zor (fun m => a m || b m) k = fun m => a m || zor b k m := by
  funext m
  simp only [zor, Bool.or_assoc]
theorem zneed_U (C : Nat → Bool) (k : Nat) (t s : zT3) : zneed C k (zU t s) = zU t (zneed C k s) := by
  unfold zneed
  by_cases c : C k = true
  · rw [if_pos c, if_pos c]; simp only [zU, zor_or]
  · rw [if_neg c, if_neg c]; simp only [zU, zor_or]
theorem zread_U (lim : Nat) (nt : zNT) (C : Nat → Bool) : ∀ (d i j : Nat) (t s : zT3), (zread lim nt C d i j (zU t s)).1 = zU t (zread lim nt C d i j s).1 := by
  intro d
  induction d with
  | zero => intro i j t s; rfl
  | succ d ih =>
    intro i j t s
    have met : ((zU t s).1, (zU t s).2.1, zor (zU t s).2.2 i) = zU t (s.1, s.2.1, zor s.2.2 i) := by simp only [zU, zor_or]
    rw [zread, zread]
    by_cases c1 : C i = true
    · rw [if_pos c1, if_pos c1]; simp only [zU, zor_or]
    · rw [if_neg c1, if_neg c1]
      by_cases c2 : zkd nt i = 0
      · rw [if_pos c2, if_pos c2]; exact met
      · rw [if_neg c2, if_neg c2, met]
        by_cases c3 : zkd nt i = 4
        · rw [if_pos c3, if_pos c3]; exact zneed_U _ _ _ _
        · rw [if_neg c3, if_neg c3]
          by_cases c4 : zkd nt i = 5
          · rw [if_pos c4, if_pos c4, zneed_U, zneed_U, zneed_U]
            by_cases c5 : zbr lim nt i = true
            · rw [if_pos c5, if_pos c5]; exact ih _ _ _ _
            · rw [if_neg c5, if_neg c5]
          · rw [if_neg c4, if_neg c4]
            by_cases c6 : zkd nt i = 3 ∧ (zct lim nt (zf1 nt i)).length ≤ j
            · rw [if_pos c6, if_pos c6]; exact ih _ _ _ _
            · rw [if_neg c6, if_neg c6]; exact ih _ _ _ _
theorem zU_0 (t : zT3) : zU t zt0 = t := by
  unfold zU zt0
  simp only [Bool.or_false]
def zLe (s t : zT3) : Prop := zU t s = t
theorem zLe_iff {s t : zT3} : zLe s t ↔ (∀ m, s.1 m = true → t.1 m = true) ∧ (∀ m, s.2.1 m = true → t.2.1 m = true) ∧ ∀ m, s.2.2 m = true → t.2.2 m = true := by
  constructor
  · intro h
    have h1 : ∀ m, (t.1 m || s.1 m) = t.1 m := fun m => congrFun (congrArg (fun z => z.1) h) m
    have h2 : ∀ m, (t.2.1 m || s.2.1 m) = t.2.1 m := fun m => congrFun (congrArg (fun z => z.2.1) h) m
    have h3 : ∀ m, (t.2.2 m || s.2.2 m) = t.2.2 m := fun m => congrFun (congrArg (fun z => z.2.2) h) m
    refine ⟨fun m q => ?_, fun m q => ?_, fun m q => ?_⟩
    · rw [← h1 m, q, Bool.or_true]
    · rw [← h2 m, q, Bool.or_true]
    · rw [← h3 m, q, Bool.or_true]
  · rintro ⟨h1, h2, h3⟩
    have key : ∀ a b : Bool, (b = true → a = true) → (a || b) = a := by intro a b; cases a <;> cases b <;> simp
    exact Prod.ext (funext fun m => key _ _ (h1 m)) (Prod.ext (funext fun m => key _ _ (h2 m)) (funext fun m => key _ _ (h3 m)))
theorem zLe_tr {s t u : zT3} (h : zLe s t) (h2 : zLe t u) : zLe s u := by
  rw [zLe_iff] at *
  exact ⟨fun m q => h2.1 m (h.1 m q), fun m q => h2.2.1 m (h.2.1 m q), fun m q => h2.2.2 m (h.2.2 m q)⟩
theorem zLe_U (t s : zT3) : zLe t (zU t s) ∧ zLe s (zU t s) := by
  rw [zLe_iff, zLe_iff]
  simp only [zU]
  exact ⟨⟨fun m q => by rw [q]; rfl, fun m q => by rw [q]; rfl, fun m q => by rw [q]; rfl⟩, ⟨fun m q => by rw [q, Bool.or_true], fun m q => by rw [q, Bool.or_true], fun m q => by rw [q, Bool.or_true]⟩⟩
theorem zread_D (lim : Nat) (nt : zNT) (C : Nat → Bool) (d i j : Nat) (t : zT3) : (zread lim nt C d i j t).1 = zU t (zread lim nt C d i j zt0).1 := by
  rw [← zread_U, zU_0]
theorem zrow_le {lim : Nat} {nt : zNT} {C : Nat → Bool} {k : Nat} {t : zT3} : ∀ n, zLe t (zrow lim nt C k n t) ∧ ∀ p, p < n → zLe (zread lim nt C 14 k p zt0).1 (zrow lim nt C k n t)
  | 0 => ⟨zLe_iff.mpr ⟨fun _ q => q, fun _ q => q, fun _ q => q⟩, fun p hp => absurd hp (Nat.not_lt_zero _)⟩
  | n + 1 => by
    obtain ⟨h1, h2⟩ := zrow_le (lim := lim) (nt := nt) (C := C) (k := k) (t := t) n
    rw [zrow, zread_D]
    obtain ⟨u1, u2⟩ := zLe_U (zrow lim nt C k n t) (zread lim nt C 14 k n zt0).1
    refine ⟨zLe_tr h1 u1, fun p hp => ?_⟩
    by_cases e : p = n
    · subst e; exact u2
    · exact zLe_tr (h2 p (by omega)) u1
theorem zdr_le {lim : Nat} {nt : zNT} {C : Nat → Bool} : ∀ (k : Nat) (t : zT3), zLe t (zdr lim nt C k t)
  | 0, t => zLe_iff.mpr ⟨fun _ q => q, fun _ q => q, fun _ q => q⟩
  | k + 1, t => by
    rw [zdr]
    by_cases c : t.2.1 k = true
    · rw [if_pos c]; exact zLe_tr (zrow_le _).1 (zdr_le k _)
    · rw [if_neg c]; exact zdr_le k t
theorem zdr_out {lim : Nat} {nt : zNT} {C : Nat → Bool} {i : Nat} (hw : zWf nt) (hl : nt.length ≤ 14) (hi : i < nt.length) : ∀ (k : Nat) (t : zT3), zDI nt C i t → ∀ m, k ≤ m → (zdr lim nt C k t).2.1 m = true → t.2.1 m = true
  | 0, t, _, m, _, h => h
  | k + 1, t, hd, m, hm, h => by
    rw [zdr] at h
    by_cases c : t.2.1 k = true
    · rw [if_pos c] at h
      obtain ⟨-, d2, d3⟩ := hd.2.1 k c
      have h2 := zdr_out hw hl hi k _ (zDI_row hw hl hi d3 d2 hd _) m (by omega) h
      rcases zrow_out hw hl d3 t _ m h2 with w | w
      · exact w
      · omega
    · rw [if_neg c] at h; exact zdr_out hw hl hi k t hd m (by omega) h
/-- a task's way is in what was drawn -/
theorem zdr_closed {lim : Nat} {nt : zNT} {C : Nat → Bool} {i : Nat} (hw : zWf nt) (hl : nt.length ≤ 14) (hi : i < nt.length) : ∀ (n : Nat) (t : zT3), zDI nt C i t → ∀ k p, k < n → (zdr lim nt C n t).2.1 k = true → p < (zct lim nt k).length → zLe (zread lim nt C 14 k p zt0).1 (zdr lim nt C n t)
  | 0, t, _, k, p, hk, _, _ => absurd hk (Nat.not_lt_zero _)
  | n + 1, t, hd, k, p, hk, h, hp => by
    rw [zdr] at h ⊢
    by_cases c : t.2.1 n = true
    · rw [if_pos c] at h ⊢
      obtain ⟨-, d2, d3⟩ := hd.2.1 n c
      have hd2 := zDI_row (lim := lim) hw hl hi d3 d2 hd (zct lim nt n).length
      by_cases e : k = n
      · subst e; exact zLe_tr ((zrow_le _).2 p hp) (zdr_le k _)
      · exact zdr_closed hw hl hi n _ hd2 k p (by omega) h hp
    · rw [if_neg c] at h ⊢
      by_cases e : k = n
      · subst e; exact absurd (zdr_out hw hl hi k t hd k (Nat.le_refl _) h) c
      · exact zdr_closed hw hl hi n t hd k p (by omega) h hp
theorem zdraw_closed {lim : Nat} {nt : zNT} {C : Nat → Bool} {i k p : Nat} (hw : zWf nt) (hl : nt.length ≤ 14) (hi : i < nt.length) (hk : (zdraw lim nt C i).2.1 k = true) (hp : p < (zct lim nt k).length) : (zread lim nt C 14 k p (zdraw lim nt C i)).1 = zdraw lim nt C i := by
  have hD := zDI_draw (lim := lim) (C := C) hw hl hi
  have k14 := (hD.2.1 k hk).2.2
  rw [zread_D]
  exact zdr_closed hw hl hi 14 _ (zDI_need (t := zt0) ⟨fun m q => (nomatch q), fun m q => (nomatch q), fun m q => (nomatch q)⟩ (zLin_lt hw hl i hi).2 hi) k p (by omega) hk hp
def zbi (b : Bool) : Int32 := if b = true then 1 else 0
def zmT (S : zMS) (t : zT3) : Prop := ∀ k, k < 14 → S.2 22 k = zbi (t.1 k) ∧ S.2 20 k = zbi (t.2.1 k) ∧ S.2 21 k = zbi (t.2.2 k)
theorem zbi_n (b : Bool) : narrow .boolean (.int (zbi b)) = .int (zbi b) := by cases b <;> rfl
section
variable {G : zG} {m : Nat} {nt : zNT} {lim mem wk r tk sp cs un : Nat} {slow : Nat → Nat} {L : zNS} {A : List zAE} {S S' : zMS} {C : Nat → Bool} {t : zT3}
set_option maxRecDepth 100000 in
theorem c_shared {f j p : Nat} {P : List zP2} (hf : f < 14) (hP : zmH S f P) (p8 : P.length ≤ 8) (p3 : P.flatten.length ≤ 300) (hp1 : 1 ≤ p) (hp8 : p ≤ 8) : zMN G yX12_shared kX12_shared m [.int (nI f), .int (nI j), .int (nI p)] S (fun v S' => v = some (.int (nI (zshr P p j))) ∧ S' = S) := by
  refine zMN.of (ls := [some (.ref m), some (.int (nI f)), some (.int (nI j)), some (.int (nI p)), none, none]) (by decide +kernel) ⟨rfl, rfl, rfl⟩ (Nat.le_of_ble_eq_true rfl) (fun _ h => h) fun Q hQ => ?_
  have hp0 : (0 : Int32) < nI p := nI_lt (a := 0) hp1 (by omega)
  have loop : ∀ (e k : Nat), k + e = P.flatten.length → zNW G kX12_shared m Q 10 [some (.ref m), some (.int (nI f)), some (.int (nI j)), some (.int (nI p)), some (.int (nI (zpart p (P.flatten.take k) j).length)), some (.int (nI (300 * f + k)))] [] S := by
    intro e
    induction e with
    | zero =>
      intro k he
      have ek : k = P.flatten.length := by omega
      subst ek
      refine n_iload dX12_shared_10 rfl ?_
      refine n_sipush (v := (nI 300)) dX12_shared_12 (by decide) ?_
      refine n_iload_n dX12_shared_15 rfl ?_
      refine n_imul dX12_shared_16 ?_
      rw [pk_mul]
      refine n_aload_n dX12_shared_17 rfl ?_
      refine n_iload_n dX12_shared_18 rfl ?_
      refine n_call dX12_shared_19 cv_X12_152 (c_all hf hP p8) rfl rfl rfl ⟨(Nat.le_of_ble_eq_true rfl), (Nat.le_of_ble_eq_true rfl)⟩ rfl rfl (Nat.le_of_ble_eq_true rfl) (fun v S1 hq1 => ?_)
      obtain ⟨rfl, rfl⟩ := hq1
      refine n_iadd dX12_shared_22 ?_
      rw [nI_add]
      refine n_icmp_ge (tgt := 57) dX12_shared_23 (by decide) (fun _ => ?_) (fun q => absurd ((nI_le (Nat.le_refl _) (by omega))) q)
      rw [List.take_length]
      refine n_iload dX12_shared_57 rfl ?_
      exact n_iret dX12_shared_59 rfl (hQ _ _ ⟨rfl, rfl⟩)
    | succ e ih =>
      intro k he
      have hg : P.flatten[k]? = some (P.flatten[k]'(by omega)) := List.getElem?_eq_getElem _
      generalize P.flatten[k]'(by omega) = q at hg
      have r1 := (hP.2.2 k q hg).1
      have hsn := zpart_snoc p (P.flatten.take k) j q
      rw [← ztake hg] at hsn
      have := ih (k + 1) (by omega)
      rw [hsn] at this
      refine n_iload dX12_shared_10 rfl ?_
      refine n_sipush (v := (nI 300)) dX12_shared_12 (by decide) ?_
      refine n_iload_n dX12_shared_15 rfl ?_
      refine n_imul dX12_shared_16 ?_
      rw [pk_mul]
      refine n_aload_n dX12_shared_17 rfl ?_
      refine n_iload_n dX12_shared_18 rfl ?_
      refine n_call dX12_shared_19 cv_X12_152 (c_all hf hP p8) rfl rfl rfl ⟨(Nat.le_of_ble_eq_true rfl), (Nat.le_of_ble_eq_true rfl)⟩ rfl rfl (Nat.le_of_ble_eq_true rfl) (fun v S1 hq1 => ?_)
      obtain ⟨rfl, hS⟩ := hq1
      subst hS
      refine n_iadd dX12_shared_22 ?_
      rw [nI_add]
      refine n_icmp_ge (tgt := 57) dX12_shared_23 (by decide) (fun q => absurd q ((nI_ge (show 300 * f + k < 300 * f + P.flatten.length by omega) (by omega)))) (fun _ => ?_)
      refine n_iload dX12_shared_26 rfl ?_
      refine n_aload_n dX12_shared_28 rfl ?_
      refine n_get dX12_shared_29 fl_X12_52 rfl ?_
      refine n_iload dX12_shared_32 rfl ?_
      refine n_iald (j := 14) dX12_shared_34 (by decide) rfl rfl (show _ < 4200 by omega) r1 ?_
      refine n_iload_n dX12_shared_35 rfl ?_
      refine n_callS dX12_shared_36 cv_X12_159 (fun _ _ => (c_share hp0)) rfl rfl ⟨(Nat.le_of_ble_eq_true rfl), (Nat.le_of_ble_eq_true rfl)⟩ rfl rfl (Nat.le_of_ble_eq_true rfl) (fun v hq2 => ?_)
      subst hq2
      refine n_iload_n dX12_shared_39 rfl ?_
      refine n_icmp_ne (tgt := 47) dX12_shared_40 (by decide) (fun h40 => ?_) (fun h40 => ?_)
      · rw [if_neg h40, List.append_nil] at this
        refine n_iconst (v := (nI 0)) dX12_shared_47 (by decide) ?_
        refine n_iadd dX12_shared_48 ?_
        rw [nI_add]
        refine n_istore dX12_shared_49 (by decide) ?_
        refine n_inc1 dX12_shared_51 rfl (by decide) ?_
        refine n_goto (tgt := 10) dX12_shared_54 (by decide) ?_
        rw [nI_1]
        exact this
      · rw [if_pos h40, List.length_append, List.length_singleton] at this
        refine n_iconst (v := (nI 1)) dX12_shared_43 (by decide) ?_
        refine n_goto (tgt := 48) dX12_shared_44 (by decide) ?_
        refine n_iadd dX12_shared_48 ?_
        rw [nI_add]
        refine n_istore dX12_shared_49 (by decide) ?_
        refine n_inc1 dX12_shared_51 rfl (by decide) ?_
        refine n_goto (tgt := 10) dX12_shared_54 (by decide) ?_
        rw [nI_1]
        exact this
  refine n_iconst (v := (nI 0)) dX12_shared_0 (by decide) ?_
  refine n_istore dX12_shared_1 (by decide) ?_
  refine n_sipush (v := (nI 300)) dX12_shared_3 (by decide) ?_
  refine n_iload_n dX12_shared_6 rfl ?_
  refine n_imul dX12_shared_7 ?_
  rw [pk_mul]
  refine n_istore dX12_shared_8 (by decide) ?_
  exact loop P.flatten.length 0 (by omega)
set_option maxRecDepth 100000 in
theorem c_needs {j : Nat} (hj : j < 14) (hC : S.2 18 j = zbi (C j)) (ht : zmT S t) : zMN G yX12_needs kX12_needs m [.int (nI j)] S (fun v S' => v = none ∧ zmT S' (zneed C j t) ∧ S'.1 = S.1 ∧ ∀ a, a ≠ 22 → a ≠ 20 → S'.2 a = S.2 a) := by
  refine zMN.of (ls := [some (.ref m), some (.int (nI j))]) (by decide +kernel) ⟨rfl, rfl, rfl⟩ (Nat.le_of_ble_eq_true rfl) (fun _ h => h) fun Q hQ => ?_
  obtain ⟨h1, h2, h3⟩ := ht j hj
  have eff1 : (zneed C j t).1 = fun k => if k = j then (t.1 j || C j) else t.1 k := by
    funext k
    unfold zneed
    cases w : C j with
    | true =>
      rw [if_pos rfl]
      by_cases e : k = j
      · subst e; simp [zor]
      · simp [zor, e]
    | false =>
      rw [if_neg (by decide)]
      by_cases e : k = j
      · subst e; simp
      · simp [e]
  have eff2 : (zneed C j t).2.1 = fun k => if k = j then (t.2.1 j || !(C j)) else t.2.1 k := by
    funext k
    unfold zneed
    cases w : C j with
    | true =>
      rw [if_pos rfl]
      by_cases e : k = j
      · subst e; simp
      · simp [e]
    | false =>
      rw [if_neg (by decide)]
      by_cases e : k = j
      · subst e; simp [zor]
      · simp [zor, e]
  have eff3 : (zneed C j t).2.2 = t.2.2 := by unfold zneed; by_cases w : C j = true; rw [if_pos w]; rw [if_neg w]
  have second : ∀ S1 : zMS, S1.1 = S.1 → (∀ a, a ≠ 22 → S1.2 a = S.2 a) → (∀ k, k < 14 → S1.2 22 k = zbi ((zneed C j t).1 k)) → zNW G kX12_needs m Q 29 [some (.ref m), some (.int (nI j))] [] S1 := by
    intro S1 a b c
    have n1 : S1.2 20 j = zbi (t.2.1 j) := by rw [b 20 (by decide)]; exact h2
    have n2 : S1.2 18 j = zbi (C j) := by rw [b 18 (by decide)]; exact hC
    have fin : ∀ x : Bool, x = (t.2.1 j || !(C j)) → zNW G kX12_needs m Q 57 [some (.ref m), some (.int (nI j))] [.int (zbi x), .int (nI j), .ref (m + 1 + 20)] S1 := by
      intro x hx
      refine n_zast (j := 20) dX12_needs_57 (by decide) rfl rfl (show _ < 14 by omega) (zbi_n x) ?_
      refine n_vret dX12_needs_58 rfl (hQ _ _ ⟨rfl, fun k hk => ⟨(zSTo (by decide)).trans (c k hk), ?_, ?_⟩, a, fun q q1 q2 => (zST_n _ _ _ q2).trans (b q q1)⟩)
      · rw [eff2]
        by_cases e : k = j
        · subst e; rw [zSTs]; simp only [if_true]; rw [hx]
        · rw [zSTn e]; simp only [e, if_false]; rw [b 20 (by decide)]; exact (ht k hk).2.1
      · rw [zSTo (by decide), b 21 (by decide), eff3]
        exact (ht k hk).2.2
    refine n_aload_n dX12_needs_29 rfl ?_
    refine n_get dX12_needs_30 fl_X12_81 rfl ?_
    refine n_iload_n dX12_needs_33 rfl ?_
    refine n_aload_n dX12_needs_34 rfl ?_
    refine n_get dX12_needs_35 fl_X12_81 rfl ?_
    refine n_iload_n dX12_needs_38 rfl ?_
    refine n_zald (j := 20) dX12_needs_39 (by decide) rfl rfl (show _ < 14 by omega) n1 ?_
    cases w1 : t.2.1 j with
    | true =>
      rw [w1] at fin
      refine n_if_ne (tgt := 52) dX12_needs_40 (by decide) (fun _ => ?_) (fun q => absurd q ((by decide)))
      refine n_iconst (v := (nI 1)) dX12_needs_52 (by decide) ?_
      refine n_goto (tgt := 57) dX12_needs_53 (by decide) ?_
      exact fin true rfl
    | false =>
      rw [w1] at fin
      refine n_if_ne (tgt := 52) dX12_needs_40 (by decide) (fun q => absurd (rfl) q) (fun _ => ?_)
      refine n_aload_n dX12_needs_43 rfl ?_
      refine n_get dX12_needs_44 fl_X12_75 rfl ?_
      refine n_iload_n dX12_needs_47 rfl ?_
      refine n_zald (j := 18) dX12_needs_48 (by decide) rfl rfl (show _ < 14 by omega) n2 ?_
      cases w2 : C j with
      | true =>
        rw [w2] at fin
        refine n_if_ne (tgt := 56) dX12_needs_49 (by decide) (fun _ => ?_) (fun q => absurd q ((by decide)))
        refine n_iconst (v := (nI 0)) dX12_needs_56 (by decide) ?_
        exact fin false rfl
      | false =>
        rw [w2] at fin
        refine n_if_ne (tgt := 56) dX12_needs_49 (by decide) (fun q => absurd (rfl) q) (fun _ => ?_)
        refine n_iconst (v := (nI 1)) dX12_needs_52 (by decide) ?_
        refine n_goto (tgt := 57) dX12_needs_53 (by decide) ?_
        exact fin true rfl
  have fin : ∀ x : Bool, x = (t.1 j || C j) → zNW G kX12_needs m Q 28 [some (.ref m), some (.int (nI j))] [.int (zbi x), .int (nI j), .ref (m + 1 + 22)] S := by
    intro x hx
    refine n_zast (j := 22) dX12_needs_28 (by decide) rfl rfl (show _ < 14 by omega) (zbi_n x) ?_
    refine second _ rfl (fun a ha => zST_n _ _ _ ha) fun k hk => ?_
    rw [eff1]
    by_cases e : k = j
    · subst e; rw [zSTs]; simp only [if_true]; rw [hx]
    · rw [zSTn e]; simp only [e, if_false]; exact (ht k hk).1
  refine n_aload_n dX12_needs_0 rfl ?_
  refine n_get dX12_needs_1 fl_X12_87 rfl ?_
  refine n_iload_n dX12_needs_4 rfl ?_
  refine n_aload_n dX12_needs_5 rfl ?_
  refine n_get dX12_needs_6 fl_X12_87 rfl ?_
  refine n_iload_n dX12_needs_9 rfl ?_
  refine n_zald (j := 22) dX12_needs_10 (by decide) rfl rfl (show _ < 14 by omega) h1 ?_
  cases w1 : t.1 j with
  | true =>
    rw [w1] at fin
    refine n_if_ne (tgt := 23) dX12_needs_11 (by decide) (fun _ => ?_) (fun q => absurd q ((by decide)))
    refine n_iconst (v := (nI 1)) dX12_needs_23 (by decide) ?_
    refine n_goto (tgt := 28) dX12_needs_24 (by decide) ?_
    exact fin true rfl
  | false =>
    rw [w1] at fin
    refine n_if_ne (tgt := 23) dX12_needs_11 (by decide) (fun q => absurd (rfl) q) (fun _ => ?_)
    refine n_aload_n dX12_needs_14 rfl ?_
    refine n_get dX12_needs_15 fl_X12_75 rfl ?_
    refine n_iload_n dX12_needs_18 rfl ?_
    refine n_zald (j := 18) dX12_needs_19 (by decide) rfl rfl (show _ < 14 by omega) hC ?_
    cases w2 : C j with
    | true =>
      rw [w2] at fin
      refine n_if_eq (tgt := 27) dX12_needs_20 (by decide) (fun q => absurd q ((by decide))) (fun _ => ?_)
      refine n_iconst (v := (nI 1)) dX12_needs_23 (by decide) ?_
      refine n_goto (tgt := 28) dX12_needs_24 (by decide) ?_
      exact fin true rfl
    | false =>
      rw [w2] at fin
      refine n_if_eq (tgt := 27) dX12_needs_20 (by decide) (fun _ => ?_) (fun q => absurd (rfl) q)
      refine n_iconst (v := (nI 0)) dX12_needs_27 (by decide) ?_
      exact fin false rfl
set_option maxRecDepth 100000 in
set_option maxHeartbeats 2000000 in
/-- a task's way, from a node on -/
theorem c_reads {i j : Nat} (hw : zWf nt) (h14 : nt.length ≤ 14) (hlim : lim ≤ 1000) (hN : zrN S nt) (hl : S.1 2 = nI lim) (hk : zKnw S lim nt) (hC : ∀ k, k < 14 → S.2 18 k = zbi (C k)) (ht : zmT S t) (hi : i < nt.length) (hj : j < (zct lim nt i).length) (hCi : C i = false) :
    zMN G yX12_reads kX12_reads m [.int (nI i), .int (nI j)] S (fun v S' => v = some (.int (nI (zread lim nt C 14 i j t).2)) ∧ zmT S' (zread lim nt C 14 i j t).1 ∧ S'.1 = S.1 ∧ ∀ a, a ≠ 22 → a ≠ 20 → a ≠ 21 → S'.2 a = S.2 a) := by
  refine zMN.of (ls := [some (.ref m), some (.int (nI i)), some (.int (nI j)), none, none, none, none, none]) (by decide +kernel) ⟨rfl, rfl, rfl⟩ (Nat.le_of_ble_eq_true rfl) (fun _ h => h) fun Q hQ => ?_
  have loop : ∀ (d k q sum : Nat) (t1 : zT3) (S1 : zMS) (x6 x7 : Option Value), k < d → k ≤ i → q < (zct lim nt k).length → (C k = false ∨ k ≠ i) → zmT S1 t1 → S1.1 = S.1 → (∀ a, a ≠ 22 → a ≠ 20 → a ≠ 21 → S1.2 a = S.2 a) →
      (∀ S2 : zMS, zmT S2 (zread lim nt C d k q t1).1 → S2.1 = S.1 → (∀ a, a ≠ 22 → a ≠ 20 → a ≠ 21 → S2.2 a = S.2 a) → Q (some (.int (nI (sum + (zread lim nt C d k q t1).2)))) S2) →
      zNW G kX12_reads m Q 8 [some (.ref m), some (.int (nI i)), some (.int (nI j)), some (.int (nI k)), some (.int (nI q)), some (.int (nI sum)), x6, x7] [] S1 := by
    intro d
    induction d with
    | zero => intro k q sum t1 S1 x6 x7 hd; exact absurd hd (Nat.not_lt_zero _)
    | succ d ih =>
      intro k q sum t1 S1 x6 x7 hd hki0 hq hCk ht1 a1 b1 go
      have hkl : k < nt.length := by omega
      obtain ⟨e, hei, eD, ek, k6, ff, ss, pp, lf, ls, len1, len3, -⟩ := zNfo (lim := lim) hw h14 hkl
      have hE := (hN.2.2.1 k e hei).cg (S' := S1) fun j hj => b1 j (by omega) (by omega) (by omega)
      unfold zrE at hE
      obtain ⟨x1, x2, x3, x4, x5, x6', x7', -⟩ := hE
      have hz := zct_le (lim := lim) hw h14 hkl
      have kn1 : zKnw S1 lim nt := fun n hn => (hk n hn).cg fun j q1 q2 => b1 j (by omega) (by omega) (by omega)
      have c1 : ∀ k, k < 14 → S1.2 18 k = zbi (C k) := fun k hk => by rw [b1 18 (by decide) (by decide) (by decide)]; exact hC k hk
      rw [zread] at go
      have done : ∀ (S2 : zMS) (n : Nat) (y4 y6 y7 : Option Value), Q (some (.int (nI n))) S2 → zNW G kX12_reads m Q 338 [some (.ref m), some (.int (nI i)), some (.int (nI j)), some (.int (-1)), y4, some (.int (nI n)), y6, y7] [] S2 := by
        intro S2 n y4 y6 y7 hq
        refine n_goto (tgt := 8) dX12_reads_338 (by decide) ?_
        refine n_iload_n dX12_reads_8 rfl ?_
        refine n_iconst (v := (-1)) dX12_reads_9 (by decide) ?_
        refine n_icmp_eq (tgt := 341) dX12_reads_10 (by decide) (fun _ => ?_) (fun q => absurd (rfl) q)
        refine n_iload dX12_reads_341 rfl ?_
        exact n_iret dX12_reads_343 rfl (hq)
      refine n_iload_n dX12_reads_8 rfl ?_
      refine n_iconst (v := (-1)) dX12_reads_9 (by decide) ?_
      refine n_icmp_eq (tgt := 341) dX12_reads_10 (by decide) (fun q => absurd q ((fun w => absurd (show nI k < 0 by rw [w]; decide) (nI_pos (by omega))))) (fun _ => ?_)
      refine n_iload_n dX12_reads_13 rfl ?_
      refine n_istore dX12_reads_14 (by decide) ?_
      refine n_iconst (v := (-1)) dX12_reads_16 (by decide) ?_
      refine n_istore_n dX12_reads_17 (by decide) ?_
      refine n_aload_n dX12_reads_18 rfl ?_
      refine n_get dX12_reads_19 fl_X12_75 rfl ?_
      refine n_iload dX12_reads_22 rfl ?_
      refine n_zald (j := 18) dX12_reads_24 (by decide) rfl rfl (show _ < 14 by omega) (c1 k (by omega)) ?_
      cases wc : C k with
      | true =>
        have hki : k ≠ i := hCk.resolve_left (by rw [wc]; decide)
        rw [wc, if_pos rfl] at go
        refine n_if_eq (tgt := 54) dX12_reads_25 (by decide) (fun q => absurd q ((by decide))) (fun _ => ?_)
        refine n_iload dX12_reads_28 rfl ?_
        refine n_iload_n dX12_reads_30 rfl ?_
        refine n_icmp_eq (tgt := 54) dX12_reads_31 (by decide) (fun q => absurd q ((fun w => hki ((nI_eq (by omega) (by omega)).mp w)))) (fun _ => ?_)
        refine n_aload_n dX12_reads_34 rfl ?_
        refine n_get dX12_reads_35 fl_X12_87 rfl ?_
        refine n_iload dX12_reads_38 rfl ?_
        refine n_iconst (v := (nI 1)) dX12_reads_40 (by decide) ?_
        refine n_zast (j := 22) dX12_reads_41 (by decide) rfl rfl (show _ < 14 by omega) rfl ?_
        have kn2 : zKnw (zST S1 22 k (nI 1)) lim nt := fun n hn => (kn1 n hn).cg fun j q1 q2 => zST_n _ _ _ (by omega)
        refine n_iload dX12_reads_42 rfl ?_
        refine n_aload_n dX12_reads_44 rfl ?_
        refine n_iload dX12_reads_45 rfl ?_
        refine n_iload dX12_reads_47 rfl ?_
        refine n_call dX12_reads_49 cv_X12_206 (c_rowsOf (by omega) (kn2 k hkl) hz.2.2 hq) rfl rfl rfl ⟨(Nat.le_of_ble_eq_true rfl), (Nat.le_of_ble_eq_true rfl)⟩ rfl rfl (Nat.le_of_ble_eq_true rfl) (fun v S2 hq2 => ?_)
        obtain ⟨rfl, rfl⟩ := hq2
        refine n_iadd dX12_reads_52 ?_
        rw [nI_add]
        refine n_iret dX12_reads_53 rfl (go _ (fun n hn => ⟨?_, (zSTo (by decide)).trans (ht1 n hn).2.1, (zSTo (by decide)).trans (ht1 n hn).2.2⟩) a1 (fun a q1 q2 q3 => (zST_n _ _ _ q1).trans (b1 a q1 q2 q3)))
        by_cases e2 : n = k
        · subst e2; rw [zSTs]; simp [zor, zbi]; rfl
        · rw [zSTn e2, (ht1 n hn).1]; simp [zor, e2]
      | false =>
        rw [wc, if_neg (by decide)] at go
        refine n_if_eq (tgt := 54) dX12_reads_25 (by decide) (fun _ => ?_) (fun q => absurd (rfl) q)
        refine n_aload_n dX12_reads_54 rfl ?_
        refine n_get dX12_reads_55 fl_X12_84 rfl ?_
        refine n_iload dX12_reads_58 rfl ?_
        refine n_iconst (v := (nI 1)) dX12_reads_60 (by decide) ?_
        refine n_zast (j := 21) dX12_reads_61 (by decide) rfl rfl (show _ < 14 by omega) rfl ?_
        have ht2 : zmT (zST S1 21 k (nI 1)) (t1.1, t1.2.1, zor t1.2.2 k) := fun n hn => by
          refine ⟨(zSTo (by decide)).trans (ht1 n hn).1, (zSTo (by decide)).trans (ht1 n hn).2.1, ?_⟩
          by_cases e2 : n = k
          · subst e2; rw [zSTs]; simp [zor, zbi]; rfl
          · rw [zSTn e2, (ht1 n hn).2.2]; simp [zor, e2]
        have a2 : (zST S1 21 k (nI 1)).1 = S.1 := a1
        have b2 : ∀ a, a ≠ 22 → a ≠ 20 → a ≠ 21 → (zST S1 21 k (nI 1)).2 a = S.2 a := fun a q1 q2 q3 => (zST_n _ _ _ q3).trans (b1 a q1 q2 q3)
        have b3 : ∀ a, a ≠ 21 → (zST S1 21 k (nI 1)).2 a = S1.2 a := fun a q3 => zST_n _ _ _ q3
        generalize zST S1 21 k (nI 1) = S2 at ht2 a2 b2 b3
        have kn2 : zKnw S2 lim nt := fun n hn => (kn1 n hn).cg fun j q1 q2 => b3 j (by omega)
        have c2 : ∀ k, k < 14 → S2.2 18 k = zbi (C k) := fun k hk => by rw [b3 18 (by decide)]; exact c1 k hk
        rw [← b3 0 (by decide)] at x1
        rw [← b3 1 (by decide)] at x2
        rw [← b3 2 (by decide)] at x3
        rw [← b3 6 (by decide)] at x7'
        refine n_aload_n dX12_reads_62 rfl ?_
        refine n_get dX12_reads_63 fl_X12_7 rfl ?_
        refine n_iload dX12_reads_66 rfl ?_
        refine n_iald (j := 0) dX12_reads_68 (by decide) rfl rfl (show _ < 14 by omega) x1 ?_
        by_cases w0 : zkd nt k = 0
        · rw [if_pos w0] at go
          refine n_if_ne (tgt := 88) dX12_reads_69 (by decide) (fun q => absurd ((by rw [← ek, w0]; rfl)) q) (fun _ => ?_)
          refine n_iload dX12_reads_72 rfl ?_
          refine n_aload_n dX12_reads_74 rfl ?_
          refine n_iload dX12_reads_75 rfl ?_
          refine n_iload dX12_reads_77 rfl ?_
          refine n_call dX12_reads_79 cv_X12_206 (c_rowsOf (by omega) (kn2 k hkl) hz.2.2 hq) rfl rfl rfl ⟨(Nat.le_of_ble_eq_true rfl), (Nat.le_of_ble_eq_true rfl)⟩ rfl rfl (Nat.le_of_ble_eq_true rfl) (fun v S3 hq3 => ?_)
          obtain ⟨rfl, rfl⟩ := hq3
          refine n_iadd dX12_reads_82 ?_
          rw [nI_add]
          refine n_istore dX12_reads_83 (by decide) ?_
          refine n_goto (tgt := 338) dX12_reads_85 (by decide) ?_
          exact done _ _ _ _ _ (go _ ht2 a2 b2)
        · rw [if_neg w0] at go
          rw [ek] at w0
          have e1 : 1 ≤ e.2.1 := by omega
          obtain ⟨f1, f2⟩ := ff e1
          have o1 := (x2 e1).trans f2
          have hz1 := zct_le (lim := lim) hw h14 (show zf1 nt k < nt.length by omega)
          have inn : ∀ (q' sum' : Nat) (t2 : zT3) (S3 : zMS) (y6 y7 : Option Value) (n : Nat), n < k → q' < (zct lim nt n).length → zmT S3 t2 → S3.1 = S.1 → (∀ a, a ≠ 22 → a ≠ 20 → a ≠ 21 → S3.2 a = S.2 a) → (∀ S2 : zMS, zmT S2 (zread lim nt C d n q' t2).1 → S2.1 = S.1 → (∀ a, a ≠ 22 → a ≠ 20 → a ≠ 21 → S2.2 a = S.2 a) → Q (some (.int (nI (sum' + (zread lim nt C d n q' t2).2)))) S2) →
              zNW G kX12_reads m Q 338 [some (.ref m), some (.int (nI i)), some (.int (nI j)), some (.int (nI n)), some (.int (nI q')), some (.int (nI sum')), y6, y7] [] S3 := by
            intro q' sum' t2 S3 y6 y7 n hn hq' ht3 a3 b3 go2
            refine n_goto (tgt := 8) dX12_reads_338 (by decide) ?_
            exact ih n q' sum' t2 S3 y6 y7 (by omega) (by omega) hq' (Or.inr (by omega)) ht3 a3 b3 go2
          refine n_if_ne (tgt := 88) dX12_reads_69 (by decide) (fun _ => ?_) (fun q => absurd q ((fun w => w0 ((nI_eq (b := 0) (by omega) (by decide)).mp w))))
          refine n_aload_n dX12_reads_88 rfl ?_
          refine n_get dX12_reads_89 fl_X12_7 rfl ?_
          refine n_iload dX12_reads_92 rfl ?_
          refine n_iald (j := 0) dX12_reads_94 (by decide) rfl rfl (show _ < 14 by omega) x1 ?_
          refine n_iconst (v := (nI 3)) dX12_reads_95 (by decide) ?_
          by_cases w12 : e.2.1 = 1 ∨ e.2.1 = 2
          · rw [if_neg (by omega), if_neg (by omega), if_neg (by omega)] at go
            refine n_icmp_ge (tgt := 110) dX12_reads_96 (by decide) (fun q => absurd q ((nI_ge (show e.2.1 < 3 by omega) (by omega)))) (fun _ => ?_)
            refine n_aload_n dX12_reads_99 rfl ?_
            refine n_get dX12_reads_100 fl_X12_13 rfl ?_
            refine n_iload dX12_reads_103 rfl ?_
            refine n_iald (j := 1) dX12_reads_105 (by decide) rfl rfl (show _ < 14 by omega) o1 ?_
            refine n_istore_n dX12_reads_106 (by decide) ?_
            refine n_goto (tgt := 338) dX12_reads_107 (by decide) ?_
            exact inn q sum _ S2 _ _ (zf1 nt k) (by omega) (by rw [← len1 (by omega)]; exact hq) ht2 a2 b2 go
          · refine n_icmp_ge (tgt := 110) dX12_reads_96 (by decide) (fun _ => ?_) (fun q => absurd ((nI_le (show 3 ≤ e.2.1 by omega) (by omega))) q)
            refine n_aload_n dX12_reads_110 rfl ?_
            refine n_get dX12_reads_111 fl_X12_7 rfl ?_
            refine n_iload dX12_reads_114 rfl ?_
            refine n_iald (j := 0) dX12_reads_116 (by decide) rfl rfl (show _ < 14 by omega) x1 ?_
            refine n_iconst (v := (nI 3)) dX12_reads_117 (by decide) ?_
            by_cases w3 : e.2.1 = 3
            · rw [if_neg (by omega), if_neg (by omega)] at go
              obtain ⟨s1, s2⟩ := ss (Or.inl w3)
              have o2 := (x3 (Or.inl w3)).trans s2
              have hl3 := len3 w3
              have p1 : S2.2 12 (zf1 nt k) = nI (zct lim nt (zf1 nt k)).length := (kn2 _ (by omega)).1
              refine n_icmp_ne (tgt := 197) dX12_reads_118 (by decide) (fun q => absurd ((by rw [w3])) q) (fun _ => ?_)
              refine n_iload dX12_reads_121 rfl ?_
              refine n_aload_n dX12_reads_123 rfl ?_
              refine n_get dX12_reads_124 fl_X12_46 rfl ?_
              refine n_aload_n dX12_reads_127 rfl ?_
              refine n_get dX12_reads_128 fl_X12_13 rfl ?_
              refine n_iload dX12_reads_131 rfl ?_
              refine n_iald (j := 1) dX12_reads_133 (by decide) rfl rfl (show _ < 14 by omega) o1 ?_
              refine n_iald (j := 12) dX12_reads_134 (by decide) rfl rfl (show _ < 14 by omega) p1 ?_
              by_cases w4 : (zct lim nt (zf1 nt k)).length ≤ q
              · rw [if_pos ⟨by rw [ek]; exact w3, w4⟩] at go
                refine n_icmp_ge (tgt := 142) dX12_reads_135 (by decide) (fun _ => ?_) (fun q => absurd ((nI_le w4 (by omega))) q)
                refine n_iconst (v := (nI 0)) dX12_reads_142 (by decide) ?_
                refine n_istore dX12_reads_143 (by decide) ?_
                refine n_iload dX12_reads_145 rfl ?_
                refine n_if_eq (tgt := 160) dX12_reads_147 (by decide) (fun _ => ?_) (fun q => absurd (rfl) q)
                refine n_aload_n dX12_reads_160 rfl ?_
                refine n_get dX12_reads_161 fl_X12_16 rfl ?_
                refine n_iload dX12_reads_164 rfl ?_
                refine n_iald (j := 2) dX12_reads_166 (by decide) rfl rfl (show _ < 14 by omega) o2 ?_
                refine n_istore_n dX12_reads_167 (by decide) ?_
                refine n_iload dX12_reads_168 rfl ?_
                refine n_iload dX12_reads_170 rfl ?_
                refine n_if_eq (tgt := 179) dX12_reads_172 (by decide) (fun _ => ?_) (fun q => absurd (rfl) q)
                refine n_aload_n dX12_reads_179 rfl ?_
                refine n_get dX12_reads_180 fl_X12_46 rfl ?_
                refine n_aload_n dX12_reads_183 rfl ?_
                refine n_get dX12_reads_184 fl_X12_13 rfl ?_
                refine n_iload dX12_reads_187 rfl ?_
                refine n_iald (j := 1) dX12_reads_189 (by decide) rfl rfl (show _ < 14 by omega) o1 ?_
                refine n_iald (j := 12) dX12_reads_190 (by decide) rfl rfl (show _ < 14 by omega) p1 ?_
                refine n_isub dX12_reads_191 ?_
                rw [pk_sub w4]
                refine n_istore dX12_reads_192 (by decide) ?_
                refine n_goto (tgt := 338) dX12_reads_194 (by decide) ?_
                exact inn _ sum _ S2 _ _ (zf2 nt k) (by omega) (by omega) ht2 a2 b2 go
              · rw [if_neg (fun w => w4 w.2)] at go
                refine n_icmp_ge (tgt := 142) dX12_reads_135 (by decide) (fun q => absurd q ((nI_ge (by omega) (by omega)))) (fun _ => ?_)
                refine n_iconst (v := (nI 1)) dX12_reads_138 (by decide) ?_
                refine n_goto (tgt := 143) dX12_reads_139 (by decide) ?_
                refine n_istore dX12_reads_143 (by decide) ?_
                refine n_iload dX12_reads_145 rfl ?_
                refine n_if_eq (tgt := 160) dX12_reads_147 (by decide) (fun q => absurd q ((by decide))) (fun _ => ?_)
                refine n_aload_n dX12_reads_150 rfl ?_
                refine n_get dX12_reads_151 fl_X12_13 rfl ?_
                refine n_iload dX12_reads_154 rfl ?_
                refine n_iald (j := 1) dX12_reads_156 (by decide) rfl rfl (show _ < 14 by omega) o1 ?_
                refine n_goto (tgt := 167) dX12_reads_157 (by decide) ?_
                refine n_istore_n dX12_reads_167 (by decide) ?_
                refine n_iload dX12_reads_168 rfl ?_
                refine n_iload dX12_reads_170 rfl ?_
                refine n_if_eq (tgt := 179) dX12_reads_172 (by decide) (fun q => absurd q ((by decide))) (fun _ => ?_)
                refine n_iconst (v := (nI 0)) dX12_reads_175 (by decide) ?_
                refine n_goto (tgt := 191) dX12_reads_176 (by decide) ?_
                refine n_isub dX12_reads_191 ?_
                rw [pk_sub (Nat.zero_le _), Nat.sub_zero]
                refine n_istore dX12_reads_192 (by decide) ?_
                refine n_goto (tgt := 338) dX12_reads_194 (by decide) ?_
                exact inn q sum _ S2 _ _ (zf1 nt k) (by omega) (by omega) ht2 a2 b2 go
            · have td := pp (by omega)
              have o3 := (x7' (by omega)).trans td.2.2
              refine n_icmp_ne (tgt := 197) dX12_reads_118 (by decide) (fun _ => ?_) (fun q => absurd q ((fun w => w3 ((nI_eq (b := 3) (by omega) (by decide)).mp w))))
              refine n_aload_n dX12_reads_197 rfl ?_
              refine n_get dX12_reads_198 fl_X12_7 rfl ?_
              refine n_iload dX12_reads_201 rfl ?_
              refine n_iald (j := 0) dX12_reads_203 (by decide) rfl rfl (show _ < 14 by omega) x1 ?_
              refine n_iconst (v := (nI 5)) dX12_reads_204 (by decide) ?_
              have one : ∀ (S3 : zMS) (y3 : Option Value), zmT S3 (t1.1, t1.2.1, zor t1.2.2 k) → S3.1 = S.1 → (∀ a, a ≠ 22 → a ≠ 20 → a ≠ 21 → S3.2 a = S.2 a) → (∀ a, a ≠ 22 → a ≠ 20 → S3.2 a = S2.2 a) →
                  (∀ S4 : zMS, zmT S4 (zneed C (zf1 nt k) (t1.1, t1.2.1, zor t1.2.2 k)) → S4.1 = S.1 → (∀ a, a ≠ 22 → a ≠ 20 → a ≠ 21 → S4.2 a = S.2 a) → (∀ a, a ≠ 22 → a ≠ 20 → S4.2 a = S2.2 a) → zNW G kX12_reads m Q 291 [some (.ref m), some (.int (nI i)), some (.int (nI j)), some (.int (-1)), some (.int (nI q)), some (.int (nI (sum + zshr (zct lim nt (zf1 nt k)) (ztd nt k) q))), some (.int (nI k)), x7] [] S4) →
                  zNW G kX12_reads m Q 255 [some (.ref m), some (.int (nI i)), some (.int (nI j)), some (.int (-1)), some (.int (nI q)), some (.int (nI sum)), some (.int (nI k)), x7] [] S3 := by
                intro S3 y3 ht3 a3 b3 b4 go3
                have kn3 : zKnw S3 lim nt := fun n hn => (kn2 n hn).cg fun j q1 q2 => b4 j (by omega) (by omega)
                have o1' : S3.2 1 k = nI (zf1 nt k) := by rw [b4 1 (by decide) (by decide)]; exact o1
                have o3' : S3.2 6 k = nI (ztd nt k) := by rw [b4 6 (by decide) (by decide)]; exact o3
                refine n_iload dX12_reads_255 rfl ?_
                refine n_aload_n dX12_reads_257 rfl ?_
                refine n_aload_n dX12_reads_258 rfl ?_
                refine n_get dX12_reads_259 fl_X12_13 rfl ?_
                refine n_iload dX12_reads_262 rfl ?_
                refine n_iald (j := 1) dX12_reads_264 (by decide) rfl rfl (show _ < 14 by omega) o1' ?_
                refine n_iload dX12_reads_265 rfl ?_
                refine n_aload_n dX12_reads_267 rfl ?_
                refine n_get dX12_reads_268 fl_X12_28 rfl ?_
                refine n_iload dX12_reads_271 rfl ?_
                refine n_iald (j := 6) dX12_reads_273 (by decide) rfl rfl (show _ < 14 by omega) o3' ?_
                refine n_call dX12_reads_274 cv_X12_229 (c_shared (by omega) (kn3 _ (by omega)) hz1.2.2 hz1.1 td.1 (by omega)) rfl rfl rfl ⟨(Nat.le_of_ble_eq_true rfl), (Nat.le_of_ble_eq_true rfl)⟩ rfl rfl (Nat.le_of_ble_eq_true rfl) (fun v S4 hq4 => ?_)
                obtain ⟨rfl, hS⟩ := hq4
                subst hS
                refine n_iadd dX12_reads_277 ?_
                rw [nI_add]
                refine n_istore dX12_reads_278 (by decide) ?_
                refine n_aload_n dX12_reads_280 rfl ?_
                refine n_aload_n dX12_reads_281 rfl ?_
                refine n_get dX12_reads_282 fl_X12_13 rfl ?_
                refine n_iload dX12_reads_285 rfl ?_
                refine n_iald (j := 1) dX12_reads_287 (by decide) rfl rfl (show _ < 14 by omega) o1' ?_
                refine n_call dX12_reads_288 cv_X12_226 (c_needs (C := C) (by omega) (by rw [b4 18 (by decide) (by decide)]; exact c2 _ (by omega)) ht3) rfl rfl rfl ⟨(Nat.le_of_ble_eq_true rfl), (Nat.le_of_ble_eq_true rfl)⟩ rfl rfl (Nat.le_of_ble_eq_true rfl) (fun v S5 hq5 => ?_)
                obtain ⟨rfl, q1, q2, q3⟩ := hq5
                exact go3 S5 q1 (q2.trans a3) (fun a u1 u2 u3 => (q3 a u1 u2).trans (b3 a u1 u2 u3)) (fun a u1 u2 => (q3 a u1 u2).trans (b4 a u1 u2))
              by_cases w4 : e.2.1 = 4
              · rw [if_pos (by rw [ek]; exact w4)] at go
                refine n_icmp_ne (tgt := 255) dX12_reads_205 (by decide) (fun _ => ?_) (fun q => absurd q ((by rw [w4]; decide)))
                refine one S2 none ht2 a2 b2 (fun _ _ _ => rfl) fun S4 g1 g2 g3 g4 => ?_
                have x1' : S4.2 0 k = nI e.2.1 := by rw [g4 0 (by decide) (by decide)]; exact x1
                refine n_aload_n dX12_reads_291 rfl ?_
                refine n_get dX12_reads_292 fl_X12_7 rfl ?_
                refine n_iload dX12_reads_295 rfl ?_
                refine n_iald (j := 0) dX12_reads_297 (by decide) rfl rfl (show _ < 14 by omega) x1' ?_
                refine n_iconst (v := (nI 5)) dX12_reads_298 (by decide) ?_
                refine n_icmp_ne (tgt := 338) dX12_reads_299 (by decide) (fun _ => ?_) (fun q => absurd q ((by rw [w4]; decide)))
                exact done _ _ _ _ _ (go S4 g1 g2 g3)
              · have w5 : e.2.1 = 5 := by omega
                obtain ⟨s1, s2⟩ := ss (Or.inr w5)
                have o2 := (x3 (Or.inr w5)).trans s2
                have hz2 := zct_le (lim := lim) hw h14 (show zf2 nt k < nt.length by omega)
                have eb : zbr lim nt k = decide ((zct lim nt (zf2 nt k)).flatten.length ≤ lim) := by
                  unfold zbr
                  rw [ek, w5]
                  simp
                rw [if_neg (by omega), if_pos (by omega)] at go
                refine n_icmp_ne (tgt := 255) dX12_reads_205 (by decide) (fun q => absurd ((by rw [w5])) q) (fun _ => ?_)
                refine n_aload_n dX12_reads_208 rfl ?_
                refine n_iload dX12_reads_209 rfl ?_
                refine n_call dX12_reads_211 cv_X12_187 (c_isBroadly (lim := lim) (P := zct lim nt (zf2 nt k)) (by omega) (by omega) o2 (kn2 _ (by omega)) hz2.2.2 hz2.1 ((congrFun a2 2).trans hl) hlim) rfl rfl rfl ⟨(Nat.le_of_ble_eq_true rfl), (Nat.le_of_ble_eq_true rfl)⟩ rfl rfl (Nat.le_of_ble_eq_true rfl) (fun v S3 hq3 => ?_)
                obtain ⟨rfl, hS⟩ := hq3
                subst hS
                by_cases cb : (zct lim nt (zf2 nt k)).flatten.length ≤ lim
                · rw [zif_t cb]
                  have ebt : zbr lim nt k = true := by rw [eb]; exact decide_eq_true cb
                  rw [if_pos ebt] at go
                  have hl5 := len1 (Or.inr (Or.inr ebt))
                  refine n_if_eq (tgt := 255) dX12_reads_214 (by decide) (fun q => absurd q ((by decide))) (fun _ => ?_)
                  refine n_iload dX12_reads_217 rfl ?_
                  refine n_aload_n dX12_reads_219 rfl ?_
                  refine n_aload_n dX12_reads_220 rfl ?_
                  refine n_get dX12_reads_221 fl_X12_16 rfl ?_
                  refine n_iload dX12_reads_224 rfl ?_
                  refine n_iald (j := 2) dX12_reads_226 (by decide) rfl rfl (show _ < 14 by omega) o2 ?_
                  refine n_call dX12_reads_227 cv_X12_152 (c_all (by omega) (kn2 _ (by omega)) hz2.2.2) rfl rfl rfl ⟨(Nat.le_of_ble_eq_true rfl), (Nat.le_of_ble_eq_true rfl)⟩ rfl rfl (Nat.le_of_ble_eq_true rfl) (fun v S4 hq4 => ?_)
                  obtain ⟨rfl, hS⟩ := hq4
                  subst hS
                  refine n_iadd dX12_reads_230 ?_
                  rw [nI_add]
                  refine n_istore dX12_reads_231 (by decide) ?_
                  refine n_aload_n dX12_reads_233 rfl ?_
                  refine n_aload_n dX12_reads_234 rfl ?_
                  refine n_get dX12_reads_235 fl_X12_16 rfl ?_
                  refine n_iload dX12_reads_238 rfl ?_
                  refine n_iald (j := 2) dX12_reads_240 (by decide) rfl rfl (show _ < 14 by omega) o2 ?_
                  refine n_call dX12_reads_241 cv_X12_226 (c_needs (C := C) (by omega) (c2 _ (by omega)) ht2) rfl rfl rfl ⟨(Nat.le_of_ble_eq_true rfl), (Nat.le_of_ble_eq_true rfl)⟩ rfl rfl (Nat.le_of_ble_eq_true rfl) (fun v S5 hq5 => ?_)
                  obtain ⟨rfl, q1, q2, q3⟩ := hq5
                  have o1' : S5.2 1 k = nI (zf1 nt k) := by rw [q3 1 (by decide) (by decide)]; exact o1
                  refine n_aload_n dX12_reads_244 rfl ?_
                  refine n_get dX12_reads_245 fl_X12_13 rfl ?_
                  refine n_iload dX12_reads_248 rfl ?_
                  refine n_iald (j := 1) dX12_reads_250 (by decide) rfl rfl (show _ < 14 by omega) o1' ?_
                  refine n_istore_n dX12_reads_251 (by decide) ?_
                  refine n_goto (tgt := 338) dX12_reads_252 (by decide) ?_
                  refine inn q _ _ S5 _ _ (zf1 nt k) (by omega) (by rw [← hl5]; exact hq) q1 (q2.trans a2) (fun a u1 u2 u3 => (q3 a u1 u2).trans (b2 a u1 u2 u3)) fun S6 r1 r2 r3 => ?_
                  have := go S6 r1 r2 r3
                  rw [← Nat.add_assoc] at this
                  exact this
                · rw [zif_f cb]
                  have ebt : ¬ zbr lim nt k = true := by rw [eb]; simpa using cb
                  rw [if_neg ebt] at go
                  refine n_if_eq (tgt := 255) dX12_reads_214 (by decide) (fun _ => ?_) (fun q => absurd (rfl) q)
                  refine one _ none ht2 a2 b2 (fun _ _ _ => rfl) fun S4 g1 g2 g3 g4 => ?_
                  have x1' : S4.2 0 k = nI e.2.1 := by rw [g4 0 (by decide) (by decide)]; exact x1
                  have o2' : S4.2 2 k = nI (zf2 nt k) := by rw [g4 2 (by decide) (by decide)]; exact o2
                  have o3' : S4.2 6 k = nI (ztd nt k) := by rw [g4 6 (by decide) (by decide)]; exact o3
                  have kn4 : zKnw S4 lim nt := fun n hn => (kn2 n hn).cg fun j q1 q2 => g4 j (by omega) (by omega)
                  refine n_aload_n dX12_reads_291 rfl ?_
                  refine n_get dX12_reads_292 fl_X12_7 rfl ?_
                  refine n_iload dX12_reads_295 rfl ?_
                  refine n_iald (j := 0) dX12_reads_297 (by decide) rfl rfl (show _ < 14 by omega) x1' ?_
                  refine n_iconst (v := (nI 5)) dX12_reads_298 (by decide) ?_
                  refine n_icmp_ne (tgt := 338) dX12_reads_299 (by decide) (fun q => absurd ((by rw [w5])) q) (fun _ => ?_)
                  refine n_iload dX12_reads_302 rfl ?_
                  refine n_aload_n dX12_reads_304 rfl ?_
                  refine n_aload_n dX12_reads_305 rfl ?_
                  refine n_get dX12_reads_306 fl_X12_16 rfl ?_
                  refine n_iload dX12_reads_309 rfl ?_
                  refine n_iald (j := 2) dX12_reads_311 (by decide) rfl rfl (show _ < 14 by omega) o2' ?_
                  refine n_iload dX12_reads_312 rfl ?_
                  refine n_aload_n dX12_reads_314 rfl ?_
                  refine n_get dX12_reads_315 fl_X12_28 rfl ?_
                  refine n_iload dX12_reads_318 rfl ?_
                  refine n_iald (j := 6) dX12_reads_320 (by decide) rfl rfl (show _ < 14 by omega) o3' ?_
                  refine n_call dX12_reads_321 cv_X12_229 (c_shared (by omega) (kn4 _ (by omega)) hz2.2.2 hz2.1 td.1 (by omega)) rfl rfl rfl ⟨(Nat.le_of_ble_eq_true rfl), (Nat.le_of_ble_eq_true rfl)⟩ rfl rfl (Nat.le_of_ble_eq_true rfl) (fun v S5 hq5 => ?_)
                  obtain ⟨rfl, hS⟩ := hq5
                  subst hS
                  refine n_iadd dX12_reads_324 ?_
                  rw [nI_add]
                  refine n_istore dX12_reads_325 (by decide) ?_
                  refine n_aload_n dX12_reads_327 rfl ?_
                  refine n_aload_n dX12_reads_328 rfl ?_
                  refine n_get dX12_reads_329 fl_X12_16 rfl ?_
                  refine n_iload dX12_reads_332 rfl ?_
                  refine n_iald (j := 2) dX12_reads_334 (by decide) rfl rfl (show _ < 14 by omega) o2' ?_
                  refine n_call dX12_reads_335 cv_X12_226 (c_needs (C := C) (by omega) (by rw [g4 18 (by decide) (by decide)]; exact c2 _ (by omega)) g1) rfl rfl rfl ⟨(Nat.le_of_ble_eq_true rfl), (Nat.le_of_ble_eq_true rfl)⟩ rfl rfl (Nat.le_of_ble_eq_true rfl) (fun v S6 hq6 => ?_)
                  obtain ⟨rfl, q1, q2, q3⟩ := hq6
                  refine done _ _ _ _ _ ?_
                  have := go S6 q1 (q2.trans g2) fun a u1 u2 u3 => (q3 a u1 u2).trans (g3 a u1 u2 u3)
                  rw [← Nat.add_assoc] at this
                  exact this
  refine n_iload_n dX12_reads_0 rfl ?_
  refine n_istore_n dX12_reads_1 (by decide) ?_
  refine n_iload_n dX12_reads_2 rfl ?_
  refine n_istore dX12_reads_3 (by decide) ?_
  refine n_iconst (v := (nI 0)) dX12_reads_5 (by decide) ?_
  refine n_istore dX12_reads_6 (by decide) ?_
  refine loop 14 i j 0 t S none none (by omega) (Nat.le_refl _) hj (Or.inl hCi) ht rfl (fun _ _ _ _ => rfl) fun S2 g1 g2 g3 => hQ _ _ ⟨by rw [Nat.zero_add], g1, g2, g3⟩
end
