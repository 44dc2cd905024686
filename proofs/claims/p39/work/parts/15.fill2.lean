/-! Holding: sources, unions, groups, joins by keys -/
set_option maxRecDepth 100000 in
/-- append: the rows of one behind those of another; ip: in one place -/
theorem c_X3_append {G : zG} {σ : zH} {nx h r1 r3 m1 m3 : Nat} {v0 v2 v3 : Value} {ip : Bool} {P : List zP2} {R : zP2} {E : List Nat} (hh : σ h = some (.inr (4, [v0, .int (if ip then 1 else 0), v2, v3]))) (h1 : zHas G σ r1 m1 P) (h3 : zRows G σ r3 m3 R E) (a13 : zAp r1 r3) (ah : h < r3 ∨ r3 + 7 ≤ h) (hb : R.length + P.flatten.length ≤ m3) (hE : E.length + P.length ≤ 8) : zM G yX3_append kX3_append [.ref h, .ref r1, .ref r3] σ nx (fun v σ' nx' => v = none ∧ zRows G σ' r3 m3 (R ++ P.flatten) (if ip then E else E ++ zcum R.length P) ∧ zFr σ σ' r3 7 ∧ nx' = nx) := by
  refine zM.of2 (ls := [some (.ref h), some (.ref r1), some (.ref r3), none, none]) (by decide +kernel) ⟨rfl, rfl, rfl⟩ (Nat.le_of_ble_eq_true rfl) (fun _ h => h) (fun Q hQ => ?_)
  have hl := h1.len
  have inner : ∀ (i : Nat) (p : zP2) (E1 : List Nat), P[i]? = some p → (∀ σ2 : zH, zFr σ σ2 r3 7 → zRows G σ2 r3 m3 (R ++ ((P.take i).flatten ++ p)) E1 → ∀ x1 : Option Value, zWP G kX3_append (zFM G kX3_append.2.2.2.1 Q) 49 [some (.ref h), some (.ref r1), some (.ref r3), some (.int (nI i)), x1] [] σ2 nx 0 0) →
      ∀ d j : Nat, j + d = p.length → ∀ σ1 : zH, zFr σ σ1 r3 7 → zRows G σ1 r3 m3 (R ++ ((P.take i).flatten ++ p.take j)) E1 → zWP G kX3_append (zFM G kX3_append.2.2.2.1 Q) 17 [some (.ref h), some (.ref r1), some (.ref r3), some (.int (nI i)), some (.int (nI ((P.take i).flatten.length + j)))] [] σ1 nx 0 0 := by
    intro i p E1 hp kk d
    have hip := zR_lt hp
    have hend := zcum_at hp
    have hcl : (P.take i).flatten.length + p.length ≤ P.flatten.length := by
      have := congrArg List.length (congrArg List.flatten (zpre_flat hp))
      rw [List.flatten_append, List.flatten_cons, List.length_append, List.length_append] at this
      omega
    induction d with
    | zero =>
      intro j hj σ1 f1 t1
      have g1 : zHas G σ1 r1 m1 P := h1.ap f1 a13
      refine z_iload dX3_append_17 rfl ?_
      refine z_aload_n dX3_append_19 rfl ?_
      refine z_iload_n dX3_append_20 rfl ?_
      refine z_callV dX3_append_21 cv_X3_167 (c_X9_end g1 hend) rfl g1.c rfl rfl ⟨(Nat.le_of_ble_eq_true rfl), (Nat.le_of_ble_eq_true rfl)⟩ (Nat.le_of_ble_eq_true rfl) (Nat.le_of_ble_eq_true rfl) (Nat.le_of_ble_eq_true rfl) (fun v σ2 nx2 hx2 hq2 => ?_)
      obtain ⟨rfl, rfl, rfl⟩ := hq2
      refine z_icmp_ge (tgt := 49) dX3_append_24 (by decide) (fun _ => ?_) (fun q => absurd (nI_le (by omega) (by omega)) q)
      rw [show p.take j = p from List.take_of_length_le (by omega)] at t1
      exact kk σ2 f1 t1 _
    | succ d ih =>
      intro j hj σ1 f1 t1
      have g1 : zHas G σ1 r1 m1 P := h1.ap f1 a13
      have hq : p[j]? = some (p[j]'(by omega)) := List.getElem?_eq_getElem _
      generalize p[j]'(by omega) = z at hq
      have hg := zflat_at hp hq
      refine z_iload dX3_append_17 rfl ?_
      refine z_aload_n dX3_append_19 rfl ?_
      refine z_iload_n dX3_append_20 rfl ?_
      refine z_callV dX3_append_21 cv_X3_167 (c_X9_end g1 hend) rfl g1.c rfl rfl ⟨(Nat.le_of_ble_eq_true rfl), (Nat.le_of_ble_eq_true rfl)⟩ (Nat.le_of_ble_eq_true rfl) (Nat.le_of_ble_eq_true rfl) (Nat.le_of_ble_eq_true rfl) (fun v σ2 nx2 hx2 hq2 => ?_)
      obtain ⟨rfl, rfl, rfl⟩ := hq2
      refine z_icmp_ge (tgt := 49) dX3_append_24 (by decide) (fun q => absurd q (nI_ge (show (P.take i).flatten.length + j < (P.take i).flatten.length + p.length by omega) (by omega))) (fun _ => ?_)
      refine z_aload_n dX3_append_27 rfl ?_
      refine z_aload_n dX3_append_28 rfl ?_
      refine z_iload dX3_append_29 rfl ?_
      refine z_callV dX3_append_31 cv_X3_147 (c_X9_key g1 hg) rfl g1.c rfl rfl ⟨(Nat.le_of_ble_eq_true rfl), (Nat.le_of_ble_eq_true rfl)⟩ (Nat.le_of_ble_eq_true rfl) (Nat.le_of_ble_eq_true rfl) (Nat.le_of_ble_eq_true rfl) (fun v σ3 nx3 hx3 hq3 => ?_)
      obtain ⟨rfl, rfl, rfl⟩ := hq3
      refine z_aload_n dX3_append_34 rfl ?_
      refine z_iload dX3_append_35 rfl ?_
      refine z_callV dX3_append_37 cv_X3_151 (c_X9_value g1 hg) rfl g1.c rfl rfl ⟨(Nat.le_of_ble_eq_true rfl), (Nat.le_of_ble_eq_true rfl)⟩ (Nat.le_of_ble_eq_true rfl) (Nat.le_of_ble_eq_true rfl) (Nat.le_of_ble_eq_true rfl) (fun v σ3 nx3 hx3 hq3 => ?_)
      obtain ⟨rfl, rfl, rfl⟩ := hq3
      refine z_callV dX3_append_40 cv_X3_154 (c_X9_add t1 (by rw [List.length_append, List.length_append, List.length_take]; omega)) rfl t1.c rfl rfl ⟨(Nat.le_of_ble_eq_true rfl), (Nat.le_of_ble_eq_true rfl)⟩ (Nat.le_of_ble_eq_true rfl) (Nat.le_of_ble_eq_true rfl) (Nat.le_of_ble_eq_true rfl) (fun v σ3 nx3 hx3 hq3 => ?_)
      obtain ⟨rfl, t3, f3, rfl⟩ := hq3
      refine z_inc1 dX3_append_43 rfl (by decide) ?_
      refine z_goto (tgt := 17) dX3_append_46 (by decide) ?_
      rw [nI_1, Nat.add_assoc]
      exact ih (j + 1) (by omega) σ3 (f1.tr f3) (by rw [ztake hq]; simpa using t3)
  have outer : ∀ d i : Nat, i + d = P.length → ∀ σ1 : zH, zFr σ σ1 r3 7 → zRows G σ1 r3 m3 (R ++ (P.take i).flatten) (if ip then E else E ++ zcum R.length (P.take i)) → ∀ x1 : Option Value, zWP G kX3_append (zFM G kX3_append.2.2.2.1 Q) 2 [some (.ref h), some (.ref r1), some (.ref r3), some (.int (nI i)), x1] [] σ1 nx 0 0 := by
    intro d
    induction d with
    | zero =>
      intro i hi σ1 f1 t1 x1
      have g1 : zHas G σ1 r1 m1 P := h1.ap f1 a13
      refine z_iload_n dX3_append_2 rfl ?_
      refine z_aload_n dX3_append_3 rfl ?_
      refine z_callV dX3_append_4 cv_X3_161 (c_X9_parts g1) rfl g1.c rfl rfl ⟨(Nat.le_of_ble_eq_true rfl), (Nat.le_of_ble_eq_true rfl)⟩ (Nat.le_of_ble_eq_true rfl) (Nat.le_of_ble_eq_true rfl) (Nat.le_of_ble_eq_true rfl) (fun v σ2 nx2 hx2 hq2 => ?_)
      obtain ⟨rfl, rfl, rfl⟩ := hq2
      rw [zcum_len]
      refine z_icmp_ge (tgt := 66) dX3_append_7 (by decide) (fun _ => ?_) (fun q => absurd (nI_le (by omega) (by omega)) q)
      rw [show P.take i = P from List.take_of_length_le (by omega)] at t1
      exact z_vret dX3_append_66 rfl (Nat.le_of_ble_eq_true rfl) (Nat.le_of_ble_eq_true rfl) (hQ _ _ _ ⟨rfl, t1, f1, rfl⟩)
    | succ d ih =>
      intro i hi σ1 f1 t1 x1
      have g1 : zHas G σ1 r1 m1 P := h1.ap f1 a13
      have hp : P[i]? = some (P[i]'(by omega)) := List.getElem?_eq_getElem _
      generalize P[i]'(by omega) = p at hp
      refine z_iload_n dX3_append_2 rfl ?_
      refine z_aload_n dX3_append_3 rfl ?_
      refine z_callV dX3_append_4 cv_X3_161 (c_X9_parts g1) rfl g1.c rfl rfl ⟨(Nat.le_of_ble_eq_true rfl), (Nat.le_of_ble_eq_true rfl)⟩ (Nat.le_of_ble_eq_true rfl) (Nat.le_of_ble_eq_true rfl) (Nat.le_of_ble_eq_true rfl) (fun v σ2 nx2 hx2 hq2 => ?_)
      obtain ⟨rfl, rfl, rfl⟩ := hq2
      rw [zcum_len]
      refine z_icmp_ge (tgt := 66) dX3_append_7 (by decide) (fun q => absurd q (nI_ge (show i < P.length by omega) (by omega))) (fun _ => ?_)
      refine z_aload_n dX3_append_10 rfl ?_
      refine z_iload_n dX3_append_11 rfl ?_
      refine z_callV dX3_append_12 cv_X3_164 (c_X9_begin (j := i) g1 (by rw [zcum_len]; omega)) rfl g1.c rfl rfl ⟨(Nat.le_of_ble_eq_true rfl), (Nat.le_of_ble_eq_true rfl)⟩ (Nat.le_of_ble_eq_true rfl) (Nat.le_of_ble_eq_true rfl) (Nat.le_of_ble_eq_true rfl) (fun v σ2 nx2 hx2 hq2 => ?_)
      obtain ⟨rfl, rfl, rfl⟩ := hq2
      rw [zbeg_at (by omega)]
      refine z_istore dX3_append_15 (by decide) ?_
      refine inner i p _ hp (fun σ3 f3 t3 y1 => ?_) p.length 0 (by omega) σ2 f1 (by rw [List.take_zero, List.append_nil]; exact t1)
      have gh : σ3 h = some (.inr (4, [v0, .int (if ip then 1 else 0), v2, v3])) := (f3 h (by omega)).trans hh
      have ef : (P.take i).flatten ++ p = (P.take (i + 1)).flatten := by rw [ztake hp, List.flatten_append]; simp
      rw [ef] at t3
      refine z_aload_n dX3_append_49 rfl ?_
      refine z_getf dX3_append_50 fl_X3_24 gh rfl ?_
      cases ip with
      | true =>
        refine z_if_ne (tgt := 60) dX3_append_53 (by decide) (fun _ => ?_) (fun q => absurd q ((show ¬ (if true = true then (1 : Int32) else 0) = 0 from by decide)))
        refine z_inc1 dX3_append_60 rfl (by decide) ?_
        refine z_goto (tgt := 2) dX3_append_63 (by decide) ?_
        rw [nI_1]
        exact ih (i + 1) (by omega) σ3 f3 t3 _
      | false =>
        refine z_if_ne (tgt := 60) dX3_append_53 (by decide) (fun q => absurd ((by decide)) q) (fun _ => ?_)
        refine z_aload_n dX3_append_56 rfl ?_
        have e8 : (E ++ zcum R.length (P.take i)).length < 8 := by rw [List.length_append, zcum_len, List.length_take]; omega
        refine z_callV dX3_append_57 cv_X3_158 (c_X9_endPartition t3 e8) rfl t3.c rfl rfl ⟨(Nat.le_of_ble_eq_true rfl), (Nat.le_of_ble_eq_true rfl)⟩ (Nat.le_of_ble_eq_true rfl) (Nat.le_of_ble_eq_true rfl) (Nat.le_of_ble_eq_true rfl) (fun v σ4 nx4 hx4 hq4 => ?_)
        obtain ⟨rfl, t4, f4, rfl⟩ := hq4
        refine z_inc1 dX3_append_60 rfl (by decide) ?_
        refine z_goto (tgt := 2) dX3_append_63 (by decide) ?_
        rw [nI_1]
        refine ih (i + 1) (by omega) σ4 (f3.tr f4) ?_ _
        have ec : E ++ zcum R.length (P.take i) ++ [(R ++ (P.take (i + 1)).flatten).length] = E ++ zcum R.length (P.take (i + 1)) := by
          rw [List.append_assoc]
          congr 1
          rw [ztake hp, zcum_snoc, List.length_append, List.flatten_append, List.length_append]
          simp [Nat.add_assoc]
        rw [← ec]
        exact t4
  refine z_iconst (v := 0) dX3_append_0 (by decide) ?_
  refine z_istore_n dX3_append_1 (by decide) ?_
  exact outer P.length 0 (by omega) σ zFr.rf (by rw [List.take_zero]; cases ip <;> simpa [zcum] using h3) none
/-- what a union holds -/
def zuni (ip : Bool) (P S : List zP2) : List zP2 := if ip then [P.flatten ++ S.flatten] else P ++ S
set_option maxRecDepth 100000 in
theorem c_X3_unite {G : zG} {σ : zH} {nx h r1 r2 r3 m1 m2 m3 : Nat} {v0 v2 v3 : Value} {ip : Bool} {P S : List zP2} (hh : σ h = some (.inr (4, [v0, .int (if ip then 1 else 0), v2, v3]))) (h1 : zHas G σ r1 m1 P) (h2 : zHas G σ r2 m2 S) (h3 : zRows G σ r3 m3 [] []) (a13 : zAp r1 r3) (a23 : zAp r2 r3) (ah : h < r3 ∨ r3 + 7 ≤ h) (hb : P.flatten.length + S.flatten.length ≤ m3) (hE : P.length + S.length ≤ 8) : zM G yX3_unite kX3_unite [.ref h, .ref r1, .ref r2, .ref r3] σ nx (fun v σ' nx' => v = none ∧ zHas G σ' r3 m3 (zuni ip P S) ∧ zFr σ σ' r3 7 ∧ nx' = nx) := by
  refine zM.of (ls := [some (.ref h), some (.ref r1), some (.ref r2), some (.ref r3)]) (by decide +kernel) ⟨rfl, rfl, rfl⟩ (Nat.le_of_ble_eq_true rfl) (fun _ h => h) ?_
  refine z_aload_n dX3_unite_0 rfl ?_
  refine z_aload_n dX3_unite_1 rfl ?_
  refine z_aload_n dX3_unite_2 rfl ?_
  refine z_callV dX3_unite_3 cv_X3_182 (c_X3_append hh h1 h3 a13 ah (by simpa using (show P.flatten.length ≤ m3 by omega)) (by simp; omega)) rfl hh rfl rfl ⟨(Nat.le_of_ble_eq_true rfl), (Nat.le_of_ble_eq_true rfl)⟩ (Nat.le_of_ble_eq_true rfl) (Nat.le_of_ble_eq_true rfl) (Nat.le_of_ble_eq_true rfl) (fun v σ1 nx1 hx1 hq1 => ?_)
  obtain ⟨rfl, t1, f1, rfl⟩ := hq1
  have gh : σ1 h = some (.inr (4, [v0, .int (if ip then 1 else 0), v2, v3])) := (f1 h (by omega)).trans hh
  have g2 : zHas G σ1 r2 m2 S := h2.ap f1 a23
  refine z_aload_n dX3_unite_6 rfl ?_
  refine z_aload_n dX3_unite_7 rfl ?_
  refine z_aload_n dX3_unite_8 rfl ?_
  refine z_callV dX3_unite_9 cv_X3_182 (c_X3_append gh g2 t1 a23 ah (by simpa using hb) (by cases ip <;> simp [zcum_len] <;> omega)) rfl gh rfl rfl ⟨(Nat.le_of_ble_eq_true rfl), (Nat.le_of_ble_eq_true rfl)⟩ (Nat.le_of_ble_eq_true rfl) (Nat.le_of_ble_eq_true rfl) (Nat.le_of_ble_eq_true rfl) (fun v σ2 nx2 hx2 hq2 => ?_)
  obtain ⟨rfl, t2, f2, rfl⟩ := hq2
  have gk : σ2 h = some (.inr (4, [v0, .int (if ip then 1 else 0), v2, v3])) := (f2 h (by omega)).trans gh
  refine z_aload_n dX3_unite_12 rfl ?_
  refine z_getf dX3_unite_13 fl_X3_24 gk rfl ?_
  cases ip with
  | true =>
    refine z_if_eq (tgt := 23) dX3_unite_16 (by decide) (fun q => absurd q ((by decide))) (fun _ => ?_)
    refine z_aload_n dX3_unite_19 rfl ?_
    refine z_callV dX3_unite_20 cv_X3_158 (c_X9_endPartition t2 (by simp)) rfl t2.c rfl rfl ⟨(Nat.le_of_ble_eq_true rfl), (Nat.le_of_ble_eq_true rfl)⟩ (Nat.le_of_ble_eq_true rfl) (Nat.le_of_ble_eq_true rfl) (Nat.le_of_ble_eq_true rfl) (fun v σ3 nx3 hx3 hq3 => ?_)
    obtain ⟨rfl, t3, f3, rfl⟩ := hq3
    exact z_vret dX3_unite_23 rfl (Nat.le_of_ble_eq_true rfl) (Nat.le_of_ble_eq_true rfl) ⟨rfl, by simpa [zHas, zuni, zcum] using t3, (f1.tr f2).tr f3, rfl⟩
  | false =>
    refine z_if_eq (tgt := 23) dX3_unite_16 (by decide) (fun _ => ?_) (fun q => absurd ((by decide)) q)
    exact z_vret dX3_unite_23 rfl (Nat.le_of_ble_eq_true rfl) (Nat.le_of_ble_eq_true rfl) ⟨rfl, by simpa [zHas, zuni, zcum_app] using t2, f1.tr f2, rfl⟩
set_option maxRecDepth 100000 in
/-- deal: a source's rows -/
theorem c_X3_deal {G : zG} {σ : zH} {nx h r1 r3 p m3 : Nat} {R : zP2} (h1 : zRows G σ r1 12 R []) (h3 : zRows G σ r3 m3 [] []) (a13 : zAp r1 r3) (hp0 : 0 < p) (hp8 : p ≤ 8) (hcap : (zdeal R p).flatten.length ≤ m3) : zM G yX3_deal kX3_deal [.ref h, .ref r1, .int (nI p), .ref r3] σ nx (fun v σ' nx' => v = none ∧ zHas G σ' r3 m3 (zdeal R p) ∧ zFr σ σ' r3 7 ∧ nx' = nx) := by
  refine zM.of2 (ls := [some (.ref h), some (.ref r1), some (.int (nI p)), some (.ref r3), none, none]) (by decide +kernel) ⟨rfl, rfl, rfl⟩ (Nat.le_of_ble_eq_true rfl) (fun _ h => h) (fun Q hQ => ?_)
  have hR : R.length ≤ 12 := by obtain ⟨_, _, _, _, _, _, _, _, _, h7, _⟩ := h1; exact h7
  obtain ⟨f, hf⟩ : ∃ f : Nat → zP2, f = fun i => zpk (fun k => k % p == i) 0 R := ⟨_, rfl⟩
  have hfe : ∀ i, f i = zpk (fun k => k % p == i) 0 R := fun i => by rw [hf]
  rw [zdeal, ← hf] at hcap
  have hd0 : (0 : Int32) < nI p := by have := nI_lt hp0 (show p < 2 ^ 31 by omega); rwa [nI_0] at this
  have inner : ∀ (i : Nat) (E1 : List Nat), i < p → (∀ σ2 : zH, zFr σ σ2 r3 7 → zRows G σ2 r3 m3 ((zrng i f).flatten ++ f i) E1 → ∀ x1 : Option Value, zWP G kX3_deal (zFM G kX3_deal.2.2.2.1 Q) 54 [some (.ref h), some (.ref r1), some (.int (nI p)), some (.ref r3), some (.int (nI i)), x1] [] σ2 nx 0 0) →
      ∀ d j : Nat, j + d = R.length → ∀ σ1 : zH, zFr σ σ1 r3 7 → zRows G σ1 r3 m3 ((zrng i f).flatten ++ zpk (fun k => k % p == i) 0 (R.take j)) E1 → zWP G kX3_deal (zFM G kX3_deal.2.2.2.1 Q) 12 [some (.ref h), some (.ref r1), some (.int (nI p)), some (.ref r3), some (.int (nI i)), some (.int (nI j))] [] σ1 nx 0 0 := by
    intro i E1 hi kk d
    have htt := zrng_fl (f := f) hi
    induction d with
    | zero =>
      intro j hj σ1 f1 t1
      have g1 : zRows G σ1 r1 12 R [] := h1.ap f1 a13
      refine z_iload dX3_deal_12 rfl ?_
      refine z_aload_n dX3_deal_14 rfl ?_
      refine z_callV dX3_deal_15 cv_X3_77 (c_X9_size g1) rfl g1.c rfl rfl ⟨(Nat.le_of_ble_eq_true rfl), (Nat.le_of_ble_eq_true rfl)⟩ (Nat.le_of_ble_eq_true rfl) (Nat.le_of_ble_eq_true rfl) (Nat.le_of_ble_eq_true rfl) (fun v σ2 nx2 hx2 hq2 => ?_)
      obtain ⟨rfl, rfl, rfl⟩ := hq2
      refine z_icmp_ge (tgt := 54) dX3_deal_18 (by decide) (fun _ => ?_) (fun q => absurd (nI_le (by omega) (by omega)) q)
      rw [show R.take j = R from List.take_of_length_le (by omega), ← hfe] at t1
      exact kk σ2 f1 t1 _
    | succ d ih =>
      intro j hj σ1 f1 t1
      have g1 : zRows G σ1 r1 12 R [] := h1.ap f1 a13
      have hq : R[j]? = some (R[j]'(by omega)) := List.getElem?_eq_getElem _
      generalize R[j]'(by omega) = z at hq
      have e := zpk_snoc (fun k => k % p == i) (R.take j) z 0
      rw [← ztake hq, Nat.zero_add, List.length_take, Nat.min_eq_left (by omega)] at e
      have hml := Nat.mod_lt j hp0
      refine z_iload dX3_deal_12 rfl ?_
      refine z_aload_n dX3_deal_14 rfl ?_
      refine z_callV dX3_deal_15 cv_X3_77 (c_X9_size g1) rfl g1.c rfl rfl ⟨(Nat.le_of_ble_eq_true rfl), (Nat.le_of_ble_eq_true rfl)⟩ (Nat.le_of_ble_eq_true rfl) (Nat.le_of_ble_eq_true rfl) (Nat.le_of_ble_eq_true rfl) (fun v σ2 nx2 hx2 hq2 => ?_)
      obtain ⟨rfl, rfl, rfl⟩ := hq2
      refine z_icmp_ge (tgt := 54) dX3_deal_18 (by decide) (fun q => absurd q (nI_ge (show j < R.length by omega) (by omega))) (fun _ => ?_)
      refine z_iload dX3_deal_21 rfl ?_
      refine z_iload_n dX3_deal_23 rfl ?_
      refine z_callS dX3_deal_24 cv_X3_144 (c_X11_modulo hd0) rfl rfl ⟨(Nat.le_of_ble_eq_true rfl), (Nat.le_of_ble_eq_true rfl)⟩ (Nat.le_of_ble_eq_true rfl) (Nat.le_of_ble_eq_true rfl) (Nat.le_of_ble_eq_true rfl) (fun v σ2 nx2 hx2 hq2 => ?_)
      obtain ⟨rfl, rfl, rfl⟩ := hq2
      rw [zmd_small (by omega) hp0 (by omega)]
      refine z_iload dX3_deal_27 rfl ?_
      refine z_icmp_ne (tgt := 48) dX3_deal_29 (by decide) (fun h29 => ?_) (fun h29 => ?_)
      · have hne : ¬ (j % p == i) = true := by simp only [beq_iff_eq]; exact fun q => h29 (by rw [q])
        rw [if_neg hne, List.append_nil] at e
        refine z_inc1 dX3_deal_48 rfl (by decide) ?_
        refine z_goto (tgt := 12) dX3_deal_51 (by decide) ?_
        rw [nI_1]
        exact ih (j + 1) (by omega) σ2 f1 (by rw [e]; exact t1)
      · have heq : (j % p == i) = true := by simp only [beq_iff_eq]; exact (nI_eq (by omega) (by omega)).mp h29
        rw [if_pos heq] at e
        have h5 := zpk_take (fun k => k % p == i) R 0 (j + 1)
        rw [e, ← hfe, List.length_append] at h5
        simp only [List.length_cons, List.length_nil] at h5
        refine z_aload_n dX3_deal_32 rfl ?_
        refine z_aload_n dX3_deal_33 rfl ?_
        refine z_iload dX3_deal_34 rfl ?_
        refine z_callV dX3_deal_36 cv_X3_147 (c_X9_key g1 hq) rfl g1.c rfl rfl ⟨(Nat.le_of_ble_eq_true rfl), (Nat.le_of_ble_eq_true rfl)⟩ (Nat.le_of_ble_eq_true rfl) (Nat.le_of_ble_eq_true rfl) (Nat.le_of_ble_eq_true rfl) (fun v σ3 nx3 hx3 hq3 => ?_)
        obtain ⟨rfl, rfl, rfl⟩ := hq3
        refine z_aload_n dX3_deal_39 rfl ?_
        refine z_iload dX3_deal_40 rfl ?_
        refine z_callV dX3_deal_42 cv_X3_151 (c_X9_value g1 hq) rfl g1.c rfl rfl ⟨(Nat.le_of_ble_eq_true rfl), (Nat.le_of_ble_eq_true rfl)⟩ (Nat.le_of_ble_eq_true rfl) (Nat.le_of_ble_eq_true rfl) (Nat.le_of_ble_eq_true rfl) (fun v σ3 nx3 hx3 hq3 => ?_)
        obtain ⟨rfl, rfl, rfl⟩ := hq3
        refine z_callV dX3_deal_45 cv_X3_154 (c_X9_add t1 (by rw [List.length_append]; omega)) rfl t1.c rfl rfl ⟨(Nat.le_of_ble_eq_true rfl), (Nat.le_of_ble_eq_true rfl)⟩ (Nat.le_of_ble_eq_true rfl) (Nat.le_of_ble_eq_true rfl) (Nat.le_of_ble_eq_true rfl) (fun v σ3 nx3 hx3 hq3 => ?_)
        obtain ⟨rfl, t3, f3, rfl⟩ := hq3
        refine z_inc1 dX3_deal_48 rfl (by decide) ?_
        refine z_goto (tgt := 12) dX3_deal_51 (by decide) ?_
        rw [nI_1]
        exact ih (j + 1) (by omega) σ3 (f1.tr f3) (by rw [e, ← List.append_assoc]; exact t3)
  have outer : ∀ d i : Nat, i + d = p → ∀ σ1 : zH, zFr σ σ1 r3 7 → zRows G σ1 r3 m3 (zrng i f).flatten (zcum 0 (zrng i f)) → ∀ x1 : Option Value, zWP G kX3_deal (zFM G kX3_deal.2.2.2.1 Q) 3 [some (.ref h), some (.ref r1), some (.int (nI p)), some (.ref r3), some (.int (nI i)), x1] [] σ1 nx 0 0 := by
    intro d
    induction d with
    | zero =>
      intro i hi σ1 f1 t1 x1
      have e0 : i = p := by omega
      subst e0
      refine z_iload dX3_deal_3 rfl ?_
      refine z_iload_n dX3_deal_5 rfl ?_
      refine z_icmp_ge (tgt := 64) dX3_deal_6 (by decide) (fun _ => ?_) (fun q => absurd (nI_le (Nat.le_refl _) (by omega)) q)
      exact z_vret dX3_deal_64 rfl (Nat.le_of_ble_eq_true rfl) (Nat.le_of_ble_eq_true rfl) (hQ _ _ _ ⟨rfl, by rw [zdeal, ← hf]; exact t1, f1, rfl⟩)
    | succ d ih =>
      intro i hi σ1 f1 t1 x1
      refine z_iload dX3_deal_3 rfl ?_
      refine z_iload_n dX3_deal_5 rfl ?_
      refine z_icmp_ge (tgt := 64) dX3_deal_6 (by decide) (fun q => absurd q (nI_ge (show i < p by omega) (by omega))) (fun _ => ?_)
      refine z_iconst (v := 0) dX3_deal_9 (by decide) ?_
      refine z_istore dX3_deal_10 (by decide) ?_
      refine inner i _ (by omega) (fun σ3 f3 t3 y1 => ?_) R.length 0 (by omega) σ1 f1 (by rw [List.take_zero]; simpa [zpk] using t1)
      refine z_aload_n dX3_deal_54 rfl ?_
      refine z_callV dX3_deal_55 cv_X3_158 (c_X9_endPartition t3 (by rw [zcum_len, zrng_len]; omega)) rfl t3.c rfl rfl ⟨(Nat.le_of_ble_eq_true rfl), (Nat.le_of_ble_eq_true rfl)⟩ (Nat.le_of_ble_eq_true rfl) (Nat.le_of_ble_eq_true rfl) (Nat.le_of_ble_eq_true rfl) (fun v σ4 nx4 hx4 hq4 => ?_)
      obtain ⟨rfl, t4, f4, rfl⟩ := hq4
      refine z_inc1 dX3_deal_58 rfl (by decide) ?_
      refine z_goto (tgt := 3) dX3_deal_61 (by decide) ?_
      rw [nI_1]
      refine ih (i + 1) (by omega) σ4 (f3.tr f4) ?_ _
      rw [zrng_s, zcum_snoc, List.flatten_append, Nat.zero_add, ← List.length_append]
      simpa using t4
  refine z_iconst (v := 0) dX3_deal_0 (by decide) ?_
  refine z_istore dX3_deal_1 (by decide) ?_
  exact outer p 0 (by omega) σ zFr.rf h3 none
