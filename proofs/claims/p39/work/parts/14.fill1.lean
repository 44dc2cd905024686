/-! Holding: what a node holds, partition by partition -/
def zmapP (D : Nat → Int32) (p : zP2) : zP2 := p.map fun q => (zmk D q, zmv D q)
def zmap1 (D : Nat → Int32) (q : Int32 × Int32) : zP2 := [(zmk D q, zmv D q)]
def zsifP (D : Nat → Int32) (p : zP2) : zP2 := p.filter fun q => decide (D 9 ≤ q.2) && decide (q.2 ≤ D 10)
def zsif1 (D : Nat → Int32) (q : Int32 × Int32) : zP2 := if (decide (D 9 ≤ q.2) && decide (q.2 ≤ D 10)) = true then [q] else []
def zfmP (S : zP2) (p : zP2) : zP2 := zfm p S
def zmatP (S : zP2) (q : Int32 × Int32) : zP2 := zmat q S
theorem zphi {φ : zP2 → zP2} {ψ : Int32 × Int32 → zP2} (h0 : φ [] = []) (hφ : ∀ l q, φ (l ++ [q]) = φ l ++ ψ q) (p : zP2) (j : Nat) : (φ (p.take j)).length ≤ (φ p).length := by
  have key : ∀ (b a : zP2), (φ a).length ≤ (φ (a ++ b)).length := by
    intro b
    induction b with
    | nil => intro a; simp
    | cons q t ih =>
      intro a
      have := ih (a ++ [q])
      rw [hφ, List.length_append, List.append_assoc] at this
      exact Nat.le_trans (Nat.le_add_right _ _) this
  have := key (p.drop j) (p.take j)
  rwa [List.take_append_drop] at this
theorem zmapcap {P : List zP2} {i : Nat} {p : zP2} (φ : zP2 → zP2) (h : P[i]? = some p) : ((P.take i).map φ).flatten.length + (φ p).length ≤ (P.map φ).flatten.length := by
  have e : P.map φ = (P.take i).map φ ++ φ p :: (P.drop (i + 1)).map φ := by
    conv => lhs; rw [zpre_flat h]
    rw [List.map_append, List.map_cons]
  rw [e, List.flatten_append, List.flatten_cons, List.length_append, List.length_append]
  omega
theorem zmaps {P : List zP2} {i : Nat} {p : zP2} (φ : zP2 → zP2) (h : P[i]? = some p) : (P.take (i + 1)).map φ = (P.take i).map φ ++ [φ p] := by rw [ztake h, List.map_append]; rfl
theorem zcumz {P : List zP2} {i : Nat} {p : zP2} (φ : zP2 → zP2) (h : P[i]? = some p) : zcum 0 ((P.take (i + 1)).map φ) = zcum 0 ((P.take i).map φ) ++ [(((P.take i).map φ).flatten ++ φ p).length] := by
  rw [zmaps φ h, zcum_snoc, Nat.zero_add, List.length_append]
theorem zflatz {P : List zP2} {i : Nat} {p : zP2} (φ : zP2 → zP2) (h : P[i]? = some p) : ((P.take (i + 1)).map φ).flatten = ((P.take i).map φ).flatten ++ φ p := by
  rw [zmaps φ h, List.flatten_append]; simp
set_option maxRecDepth 100000 in
theorem c_X3_addMatches {G : zG} {σ : zH} {nx h r3 r4 m3 m4 : Nat} {x y : Int32} {P : List zP2} {R : zP2} {E : List Nat} (h3 : zHas G σ r3 m3 P) (h4 : zRows G σ r4 m4 R E) (ha : zAp r3 r4) (hb : R.length + (zmat (x, y) P.flatten).length ≤ m4) : zM G yX3_addMatches kX3_addMatches [.ref h, .int x, .int y, .ref r3, .ref r4] σ nx (fun v σ' nx' => v = none ∧ zRows G σ' r4 m4 (R ++ zmat (x, y) P.flatten) E ∧ zFr σ σ' r4 7 ∧ nx' = nx) := by
  refine zM.of2 (ls := [some (.ref h), some (.int x), some (.int y), some (.ref r3), some (.ref r4), none]) (by decide +kernel) ⟨rfl, rfl, rfl⟩ (Nat.le_of_ble_eq_true rfl) (fun _ h => h) (fun Q hQ => ?_)
  have hl := h3.len
  have loop : ∀ d j : Nat, j + d = P.flatten.length → ∀ σ1 : zH, zFr σ σ1 r4 7 → zRows G σ1 r4 m4 (R ++ zmat (x, y) (P.flatten.take j)) E → zWP G kX3_addMatches (zFM G kX3_addMatches.2.2.2.1 Q) 3 [some (.ref h), some (.int x), some (.int y), some (.ref r3), some (.ref r4), some (.int (nI j))] [] σ1 nx 0 0 := by
    intro d
    induction d with
    | zero =>
      intro j hj σ1 f1 t1
      have g3 : zHas G σ1 r3 m3 P := h3.ap f1 ha
      refine z_iload dX3_addMatches_3 rfl ?_
      refine z_aload_n dX3_addMatches_5 rfl ?_
      refine z_callV dX3_addMatches_6 cv_X3_77 (c_X9_size g3) rfl g3.c rfl rfl ⟨(Nat.le_of_ble_eq_true rfl), (Nat.le_of_ble_eq_true rfl)⟩ (Nat.le_of_ble_eq_true rfl) (Nat.le_of_ble_eq_true rfl) (Nat.le_of_ble_eq_true rfl) (fun v σ2 nx2 hx2 hq2 => ?_)
      obtain ⟨rfl, rfl, rfl⟩ := hq2
      refine z_icmp_ge (tgt := 42) dX3_addMatches_9 (by decide) (fun _ => ?_) (fun q => absurd (nI_le (by omega) (by omega)) q)
      rw [List.take_of_length_le (by omega)] at t1
      exact z_vret dX3_addMatches_42 rfl (Nat.le_of_ble_eq_true rfl) (Nat.le_of_ble_eq_true rfl) (hQ _ _ _ ⟨rfl, t1, f1, rfl⟩)
    | succ d ih =>
      intro j hj σ1 f1 t1
      have g3 : zHas G σ1 r3 m3 P := h3.ap f1 ha
      have hg : P.flatten[j]? = some (P.flatten[j]'(by omega)) := List.getElem?_eq_getElem _
      generalize P.flatten[j]'(by omega) = z at hg
      refine z_iload dX3_addMatches_3 rfl ?_
      refine z_aload_n dX3_addMatches_5 rfl ?_
      refine z_callV dX3_addMatches_6 cv_X3_77 (c_X9_size g3) rfl g3.c rfl rfl ⟨(Nat.le_of_ble_eq_true rfl), (Nat.le_of_ble_eq_true rfl)⟩ (Nat.le_of_ble_eq_true rfl) (Nat.le_of_ble_eq_true rfl) (Nat.le_of_ble_eq_true rfl) (fun v σ2 nx2 hx2 hq2 => ?_)
      obtain ⟨rfl, rfl, rfl⟩ := hq2
      refine z_icmp_ge (tgt := 42) dX3_addMatches_9 (by decide) (fun q => absurd q (nI_ge (show j < P.flatten.length by omega) (by omega))) (fun _ => ?_)
      refine z_aload_n dX3_addMatches_12 rfl ?_
      refine z_iload dX3_addMatches_13 rfl ?_
      refine z_callV dX3_addMatches_15 cv_X3_147 (c_X9_key g3 hg) rfl g3.c rfl rfl ⟨(Nat.le_of_ble_eq_true rfl), (Nat.le_of_ble_eq_true rfl)⟩ (Nat.le_of_ble_eq_true rfl) (Nat.le_of_ble_eq_true rfl) (Nat.le_of_ble_eq_true rfl) (fun v σ2 nx2 hx2 hq2 => ?_)
      obtain ⟨rfl, rfl, rfl⟩ := hq2
      refine z_iload_n dX3_addMatches_18 rfl ?_
      have e := zmat_snoc (x, y) (P.flatten.take j) z
      rw [← ztake hg] at e
      refine z_icmp_ne (tgt := 36) dX3_addMatches_19 (by decide) (fun h19 => ?_) (fun h19 => ?_)
      · rw [if_neg h19, List.append_nil] at e
        refine z_inc1 dX3_addMatches_36 rfl (by decide) ?_
        refine z_goto (tgt := 3) dX3_addMatches_39 (by decide) ?_
        rw [nI_1]
        exact ih (j + 1) (by omega) σ2 f1 (by rw [e]; exact t1)
      · rw [if_pos h19] at e
        have hcap : (zmat (x, y) (P.flatten.take j)).length + 1 ≤ (zmat (x, y) P.flatten).length := by
          have := zmat_take (x, y) P.flatten (j + 1)
          rw [e, List.length_append] at this
          exact this
        refine z_aload dX3_addMatches_22 rfl ?_
        refine z_iload_n dX3_addMatches_24 rfl ?_
        refine z_iload_n dX3_addMatches_25 rfl ?_
        refine z_aload_n dX3_addMatches_26 rfl ?_
        refine z_iload dX3_addMatches_27 rfl ?_
        refine z_callV dX3_addMatches_29 cv_X3_151 (c_X9_value g3 hg) rfl g3.c rfl rfl ⟨(Nat.le_of_ble_eq_true rfl), (Nat.le_of_ble_eq_true rfl)⟩ (Nat.le_of_ble_eq_true rfl) (Nat.le_of_ble_eq_true rfl) (Nat.le_of_ble_eq_true rfl) (fun v σ3 nx3 hx3 hq3 => ?_)
        obtain ⟨rfl, rfl, rfl⟩ := hq3
        refine z_iadd dX3_addMatches_32 ?_
        refine z_callV dX3_addMatches_33 cv_X3_154 (c_X9_add t1 (by rw [List.length_append]; omega)) rfl t1.c rfl rfl ⟨(Nat.le_of_ble_eq_true rfl), (Nat.le_of_ble_eq_true rfl)⟩ (Nat.le_of_ble_eq_true rfl) (Nat.le_of_ble_eq_true rfl) (Nat.le_of_ble_eq_true rfl) (fun v σ3 nx3 hx3 hq3 => ?_)
        obtain ⟨rfl, t3, f3, rfl⟩ := hq3
        refine z_inc1 dX3_addMatches_36 rfl (by decide) ?_
        refine z_goto (tgt := 3) dX3_addMatches_39 (by decide) ?_
        rw [nI_1]
        exact ih (j + 1) (by omega) σ3 (f1.tr f3) (by rw [e, ← List.append_assoc]; exact t3)
  refine z_iconst (v := 0) dX3_addMatches_0 (by decide) ?_
  refine z_istore dX3_addMatches_1 (by decide) ?_
  exact loop P.flatten.length 0 (by omega) σ zFr.rf (by simpa [zmat] using h4)
set_option maxRecDepth 100000 in
/-- change: a map's rows -/
theorem c_X3_change {G : zG} {σ : zH} {nx h r1 n r3 k m1 m3 : Nat} {P : List zP2} {D : Nat → Int32} {R : zP2} (h1 : zHas G σ r1 m1 P) (hn : zNode G σ n k D R) (hc : D 7 = 3 → 0 < D 8) (h3 : zRows G σ r3 m3 [] []) (a13 : zAp r1 r3) (an : n + 8 ≤ r3 ∨ r3 + 7 ≤ n) (hb : (P.map (zmapP D)).flatten.length ≤ m3) : zM G yX3_change kX3_change [.ref h, .ref r1, .ref n, .ref r3] σ nx (fun v σ' nx' => v = none ∧ zHas G σ' r3 m3 (P.map (zmapP D)) ∧ zFr σ σ' r3 7 ∧ nx' = nx) := by
  refine zM.of2 (ls := [some (.ref h), some (.ref r1), some (.ref n), some (.ref r3), none, none, none, none]) (by decide +kernel) ⟨rfl, rfl, rfl⟩ (Nat.le_of_ble_eq_true rfl) (fun _ h => h) (fun Q hQ => ?_)
  have hl := h1.len
  have φ0 : (zmapP D) [] = [] := rfl
  have φs : ∀ (l : zP2) (q : Int32 × Int32), (zmapP D) (l ++ [q]) = (zmapP D) l ++ (zmap1 D) q := fun l q => by simp [zmapP, zmap1]
  have inner : ∀ (i : Nat) (p : zP2), P[i]? = some p → (∀ σ2 : zH, zFr σ σ2 r3 7 → zRows G σ2 r3 m3 (((P.take i).map (zmapP D)).flatten ++ (zmapP D) p) (zcum 0 ((P.take i).map (zmapP D))) → ∀ (x0 : Option Value) (x1 : Option Value) (x2 : Option Value), zWP G kX3_change (zFM G kX3_change.2.2.2.1 Q) 73 [some (.ref h), some (.ref r1), some (.ref n), some (.ref r3), some (.int (nI i)), x0, x1, x2] [] σ2 nx 0 0) →
      ∀ d j : Nat, j + d = p.length → ∀ σ1 : zH, zFr σ σ1 r3 7 → zRows G σ1 r3 m3 (((P.take i).map (zmapP D)).flatten ++ (zmapP D) (p.take j)) (zcum 0 ((P.take i).map (zmapP D))) → ∀ (x1 : Option Value) (x2 : Option Value), zWP G kX3_change (zFM G kX3_change.2.2.2.1 Q) 20 [some (.ref h), some (.ref r1), some (.ref n), some (.ref r3), some (.int (nI i)), some (.int (nI ((P.take i).flatten.length + j))), x1, x2] [] σ1 nx 0 0 := by
    intro i p hp kk d
    have hip := zR_lt hp
    have hend := zcum_at hp
    have hcl : (P.take i).flatten.length + p.length ≤ 300 := by
      have := congrArg List.length (congrArg List.flatten (zpre_flat hp))
      rw [List.flatten_append, List.flatten_cons, List.length_append, List.length_append] at this
      omega
    induction d with
    | zero =>
      intro j hj σ1 f1 t1 x1 x2
      have g1 : zHas G σ1 r1 m1 P := h1.ap f1 a13
      refine z_iload dX3_change_20 rfl ?_
      refine z_aload_n dX3_change_22 rfl ?_
      refine z_iload dX3_change_23 rfl ?_
      refine z_callV dX3_change_25 cv_X3_167 (c_X9_end g1 hend) rfl g1.c rfl rfl ⟨(Nat.le_of_ble_eq_true rfl), (Nat.le_of_ble_eq_true rfl)⟩ (Nat.le_of_ble_eq_true rfl) (Nat.le_of_ble_eq_true rfl) (Nat.le_of_ble_eq_true rfl) (fun v σ2 nx2 hx2 hq2 => ?_)
      obtain ⟨rfl, rfl, rfl⟩ := hq2
      refine z_icmp_ge (tgt := 73) dX3_change_28 (by decide) (fun _ => ?_) (fun q => absurd (nI_le (by omega) (by omega)) q)
      rw [show p.take j = p from List.take_of_length_le (by omega)] at t1
      exact kk σ2 f1 t1 _ _ _
    | succ d ih =>
      intro j hj σ1 f1 t1 x1 x2
      have g1 : zHas G σ1 r1 m1 P := h1.ap f1 a13
      have hq : p[j]? = some (p[j]'(by omega)) := List.getElem?_eq_getElem _
      generalize p[j]'(by omega) = z at hq
      have hg := zflat_at hp hq
      have e : (zmapP D) (p.take (j + 1)) = (zmapP D) (p.take j) ++ (zmap1 D) z := by rw [ztake hq, φs]
      have hcap : ((P.take i).map (zmapP D)).flatten.length + ((zmapP D) (p.take j)).length + ((zmap1 D) z).length ≤ m3 := by
        have c1 := zmapcap (zmapP D) hp
        have c2 := zphi φ0 φs p (j + 1)
        rw [e, List.length_append] at c2
        have c3 := hb
        omega
      refine z_iload dX3_change_20 rfl ?_
      refine z_aload_n dX3_change_22 rfl ?_
      refine z_iload dX3_change_23 rfl ?_
      refine z_callV dX3_change_25 cv_X3_167 (c_X9_end g1 hend) rfl g1.c rfl rfl ⟨(Nat.le_of_ble_eq_true rfl), (Nat.le_of_ble_eq_true rfl)⟩ (Nat.le_of_ble_eq_true rfl) (Nat.le_of_ble_eq_true rfl) (Nat.le_of_ble_eq_true rfl) (fun v σ2 nx2 hx2 hq2 => ?_)
      obtain ⟨rfl, rfl, rfl⟩ := hq2
      refine z_icmp_ge (tgt := 73) dX3_change_28 (by decide) (fun q => absurd q (nI_ge (show (P.take i).flatten.length + j < (P.take i).flatten.length + p.length by omega) (by omega))) (fun _ => ?_)
      have gn := hn.ap f1 an
      refine z_aload_n dX3_change_31 rfl ?_
      refine z_iload dX3_change_32 rfl ?_
      refine z_callV dX3_change_34 cv_X3_147 (c_X9_key g1 hg) rfl g1.c rfl rfl ⟨(Nat.le_of_ble_eq_true rfl), (Nat.le_of_ble_eq_true rfl)⟩ (Nat.le_of_ble_eq_true rfl) (Nat.le_of_ble_eq_true rfl) (Nat.le_of_ble_eq_true rfl) (fun v σ3 nx3 hx3 hq3 => ?_)
      obtain ⟨rfl, rfl, rfl⟩ := hq3
      refine z_istore dX3_change_37 (by decide) ?_
      refine z_aload_n dX3_change_39 rfl ?_
      refine z_iload dX3_change_40 rfl ?_
      refine z_callV dX3_change_42 cv_X3_151 (c_X9_value g1 hg) rfl g1.c rfl rfl ⟨(Nat.le_of_ble_eq_true rfl), (Nat.le_of_ble_eq_true rfl)⟩ (Nat.le_of_ble_eq_true rfl) (Nat.le_of_ble_eq_true rfl) (Nat.le_of_ble_eq_true rfl) (fun v σ3 nx3 hx3 hq3 => ?_)
      obtain ⟨rfl, rfl, rfl⟩ := hq3
      refine z_istore dX3_change_45 (by decide) ?_
      refine z_aload_n dX3_change_47 rfl ?_
      refine z_aload_n dX3_change_48 rfl ?_
      refine z_iload dX3_change_49 rfl ?_
      refine z_iload dX3_change_51 rfl ?_
      refine z_callV dX3_change_53 cv_X3_170 (c_X7_newKey (q := z) gn hc) rfl gn.1 rfl rfl ⟨(Nat.le_of_ble_eq_true rfl), (Nat.le_of_ble_eq_true rfl)⟩ (Nat.le_of_ble_eq_true rfl) (Nat.le_of_ble_eq_true rfl) (Nat.le_of_ble_eq_true rfl) (fun v σ3 nx3 hx3 hq3 => ?_)
      obtain ⟨rfl, rfl, rfl⟩ := hq3
      refine z_aload_n dX3_change_56 rfl ?_
      refine z_iload dX3_change_57 rfl ?_
      refine z_iload dX3_change_59 rfl ?_
      refine z_callV dX3_change_61 cv_X3_173 (c_X7_newValue (q := z) gn) rfl gn.1 rfl rfl ⟨(Nat.le_of_ble_eq_true rfl), (Nat.le_of_ble_eq_true rfl)⟩ (Nat.le_of_ble_eq_true rfl) (Nat.le_of_ble_eq_true rfl) (Nat.le_of_ble_eq_true rfl) (fun v σ3 nx3 hx3 hq3 => ?_)
      obtain ⟨rfl, rfl, rfl⟩ := hq3
      refine z_callV dX3_change_64 cv_X3_154 (c_X9_add t1 (by rw [List.length_append]; simp only [zmap1, List.length_cons, List.length_nil] at hcap; omega)) rfl t1.c rfl rfl ⟨(Nat.le_of_ble_eq_true rfl), (Nat.le_of_ble_eq_true rfl)⟩ (Nat.le_of_ble_eq_true rfl) (Nat.le_of_ble_eq_true rfl) (Nat.le_of_ble_eq_true rfl) (fun v σ3 nx3 hx3 hq3 => ?_)
      obtain ⟨rfl, t3, f3, rfl⟩ := hq3
      refine z_inc1 dX3_change_67 rfl (by decide) ?_
      refine z_goto (tgt := 20) dX3_change_70 (by decide) ?_
      rw [nI_1, Nat.add_assoc]
      exact ih (j + 1) (by omega) σ3 (f1.tr f3) (by rw [e, ← List.append_assoc]; exact t3) _ _
  have outer : ∀ d i : Nat, i + d = P.length → ∀ σ1 : zH, zFr σ σ1 r3 7 → zRows G σ1 r3 m3 ((P.take i).map (zmapP D)).flatten (zcum 0 ((P.take i).map (zmapP D))) → ∀ (x0 : Option Value) (x1 : Option Value) (x2 : Option Value), zWP G kX3_change (zFM G kX3_change.2.2.2.1 Q) 3 [some (.ref h), some (.ref r1), some (.ref n), some (.ref r3), some (.int (nI i)), x0, x1, x2] [] σ1 nx 0 0 := by
    intro d
    induction d with
    | zero =>
      intro i hi σ1 f1 t1 x0 x1 x2
      have g1 : zHas G σ1 r1 m1 P := h1.ap f1 a13
      refine z_iload dX3_change_3 rfl ?_
      refine z_aload_n dX3_change_5 rfl ?_
      refine z_callV dX3_change_6 cv_X3_161 (c_X9_parts g1) rfl g1.c rfl rfl ⟨(Nat.le_of_ble_eq_true rfl), (Nat.le_of_ble_eq_true rfl)⟩ (Nat.le_of_ble_eq_true rfl) (Nat.le_of_ble_eq_true rfl) (Nat.le_of_ble_eq_true rfl) (fun v σ2 nx2 hx2 hq2 => ?_)
      obtain ⟨rfl, rfl, rfl⟩ := hq2
      rw [zcum_len]
      refine z_icmp_ge (tgt := 83) dX3_change_9 (by decide) (fun _ => ?_) (fun q => absurd (nI_le (by omega) (by omega)) q)
      rw [show P.take i = P from List.take_of_length_le (by omega)] at t1
      exact z_vret dX3_change_83 rfl (Nat.le_of_ble_eq_true rfl) (Nat.le_of_ble_eq_true rfl) (hQ _ _ _ ⟨rfl, t1, f1, rfl⟩)
    | succ d ih =>
      intro i hi σ1 f1 t1 x0 x1 x2
      have g1 : zHas G σ1 r1 m1 P := h1.ap f1 a13
      have hp : P[i]? = some (P[i]'(by omega)) := List.getElem?_eq_getElem _
      generalize P[i]'(by omega) = p at hp
      refine z_iload dX3_change_3 rfl ?_
      refine z_aload_n dX3_change_5 rfl ?_
      refine z_callV dX3_change_6 cv_X3_161 (c_X9_parts g1) rfl g1.c rfl rfl ⟨(Nat.le_of_ble_eq_true rfl), (Nat.le_of_ble_eq_true rfl)⟩ (Nat.le_of_ble_eq_true rfl) (Nat.le_of_ble_eq_true rfl) (Nat.le_of_ble_eq_true rfl) (fun v σ2 nx2 hx2 hq2 => ?_)
      obtain ⟨rfl, rfl, rfl⟩ := hq2
      rw [zcum_len]
      refine z_icmp_ge (tgt := 83) dX3_change_9 (by decide) (fun q => absurd q (nI_ge (show i < P.length by omega) (by omega))) (fun _ => ?_)
      refine z_aload_n dX3_change_12 rfl ?_
      refine z_iload dX3_change_13 rfl ?_
      refine z_callV dX3_change_15 cv_X3_164 (c_X9_begin (j := i) g1 (by rw [zcum_len]; omega)) rfl g1.c rfl rfl ⟨(Nat.le_of_ble_eq_true rfl), (Nat.le_of_ble_eq_true rfl)⟩ (Nat.le_of_ble_eq_true rfl) (Nat.le_of_ble_eq_true rfl) (Nat.le_of_ble_eq_true rfl) (fun v σ2 nx2 hx2 hq2 => ?_)
      obtain ⟨rfl, rfl, rfl⟩ := hq2
      rw [zbeg_at (by omega)]
      refine z_istore dX3_change_18 (by decide) ?_
      refine inner i p hp (fun σ3 f3 t3 y0 y1 y2 => ?_) p.length 0 (by omega) σ2 f1 (by rw [List.take_zero, φ0, List.append_nil]; exact t1) _ _
      refine z_aload_n dX3_change_73 rfl ?_
      refine z_callV dX3_change_74 cv_X3_158 (c_X9_endPartition t3 (by rw [zcum_len, List.length_map, List.length_take]; omega)) rfl t3.c rfl rfl ⟨(Nat.le_of_ble_eq_true rfl), (Nat.le_of_ble_eq_true rfl)⟩ (Nat.le_of_ble_eq_true rfl) (Nat.le_of_ble_eq_true rfl) (Nat.le_of_ble_eq_true rfl) (fun v σ4 nx4 hx4 hq4 => ?_)
      obtain ⟨rfl, t4, f4, rfl⟩ := hq4
      refine z_inc1 dX3_change_77 rfl (by decide) ?_
      refine z_goto (tgt := 3) dX3_change_80 (by decide) ?_
      rw [nI_1]
      refine ih (i + 1) (by omega) σ4 (f3.tr f4) ?_ _ _ _
      rw [zflatz (zmapP D) hp, zcumz (zmapP D) hp]
      exact t4
  refine z_iconst (v := 0) dX3_change_0 (by decide) ?_
  refine z_istore dX3_change_1 (by decide) ?_
  exact outer P.length 0 (by omega) σ zFr.rf (by rw [List.take_zero]; exact h3) _ _ _
set_option maxRecDepth 100000 in
/-- sift: a filter's rows -/
theorem c_X3_sift {G : zG} {σ : zH} {nx h r1 n r3 k m1 m3 : Nat} {P : List zP2} {D : Nat → Int32} {R : zP2} (h1 : zHas G σ r1 m1 P) (hn : zNode G σ n k D R) (h3 : zRows G σ r3 m3 [] []) (a13 : zAp r1 r3) (an : n + 8 ≤ r3 ∨ r3 + 7 ≤ n) (hb : (P.map (zsifP D)).flatten.length ≤ m3) : zM G yX3_sift kX3_sift [.ref h, .ref r1, .ref n, .ref r3] σ nx (fun v σ' nx' => v = none ∧ zHas G σ' r3 m3 (P.map (zsifP D)) ∧ zFr σ σ' r3 7 ∧ nx' = nx) := by
  refine zM.of2 (ls := [some (.ref h), some (.ref r1), some (.ref n), some (.ref r3), none, none, none]) (by decide +kernel) ⟨rfl, rfl, rfl⟩ (Nat.le_of_ble_eq_true rfl) (fun _ h => h) (fun Q hQ => ?_)
  have hl := h1.len
  have φ0 : (zsifP D) [] = [] := rfl
  have φs : ∀ (l : zP2) (q : Int32 × Int32), (zsifP D) (l ++ [q]) = (zsifP D) l ++ (zsif1 D) q := fun l q => by by_cases hh : (decide (D 9 ≤ q.2) && decide (q.2 ≤ D 10)) = true <;> simp [zsifP, zsif1, List.filter_append, hh]
  have inner : ∀ (i : Nat) (p : zP2), P[i]? = some p → (∀ σ2 : zH, zFr σ σ2 r3 7 → zRows G σ2 r3 m3 (((P.take i).map (zsifP D)).flatten ++ (zsifP D) p) (zcum 0 ((P.take i).map (zsifP D))) → ∀ (x0 : Option Value) (x1 : Option Value), zWP G kX3_sift (zFM G kX3_sift.2.2.2.1 Q) 75 [some (.ref h), some (.ref r1), some (.ref n), some (.ref r3), some (.int (nI i)), x0, x1] [] σ2 nx 0 0) →
      ∀ d j : Nat, j + d = p.length → ∀ σ1 : zH, zFr σ σ1 r3 7 → zRows G σ1 r3 m3 (((P.take i).map (zsifP D)).flatten ++ (zsifP D) (p.take j)) (zcum 0 ((P.take i).map (zsifP D))) → ∀ (x1 : Option Value), zWP G kX3_sift (zFM G kX3_sift.2.2.2.1 Q) 20 [some (.ref h), some (.ref r1), some (.ref n), some (.ref r3), some (.int (nI i)), some (.int (nI ((P.take i).flatten.length + j))), x1] [] σ1 nx 0 0 := by
    intro i p hp kk d
    have hip := zR_lt hp
    have hend := zcum_at hp
    have hcl : (P.take i).flatten.length + p.length ≤ 300 := by
      have := congrArg List.length (congrArg List.flatten (zpre_flat hp))
      rw [List.flatten_append, List.flatten_cons, List.length_append, List.length_append] at this
      omega
    induction d with
    | zero =>
      intro j hj σ1 f1 t1 x1
      have g1 : zHas G σ1 r1 m1 P := h1.ap f1 a13
      refine z_iload dX3_sift_20 rfl ?_
      refine z_aload_n dX3_sift_22 rfl ?_
      refine z_iload dX3_sift_23 rfl ?_
      refine z_callV dX3_sift_25 cv_X3_167 (c_X9_end g1 hend) rfl g1.c rfl rfl ⟨(Nat.le_of_ble_eq_true rfl), (Nat.le_of_ble_eq_true rfl)⟩ (Nat.le_of_ble_eq_true rfl) (Nat.le_of_ble_eq_true rfl) (Nat.le_of_ble_eq_true rfl) (fun v σ2 nx2 hx2 hq2 => ?_)
      obtain ⟨rfl, rfl, rfl⟩ := hq2
      refine z_icmp_ge (tgt := 75) dX3_sift_28 (by decide) (fun _ => ?_) (fun q => absurd (nI_le (by omega) (by omega)) q)
      rw [show p.take j = p from List.take_of_length_le (by omega)] at t1
      exact kk σ2 f1 t1 _ _
    | succ d ih =>
      intro j hj σ1 f1 t1 x1
      have g1 : zHas G σ1 r1 m1 P := h1.ap f1 a13
      have hq : p[j]? = some (p[j]'(by omega)) := List.getElem?_eq_getElem _
      generalize p[j]'(by omega) = z at hq
      have hg := zflat_at hp hq
      have e : (zsifP D) (p.take (j + 1)) = (zsifP D) (p.take j) ++ (zsif1 D) z := by rw [ztake hq, φs]
      have hcap : ((P.take i).map (zsifP D)).flatten.length + ((zsifP D) (p.take j)).length + ((zsif1 D) z).length ≤ m3 := by
        have c1 := zmapcap (zsifP D) hp
        have c2 := zphi φ0 φs p (j + 1)
        rw [e, List.length_append] at c2
        have c3 := hb
        omega
      refine z_iload dX3_sift_20 rfl ?_
      refine z_aload_n dX3_sift_22 rfl ?_
      refine z_iload dX3_sift_23 rfl ?_
      refine z_callV dX3_sift_25 cv_X3_167 (c_X9_end g1 hend) rfl g1.c rfl rfl ⟨(Nat.le_of_ble_eq_true rfl), (Nat.le_of_ble_eq_true rfl)⟩ (Nat.le_of_ble_eq_true rfl) (Nat.le_of_ble_eq_true rfl) (Nat.le_of_ble_eq_true rfl) (fun v σ2 nx2 hx2 hq2 => ?_)
      obtain ⟨rfl, rfl, rfl⟩ := hq2
      refine z_icmp_ge (tgt := 75) dX3_sift_28 (by decide) (fun q => absurd q (nI_ge (show (P.take i).flatten.length + j < (P.take i).flatten.length + p.length by omega) (by omega))) (fun _ => ?_)
      have gn := hn.ap f1 an
      refine z_aload_n dX3_sift_31 rfl ?_
      refine z_iload dX3_sift_32 rfl ?_
      refine z_callV dX3_sift_34 cv_X3_151 (c_X9_value g1 hg) rfl g1.c rfl rfl ⟨(Nat.le_of_ble_eq_true rfl), (Nat.le_of_ble_eq_true rfl)⟩ (Nat.le_of_ble_eq_true rfl) (Nat.le_of_ble_eq_true rfl) (Nat.le_of_ble_eq_true rfl) (fun v σ3 nx3 hx3 hq3 => ?_)
      obtain ⟨rfl, rfl, rfl⟩ := hq3
      refine z_istore dX3_sift_37 (by decide) ?_
      refine z_iload dX3_sift_39 rfl ?_
      refine z_aload_n dX3_sift_41 rfl ?_
      refine z_getf dX3_sift_42 fl_X3_176 gn.1 rfl ?_
      have skip : ¬ (decide (D 9 ≤ z.2) && decide (z.2 ≤ D 10)) = true → zWP G kX3_sift (zFM G kX3_sift.2.2.2.1 Q) 69 [some (.ref h), some (.ref r1), some (.ref n), some (.ref r3), some (.int (nI i)), some (.int (nI ((P.take i).flatten.length + j))), some (.int z.2)] [] σ3 nx3 0 0 := by
        intro hh
        have e2 : zsifP D (p.take (j + 1)) = zsifP D (p.take j) := by rw [e, zsif1, if_neg hh, List.append_nil]
        refine z_inc1 dX3_sift_69 rfl (by decide) ?_
        refine z_goto (tgt := 20) dX3_sift_72 (by decide) ?_
        rw [nI_1, Nat.add_assoc]
        exact ih (j + 1) (by omega) σ3 f1 (by rw [e2]; exact t1) _
      refine z_icmp_lt (tgt := 69) dX3_sift_45 (by decide) (fun h45 => ?_) (fun h45 => ?_)
      · exact skip (by simp only [Bool.and_eq_true, decide_eq_true_eq]; exact fun q => absurd h45 (Int32.not_lt.mpr q.1))
      · refine z_iload dX3_sift_48 rfl ?_
        refine z_aload_n dX3_sift_50 rfl ?_
        refine z_getf dX3_sift_51 fl_X3_179 gn.1 rfl ?_
        refine z_icmp_gt (tgt := 69) dX3_sift_54 (by decide) (fun h54 => ?_) (fun h54 => ?_)
        · exact skip (by simp only [Bool.and_eq_true, decide_eq_true_eq]; exact fun q => absurd h54 (Int32.not_lt.mpr q.2))
        · have hh : (decide (D 9 ≤ z.2) && decide (z.2 ≤ D 10)) = true := by simp only [Bool.and_eq_true, decide_eq_true_eq]; exact ⟨Int32.not_lt.mp h45, Int32.not_lt.mp h54⟩
          rw [zsif1, if_pos hh] at e hcap
          refine z_aload_n dX3_sift_57 rfl ?_
          refine z_aload_n dX3_sift_58 rfl ?_
          refine z_iload dX3_sift_59 rfl ?_
          refine z_callV dX3_sift_61 cv_X3_147 (c_X9_key g1 hg) rfl g1.c rfl rfl ⟨(Nat.le_of_ble_eq_true rfl), (Nat.le_of_ble_eq_true rfl)⟩ (Nat.le_of_ble_eq_true rfl) (Nat.le_of_ble_eq_true rfl) (Nat.le_of_ble_eq_true rfl) (fun v σ4 nx4 hx4 hq4 => ?_)
          obtain ⟨rfl, rfl, rfl⟩ := hq4
          refine z_iload dX3_sift_64 rfl ?_
          refine z_callV dX3_sift_66 cv_X3_154 (c_X9_add t1 (by rw [List.length_append]; simp only [List.length_cons, List.length_nil] at hcap; omega)) rfl t1.c rfl rfl ⟨(Nat.le_of_ble_eq_true rfl), (Nat.le_of_ble_eq_true rfl)⟩ (Nat.le_of_ble_eq_true rfl) (Nat.le_of_ble_eq_true rfl) (Nat.le_of_ble_eq_true rfl) (fun v σ4 nx4 hx4 hq4 => ?_)
          obtain ⟨rfl, t3, f3, rfl⟩ := hq4
          refine z_inc1 dX3_sift_69 rfl (by decide) ?_
          refine z_goto (tgt := 20) dX3_sift_72 (by decide) ?_
          rw [nI_1, Nat.add_assoc]
          exact ih (j + 1) (by omega) σ4 (f1.tr f3) (by rw [e, ← List.append_assoc]; exact t3) _
  have outer : ∀ d i : Nat, i + d = P.length → ∀ σ1 : zH, zFr σ σ1 r3 7 → zRows G σ1 r3 m3 ((P.take i).map (zsifP D)).flatten (zcum 0 ((P.take i).map (zsifP D))) → ∀ (x0 : Option Value) (x1 : Option Value), zWP G kX3_sift (zFM G kX3_sift.2.2.2.1 Q) 3 [some (.ref h), some (.ref r1), some (.ref n), some (.ref r3), some (.int (nI i)), x0, x1] [] σ1 nx 0 0 := by
    intro d
    induction d with
    | zero =>
      intro i hi σ1 f1 t1 x0 x1
      have g1 : zHas G σ1 r1 m1 P := h1.ap f1 a13
      refine z_iload dX3_sift_3 rfl ?_
      refine z_aload_n dX3_sift_5 rfl ?_
      refine z_callV dX3_sift_6 cv_X3_161 (c_X9_parts g1) rfl g1.c rfl rfl ⟨(Nat.le_of_ble_eq_true rfl), (Nat.le_of_ble_eq_true rfl)⟩ (Nat.le_of_ble_eq_true rfl) (Nat.le_of_ble_eq_true rfl) (Nat.le_of_ble_eq_true rfl) (fun v σ2 nx2 hx2 hq2 => ?_)
      obtain ⟨rfl, rfl, rfl⟩ := hq2
      rw [zcum_len]
      refine z_icmp_ge (tgt := 85) dX3_sift_9 (by decide) (fun _ => ?_) (fun q => absurd (nI_le (by omega) (by omega)) q)
      rw [show P.take i = P from List.take_of_length_le (by omega)] at t1
      exact z_vret dX3_sift_85 rfl (Nat.le_of_ble_eq_true rfl) (Nat.le_of_ble_eq_true rfl) (hQ _ _ _ ⟨rfl, t1, f1, rfl⟩)
    | succ d ih =>
      intro i hi σ1 f1 t1 x0 x1
      have g1 : zHas G σ1 r1 m1 P := h1.ap f1 a13
      have hp : P[i]? = some (P[i]'(by omega)) := List.getElem?_eq_getElem _
      generalize P[i]'(by omega) = p at hp
      refine z_iload dX3_sift_3 rfl ?_
      refine z_aload_n dX3_sift_5 rfl ?_
      refine z_callV dX3_sift_6 cv_X3_161 (c_X9_parts g1) rfl g1.c rfl rfl ⟨(Nat.le_of_ble_eq_true rfl), (Nat.le_of_ble_eq_true rfl)⟩ (Nat.le_of_ble_eq_true rfl) (Nat.le_of_ble_eq_true rfl) (Nat.le_of_ble_eq_true rfl) (fun v σ2 nx2 hx2 hq2 => ?_)
      obtain ⟨rfl, rfl, rfl⟩ := hq2
      rw [zcum_len]
      refine z_icmp_ge (tgt := 85) dX3_sift_9 (by decide) (fun q => absurd q (nI_ge (show i < P.length by omega) (by omega))) (fun _ => ?_)
      refine z_aload_n dX3_sift_12 rfl ?_
      refine z_iload dX3_sift_13 rfl ?_
      refine z_callV dX3_sift_15 cv_X3_164 (c_X9_begin (j := i) g1 (by rw [zcum_len]; omega)) rfl g1.c rfl rfl ⟨(Nat.le_of_ble_eq_true rfl), (Nat.le_of_ble_eq_true rfl)⟩ (Nat.le_of_ble_eq_true rfl) (Nat.le_of_ble_eq_true rfl) (Nat.le_of_ble_eq_true rfl) (fun v σ2 nx2 hx2 hq2 => ?_)
      obtain ⟨rfl, rfl, rfl⟩ := hq2
      rw [zbeg_at (by omega)]
      refine z_istore dX3_sift_18 (by decide) ?_
      refine inner i p hp (fun σ3 f3 t3 y0 y1 => ?_) p.length 0 (by omega) σ2 f1 (by rw [List.take_zero, φ0, List.append_nil]; exact t1) _
      refine z_aload_n dX3_sift_75 rfl ?_
      refine z_callV dX3_sift_76 cv_X3_158 (c_X9_endPartition t3 (by rw [zcum_len, List.length_map, List.length_take]; omega)) rfl t3.c rfl rfl ⟨(Nat.le_of_ble_eq_true rfl), (Nat.le_of_ble_eq_true rfl)⟩ (Nat.le_of_ble_eq_true rfl) (Nat.le_of_ble_eq_true rfl) (Nat.le_of_ble_eq_true rfl) (fun v σ4 nx4 hx4 hq4 => ?_)
      obtain ⟨rfl, t4, f4, rfl⟩ := hq4
      refine z_inc1 dX3_sift_79 rfl (by decide) ?_
      refine z_goto (tgt := 3) dX3_sift_82 (by decide) ?_
      rw [nI_1]
      refine ih (i + 1) (by omega) σ4 (f3.tr f4) ?_ _ _
      rw [zflatz (zsifP D) hp, zcumz (zsifP D) hp]
      exact t4
  refine z_iconst (v := 0) dX3_sift_0 (by decide) ?_
  refine z_istore dX3_sift_1 (by decide) ?_
  exact outer P.length 0 (by omega) σ zFr.rf (by rw [List.take_zero]; exact h3) _ _
set_option maxRecDepth 100000 in
/-- joinInOrder: a broad join's rows -/
theorem c_X3_joinInOrder {G : zG} {σ : zH} {nx h r1 r2 r3 m1 m2 m3 : Nat} {hs : List Value} {P S : List zP2} (hh : σ h = some (.inr (4, hs))) (h1 : zHas G σ r1 m1 P) (h2 : zHas G σ r2 m2 S) (h3 : zRows G σ r3 m3 [] []) (a13 : zAp r1 r3) (a23 : zAp r2 r3) (ah : h < r3 ∨ r3 + 7 ≤ h) (hb : (P.map (zfmP S.flatten)).flatten.length ≤ m3) : zM G yX3_joinInOrder kX3_joinInOrder [.ref h, .ref r1, .ref r2, .ref r3] σ nx (fun v σ' nx' => v = none ∧ zHas G σ' r3 m3 (P.map (zfmP S.flatten)) ∧ zFr σ σ' r3 7 ∧ nx' = nx) := by
  refine zM.of2 (ls := [some (.ref h), some (.ref r1), some (.ref r2), some (.ref r3), none, none]) (by decide +kernel) ⟨rfl, rfl, rfl⟩ (Nat.le_of_ble_eq_true rfl) (fun _ h => h) (fun Q hQ => ?_)
  have hl := h1.len
  have φ0 : (zfmP S.flatten) [] = [] := rfl
  have φs : ∀ (l : zP2) (q : Int32 × Int32), (zfmP S.flatten) (l ++ [q]) = (zfmP S.flatten) l ++ (zmatP S.flatten) q := fun l q => zfm_snoc l S.flatten q
  have inner : ∀ (i : Nat) (p : zP2), P[i]? = some p → (∀ σ2 : zH, zFr σ σ2 r3 7 → zRows G σ2 r3 m3 (((P.take i).map (zfmP S.flatten)).flatten ++ (zfmP S.flatten) p) (zcum 0 ((P.take i).map (zfmP S.flatten))) → ∀ (x0 : Option Value), zWP G kX3_joinInOrder (zFM G kX3_joinInOrder.2.2.2.1 Q) 55 [some (.ref h), some (.ref r1), some (.ref r2), some (.ref r3), some (.int (nI i)), x0] [] σ2 nx 0 0) →
      ∀ d j : Nat, j + d = p.length → ∀ σ1 : zH, zFr σ σ1 r3 7 → zRows G σ1 r3 m3 (((P.take i).map (zfmP S.flatten)).flatten ++ (zfmP S.flatten) (p.take j)) (zcum 0 ((P.take i).map (zfmP S.flatten))) → ∀ (_ : True), zWP G kX3_joinInOrder (zFM G kX3_joinInOrder.2.2.2.1 Q) 20 [some (.ref h), some (.ref r1), some (.ref r2), some (.ref r3), some (.int (nI i)), some (.int (nI ((P.take i).flatten.length + j)))] [] σ1 nx 0 0 := by
    intro i p hp kk d
    have hip := zR_lt hp
    have hend := zcum_at hp
    have hcl : (P.take i).flatten.length + p.length ≤ 300 := by
      have := congrArg List.length (congrArg List.flatten (zpre_flat hp))
      rw [List.flatten_append, List.flatten_cons, List.length_append, List.length_append] at this
      omega
    induction d with
    | zero =>
      intro j hj σ1 f1 t1 _
      have g1 : zHas G σ1 r1 m1 P := h1.ap f1 a13
      refine z_iload dX3_joinInOrder_20 rfl ?_
      refine z_aload_n dX3_joinInOrder_22 rfl ?_
      refine z_iload dX3_joinInOrder_23 rfl ?_
      refine z_callV dX3_joinInOrder_25 cv_X3_167 (c_X9_end g1 hend) rfl g1.c rfl rfl ⟨(Nat.le_of_ble_eq_true rfl), (Nat.le_of_ble_eq_true rfl)⟩ (Nat.le_of_ble_eq_true rfl) (Nat.le_of_ble_eq_true rfl) (Nat.le_of_ble_eq_true rfl) (fun v σ2 nx2 hx2 hq2 => ?_)
      obtain ⟨rfl, rfl, rfl⟩ := hq2
      refine z_icmp_ge (tgt := 55) dX3_joinInOrder_28 (by decide) (fun _ => ?_) (fun q => absurd (nI_le (by omega) (by omega)) q)
      rw [show p.take j = p from List.take_of_length_le (by omega)] at t1
      exact kk σ2 f1 t1 _
    | succ d ih =>
      intro j hj σ1 f1 t1 _
      have g1 : zHas G σ1 r1 m1 P := h1.ap f1 a13
      have hq : p[j]? = some (p[j]'(by omega)) := List.getElem?_eq_getElem _
      generalize p[j]'(by omega) = z at hq
      have hg := zflat_at hp hq
      have e : (zfmP S.flatten) (p.take (j + 1)) = (zfmP S.flatten) (p.take j) ++ (zmatP S.flatten) z := by rw [ztake hq, φs]
      have hcap : ((P.take i).map (zfmP S.flatten)).flatten.length + ((zfmP S.flatten) (p.take j)).length + ((zmatP S.flatten) z).length ≤ m3 := by
        have c1 := zmapcap (zfmP S.flatten) hp
        have c2 := zphi φ0 φs p (j + 1)
        rw [e, List.length_append] at c2
        have c3 := hb
        omega
      refine z_iload dX3_joinInOrder_20 rfl ?_
      refine z_aload_n dX3_joinInOrder_22 rfl ?_
      refine z_iload dX3_joinInOrder_23 rfl ?_
      refine z_callV dX3_joinInOrder_25 cv_X3_167 (c_X9_end g1 hend) rfl g1.c rfl rfl ⟨(Nat.le_of_ble_eq_true rfl), (Nat.le_of_ble_eq_true rfl)⟩ (Nat.le_of_ble_eq_true rfl) (Nat.le_of_ble_eq_true rfl) (Nat.le_of_ble_eq_true rfl) (fun v σ2 nx2 hx2 hq2 => ?_)
      obtain ⟨rfl, rfl, rfl⟩ := hq2
      refine z_icmp_ge (tgt := 55) dX3_joinInOrder_28 (by decide) (fun q => absurd q (nI_ge (show (P.take i).flatten.length + j < (P.take i).flatten.length + p.length by omega) (by omega))) (fun _ => ?_)
      have g2 : zHas G σ2 r2 m2 S := h2.ap f1 a23
      have gh : σ2 h = some (.inr (4, hs)) := (f1 h (by omega)).trans hh
      refine z_aload_n dX3_joinInOrder_31 rfl ?_
      refine z_aload_n dX3_joinInOrder_32 rfl ?_
      refine z_iload dX3_joinInOrder_33 rfl ?_
      refine z_callV dX3_joinInOrder_35 cv_X3_147 (c_X9_key g1 hg) rfl g1.c rfl rfl ⟨(Nat.le_of_ble_eq_true rfl), (Nat.le_of_ble_eq_true rfl)⟩ (Nat.le_of_ble_eq_true rfl) (Nat.le_of_ble_eq_true rfl) (Nat.le_of_ble_eq_true rfl) (fun v σ3 nx3 hx3 hq3 => ?_)
      obtain ⟨rfl, rfl, rfl⟩ := hq3
      refine z_aload_n dX3_joinInOrder_38 rfl ?_
      refine z_iload dX3_joinInOrder_39 rfl ?_
      refine z_callV dX3_joinInOrder_41 cv_X3_151 (c_X9_value g1 hg) rfl g1.c rfl rfl ⟨(Nat.le_of_ble_eq_true rfl), (Nat.le_of_ble_eq_true rfl)⟩ (Nat.le_of_ble_eq_true rfl) (Nat.le_of_ble_eq_true rfl) (Nat.le_of_ble_eq_true rfl) (fun v σ3 nx3 hx3 hq3 => ?_)
      obtain ⟨rfl, rfl, rfl⟩ := hq3
      refine z_aload_n dX3_joinInOrder_44 rfl ?_
      refine z_aload_n dX3_joinInOrder_45 rfl ?_
      refine z_callV dX3_joinInOrder_46 cv_X3_205 (c_X3_addMatches g2 t1 a23 (by rw [List.length_append]; exact hcap)) rfl gh rfl rfl ⟨(Nat.le_of_ble_eq_true rfl), (Nat.le_of_ble_eq_true rfl)⟩ (Nat.le_of_ble_eq_true rfl) (Nat.le_of_ble_eq_true rfl) (Nat.le_of_ble_eq_true rfl) (fun v σ3 nx3 hx3 hq3 => ?_)
      obtain ⟨rfl, t3, f3, rfl⟩ := hq3
      refine z_inc1 dX3_joinInOrder_49 rfl (by decide) ?_
      refine z_goto (tgt := 20) dX3_joinInOrder_52 (by decide) ?_
      rw [nI_1, Nat.add_assoc]
      exact ih (j + 1) (by omega) σ3 (f1.tr f3) (by rw [e, ← List.append_assoc]; exact t3) trivial
  have outer : ∀ d i : Nat, i + d = P.length → ∀ σ1 : zH, zFr σ σ1 r3 7 → zRows G σ1 r3 m3 ((P.take i).map (zfmP S.flatten)).flatten (zcum 0 ((P.take i).map (zfmP S.flatten))) → ∀ (x0 : Option Value), zWP G kX3_joinInOrder (zFM G kX3_joinInOrder.2.2.2.1 Q) 3 [some (.ref h), some (.ref r1), some (.ref r2), some (.ref r3), some (.int (nI i)), x0] [] σ1 nx 0 0 := by
    intro d
    induction d with
    | zero =>
      intro i hi σ1 f1 t1 x0
      have g1 : zHas G σ1 r1 m1 P := h1.ap f1 a13
      refine z_iload dX3_joinInOrder_3 rfl ?_
      refine z_aload_n dX3_joinInOrder_5 rfl ?_
      refine z_callV dX3_joinInOrder_6 cv_X3_161 (c_X9_parts g1) rfl g1.c rfl rfl ⟨(Nat.le_of_ble_eq_true rfl), (Nat.le_of_ble_eq_true rfl)⟩ (Nat.le_of_ble_eq_true rfl) (Nat.le_of_ble_eq_true rfl) (Nat.le_of_ble_eq_true rfl) (fun v σ2 nx2 hx2 hq2 => ?_)
      obtain ⟨rfl, rfl, rfl⟩ := hq2
      rw [zcum_len]
      refine z_icmp_ge (tgt := 65) dX3_joinInOrder_9 (by decide) (fun _ => ?_) (fun q => absurd (nI_le (by omega) (by omega)) q)
      rw [show P.take i = P from List.take_of_length_le (by omega)] at t1
      exact z_vret dX3_joinInOrder_65 rfl (Nat.le_of_ble_eq_true rfl) (Nat.le_of_ble_eq_true rfl) (hQ _ _ _ ⟨rfl, t1, f1, rfl⟩)
    | succ d ih =>
      intro i hi σ1 f1 t1 x0
      have g1 : zHas G σ1 r1 m1 P := h1.ap f1 a13
      have hp : P[i]? = some (P[i]'(by omega)) := List.getElem?_eq_getElem _
      generalize P[i]'(by omega) = p at hp
      refine z_iload dX3_joinInOrder_3 rfl ?_
      refine z_aload_n dX3_joinInOrder_5 rfl ?_
      refine z_callV dX3_joinInOrder_6 cv_X3_161 (c_X9_parts g1) rfl g1.c rfl rfl ⟨(Nat.le_of_ble_eq_true rfl), (Nat.le_of_ble_eq_true rfl)⟩ (Nat.le_of_ble_eq_true rfl) (Nat.le_of_ble_eq_true rfl) (Nat.le_of_ble_eq_true rfl) (fun v σ2 nx2 hx2 hq2 => ?_)
      obtain ⟨rfl, rfl, rfl⟩ := hq2
      rw [zcum_len]
      refine z_icmp_ge (tgt := 65) dX3_joinInOrder_9 (by decide) (fun q => absurd q (nI_ge (show i < P.length by omega) (by omega))) (fun _ => ?_)
      refine z_aload_n dX3_joinInOrder_12 rfl ?_
      refine z_iload dX3_joinInOrder_13 rfl ?_
      refine z_callV dX3_joinInOrder_15 cv_X3_164 (c_X9_begin (j := i) g1 (by rw [zcum_len]; omega)) rfl g1.c rfl rfl ⟨(Nat.le_of_ble_eq_true rfl), (Nat.le_of_ble_eq_true rfl)⟩ (Nat.le_of_ble_eq_true rfl) (Nat.le_of_ble_eq_true rfl) (Nat.le_of_ble_eq_true rfl) (fun v σ2 nx2 hx2 hq2 => ?_)
      obtain ⟨rfl, rfl, rfl⟩ := hq2
      rw [zbeg_at (by omega)]
      refine z_istore dX3_joinInOrder_18 (by decide) ?_
      refine inner i p hp (fun σ3 f3 t3 y0 => ?_) p.length 0 (by omega) σ2 f1 (by rw [List.take_zero, φ0, List.append_nil]; exact t1) trivial
      refine z_aload_n dX3_joinInOrder_55 rfl ?_
      refine z_callV dX3_joinInOrder_56 cv_X3_158 (c_X9_endPartition t3 (by rw [zcum_len, List.length_map, List.length_take]; omega)) rfl t3.c rfl rfl ⟨(Nat.le_of_ble_eq_true rfl), (Nat.le_of_ble_eq_true rfl)⟩ (Nat.le_of_ble_eq_true rfl) (Nat.le_of_ble_eq_true rfl) (Nat.le_of_ble_eq_true rfl) (fun v σ4 nx4 hx4 hq4 => ?_)
      obtain ⟨rfl, t4, f4, rfl⟩ := hq4
      refine z_inc1 dX3_joinInOrder_59 rfl (by decide) ?_
      refine z_goto (tgt := 3) dX3_joinInOrder_62 (by decide) ?_
      rw [nI_1]
      refine ih (i + 1) (by omega) σ4 (f3.tr f4) ?_ _
      rw [zflatz (zfmP S.flatten) hp, zcumz (zfmP S.flatten) hp]
      exact t4
  refine z_iconst (v := 0) dX3_joinInOrder_0 (by decide) ?_
  refine z_istore dX3_joinInOrder_1 (by decide) ?_
  exact outer P.length 0 (by omega) σ zFr.rf (by rw [List.take_zero]; exact h3) _
