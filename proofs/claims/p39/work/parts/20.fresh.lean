/-! Holding: fresh rows -/
def zLin (nt : zNT) (i : Nat) : Int32 := (nt.getD i zdf).2.2.1 12
theorem zLin_at {nt : zNT} {i : Nat} {e : zNX} (h : nt[i]? = some e) : zLin nt i = e.2.2.1 12 := by rw [zLin, List.getD_eq_getElem?_getD, h]; rfl
theorem zLin_lt {nt : zNT} (hw : zWf nt) (hl : nt.length ≤ 14) : ∀ i, i < nt.length → (∀ j, j < 32 → bt (zLin nt i) j = true → j ≤ i) ∧ bt (zLin nt i) i = true := by
  intro i
  induction i using Nat.strongRecOn with
  | _ i ih =>
    intro hi
    have he : nt[i]? = some (nt[i]'hi) := List.getElem?_eq_getElem _
    generalize nt[i]'hi = e at he
    obtain ⟨f, s, p, k6, -, hf, -, hs, -, -, -, -, -, -, -, -, -, -, hb⟩ := hw i e he
    rw [zLin_at he]
    refine ⟨fun j hj hbt => ?_, by rw [hb i (by omega)]; simp⟩
    rw [hb j hj] at hbt
    simp only [Bool.or_eq_true, Bool.and_eq_true, decide_eq_true_eq] at hbt
    rcases hbt with (h | ⟨h1, h2⟩) | ⟨h1, h2⟩
    · omega
    · have a := (hf h1).1
      have := (ih f a (by omega)).1 j hj h2
      omega
    · have a := (hs h1).1
      have := (ih s a (by omega)).1 j hj h2
      omega
theorem zLin_tr {nt : zNT} (hw : zWf nt) (hl : nt.length ≤ 14) : ∀ i, i < nt.length → ∀ j, j < 32 → bt (zLin nt i) j = true → ∀ m, m < 32 → bt (zLin nt j) m = true → bt (zLin nt i) m = true := by
  intro i
  induction i using Nat.strongRecOn with
  | _ i ih =>
    intro hi j hj hij m hm hjm
    have he : nt[i]? = some (nt[i]'hi) := List.getElem?_eq_getElem _
    generalize nt[i]'hi = e at he
    obtain ⟨f, s, p, k6, -, hf, -, hs, -, -, -, -, -, -, -, -, -, -, hb⟩ := hw i e he
    rw [zLin_at he] at hij ⊢
    rw [hb j hj] at hij
    rw [hb m hm]
    simp only [Bool.or_eq_true, Bool.and_eq_true, decide_eq_true_eq] at hij ⊢
    rcases hij with (h | ⟨h1, h2⟩) | ⟨h1, h2⟩
    · subst h
      rw [zLin_at he, hb m hm] at hjm
      simpa only [Bool.or_eq_true, Bool.and_eq_true, decide_eq_true_eq] using hjm
    · have a := (hf h1).1
      exact Or.inl (Or.inr ⟨h1, ih f a (by omega) j hj h2 m hm hjm⟩)
    · have a := (hs h1).1
      exact Or.inr ⟨h1, ih s a (by omega) j hj h2 m hm hjm⟩
/-- a holding: the rows of the numbers that are fresh are what the nodes hold -/
def zHo (G : zG) (σ : zH) (g h : Nat) (ip : Bool) (lim : Nat) (nt : zNT) (fr : Int32) : Prop := zHB G σ g h ip nt fr ∧ ∀ i, i < 14 → bt fr i = true → i < nt.length ∧ zHas G σ (zhr nt ip i) (zhc nt i) (zcon ip lim nt i)
/-- the graph and a holding, and how they lie -/
def zGH (G : zG) (σ : zH) (g h hi : Nat) (ip : Bool) (lim : Nat) (nt : zNT) (fr : Int32) : Prop := zGr G σ g hi nt (nI lim) ∧ zHo G σ g h ip lim nt fr ∧ g + 24 ≤ h ∧ h + 8 ≤ hi
/-- what lies outside the rows of the nodes -/
def zOut (nt : zNT) (ip : Bool) (b : Nat) : Prop := ∀ (i : Nat) (e : zNX), nt[i]? = some e → b < zrr ip e.1 ∨ zrr ip e.1 + 7 ≤ b
theorem zOut_lo {nt : zNT} {ip : Bool} {hi b : Nat} (ly : zLy nt hi) (hb : b < hi) : zOut nt ip b := fun i e he => by
  have := ly.1 i e he
  have := zrr_b ip e.1
  omega
theorem zOut_nd {nt : zNT} {ip : Bool} {hi i b : Nat} {e : zNX} (ly : zLy nt hi) (he : nt[i]? = some e) (h1 : e.1 ≤ b) (h2 : b < e.1 + 8) : zOut nt ip b := fun j x hx => by
  have := zrr_b ip x.1
  by_cases q : j = i
  · subst q
    rw [he] at hx
    cases hx
    omega
  · have := ly.ap q hx he
    omega
theorem zOut_op {nt : zNT} {ip : Bool} {hi i b : Nat} {e : zNX} (ly : zLy nt hi) (he : nt[i]? = some e) (h1 : zrr (!ip) e.1 ≤ b) (h2 : b < zrr (!ip) e.1 + 7) : zOut nt ip b := fun j x hx => by
  have := zrr_b ip x.1
  have := zrr_b (!ip) e.1
  have := zrr_o ip e.1
  by_cases q : j = i
  · subst q
    rw [he] at hx
    cases hx
    omega
  · have := ly.ap q hx he
    omega
theorem zOut_E {G : zG} {σ : zH} {g h b cap : Nat} {ip : Bool} {nt : zNT} {fr : Int32} {f : Nat → Option Nat} (hh : zHB G σ g h ip nt fr) (hb : σ b = some (zE G cap f)) : zOut nt ip b := fun i e he => by
  by_cases q : b < zrr ip e.1 ∨ zrr ip e.1 + 7 ≤ b
  · exact q
  · exfalso
    obtain ⟨R, E, kf, vf, ef, h1, ⟨h2, h3⟩, ⟨h4, h5⟩, ⟨h6, h7⟩, -⟩ := hh.2.2 i e he
    generalize zrr ip e.1 = r at *
    rcases (show b = r ∨ b = r + 1 ∨ b = r + 1 + 1 ∨ b = r + 3 ∨ b = r + 3 + 1 ∨ b = r + 5 ∨ b = r + 5 + 1 by omega) with e | e | e | e | e | e | e <;> subst e <;> simp_all [zRC, zE, zI]
/-- nothing changed but a holding and the rows of its nodes -/
def zHf (nt : zNT) (ip : Bool) (h : Nat) (σ σ' : zH) : Prop := ∀ b, (b < h ∨ h + 8 ≤ b) → zOut nt ip b → σ' b = σ b
theorem zHf.rf {nt : zNT} {ip : Bool} {h : Nat} {σ : zH} : zHf nt ip h σ σ := fun _ _ _ => rfl
theorem zGr.frh {G : zG} {σ σ' : zH} {g h hi : Nat} {ip : Bool} {nt : zNT} {lim : Int32} {fr : Int32} (hg : zGr G σ g hi nt lim) (hh : zHB G σ g h ip nt fr) (h1 : g + 24 ≤ h) (h2 : h + 8 ≤ hi) (hf : zHf nt ip h σ σ') : zGr G σ' g hi nt lim := by
  have ly := hg.ly
  obtain ⟨q1, q2, q3, q4, q5, q6, q7⟩ := hg
  have lo : ∀ b, b < h → σ' b = σ b := fun b hb => hf b (by omega) (zOut_lo ly (by omega))
  refine ⟨(lo g (by omega)).trans q1, ?_, q3.fr fun b a c => lo b (by omega), fun i e he => ⟨?_, (q4 i e he).2⟩, q5, q6, q7⟩
  · obtain ⟨md, ed, h1, h2⟩ := q2
    refine ⟨md, ed, (lo _ (by omega)).trans h1, ?_⟩
    rcases h2 with h2 | ⟨cap, f, h2, h3, h4, h5⟩
    · exact Or.inl h2
    · exact Or.inr ⟨cap, f, (hf _ (by omega) (zOut_E hh h2)).trans h2, h3, h4, h5⟩
  · have := ly.1 i e he
    exact (q4 i e he).1.fr fun b a c => hf b (by omega) (zOut_nd ly he a c)
/-- the other holding stays -/
theorem zHo.op {G : zG} {σ σ' : zH} {g h h' hi lim : Nat} {ip : Bool} {nt : zNT} {fr : Int32} (hh : zHo G σ g h' (!ip) lim nt fr) (ly : zLy nt hi) (h1 : h' + 8 ≤ hi) (h2 : h + 8 ≤ h' ∨ h' + 8 ≤ h) (h3 : h + 8 ≤ hi) (hf : zHf nt ip h σ σ') : zHo G σ' g h' (!ip) lim nt fr := by
  obtain ⟨⟨a1, ⟨R, E, a2⟩, a3⟩, a4⟩ := hh
  have lo : ∀ b, (b < h ∨ h + 8 ≤ b) → b < hi → σ' b = σ b := fun b hb q => hf b hb (zOut_lo ly q)
  have up : ∀ (i : Nat) (e : zNX), nt[i]? = some e → ∀ b, zrr (!ip) e.1 ≤ b → b < zrr (!ip) e.1 + 7 → σ' b = σ b := fun i e he b b1 b2 => hf b (by have := ly.1 i e he; have := zrr_b (!ip) e.1; omega) (zOut_op ly he b1 b2)
  refine ⟨⟨(lo _ (by omega) (by omega)).trans a1, ⟨R, E, a2.fr fun b b1 b2 => lo b (by omega) (by omega)⟩, fun i e he => ?_⟩, fun i hi hb => ?_⟩
  · obtain ⟨R, E, a5⟩ := a3 i e he
    exact ⟨R, E, a5.fr (up i e he)⟩
  · obtain ⟨q1, q2⟩ := a4 i hi hb
    refine ⟨q1, ?_⟩
    have he : nt[i]? = some (nt[i]'q1) := List.getElem?_eq_getElem _
    rw [zhr_at he] at q2 ⊢
    exact q2.fr (up i _ he)
theorem zHC_set {g h : Nat} {ip : Bool} {fr x : Int32} : (Sum.inr (4, [Value.ref g, .int (if ip then 1 else 0), .ref (h + 1), .int fr].set 3 (.int x)) : va_E) = zHC g h ip x := rfl
theorem zHB.fresh {G : zG} {σ : zH} {g h hi : Nat} {ip : Bool} {nt : zNT} {fr x : Int32} (hh : zHB G σ g h ip nt fr) (ly : zLy nt hi) (l2 : h + 8 ≤ hi) : zHB G (zu σ h (zHC g h ip x)) g h ip nt x := by
  obtain ⟨h1, ⟨R, E, h4⟩, h5⟩ := hh
  refine ⟨zu_eq _ _ _, ⟨R, E, h4.fr fun b a c => zu_ne (by omega)⟩, fun i e he => ?_⟩
  obtain ⟨R, E, h6⟩ := h5 i e he
  have := ly.1 i e he
  have := zrr_b ip e.1
  exact ⟨R, E, h6.fr fun b a c => zu_ne (by omega)⟩
set_option maxRecDepth 100000 in
set_option maxHeartbeats 2000000 in
theorem c_X3_freshRows {G : zG} {σ : zH} {nx g h hi i lim : Nat} {ip : Bool} {fr : Int32} {nt : zNT} (hG : zKap G) (hgh : zGH G σ g h hi ip lim nt fr) (hw : zWf nt) (hlim : lim ≤ 1000) (hil : i < nt.length) :
    zM G yX3_freshRows kX3_freshRows [.ref h, .int (nI i)] σ nx (fun v σ' nx' => v = some (.ref (zhr nt ip i)) ∧ (∃ fr', zGH G σ' g h hi ip lim nt fr' ∧ (∀ j, j < 14 → bt fr j = true → bt fr' j = true) ∧ ∀ j, j < 14 → bt (zLin nt i) j = true → bt fr' j = true) ∧ zHf nt ip h σ σ' ∧ nx' = nx) := by
  refine zM.of2 (ls := [some (.ref h), some (.int (nI i)), none, none]) (by decide +kernel) ⟨rfl, rfl, rfl⟩ (Nat.le_of_ble_eq_true rfl) (fun _ h => h) (fun Q hQ => ?_)
  obtain ⟨gr, ho, l1, l2⟩ := hgh
  have hl14 : nt.length ≤ 14 := gr.2.2.2.2.2.1
  have ly := gr.ly
  have he : nt[i]? = some (nt[i]'hil) := List.getElem?_eq_getElem _
  generalize nt[i]'hil = e at he
  obtain ⟨stale, hst⟩ : ∃ z, z = e.2.2.1 12 &&& (fr ^^^ (-1)) := ⟨_, rfl⟩
  have sb : ∀ j, j < 14 → (bt stale j = true ↔ bt (zLin nt i) j = true ∧ bt fr j = false) := by
    intro j hj
    rw [hst, b_and, b_xor, b_m1 j (by omega), zLin_at he]
    cases bt fr j <;> simp
  have inv_len := fun (j : Nat) (hj : j < nt.length) => (zLin_lt hw hl14 j hj).1
  have loop : ∀ d m : Nat, m + d = 14 → ∀ (σ1 : zH) (fr1 : Int32), zHf nt ip h σ σ1 → zHo G σ1 g h ip lim nt fr1 → (∀ j, j < 14 → bt fr j = true → bt fr1 j = true) → (∀ j, j < m → bt (zLin nt i) j = true → bt fr1 j = true) →
      zWP G kX3_freshRows (zFM G kX3_freshRows.2.2.2.1 Q) 21 [some (.ref h), some (.int (nI i)), some (.int stale), some (.int (nI m))] [] σ1 nx 0 0 := by
    intro d
    induction d with
    | zero =>
      intro m hm σ1 fr1 f1 o1 b1 b2
      have e14 : m = 14 := by omega
      subst e14
      refine z_iload_n dX3_freshRows_21 rfl ?_
      refine z_bipush (v := 14) dX3_freshRows_22 (by decide) ?_
      refine z_icmp_ge (tgt := 70) dX3_freshRows_24 (by decide) (fun _ => ?_) (fun q => absurd (nI_le (Nat.le_refl 14) (by omega)) q)
      refine z_aload_n dX3_freshRows_70 rfl ?_
      refine z_iload_n dX3_freshRows_71 rfl ?_
      refine z_callV dX3_freshRows_72 cv_X3_57 (c_X3_ofn o1.1 (gr.frh ho.1 l1 l2 f1) hil) rfl o1.1.1 rfl rfl ⟨(Nat.le_of_ble_eq_true rfl), (Nat.le_of_ble_eq_true rfl)⟩ (Nat.le_of_ble_eq_true rfl) (Nat.le_of_ble_eq_true rfl) (Nat.le_of_ble_eq_true rfl) (fun v σ2 nx2 hx2 hq2 => ?_)
      obtain ⟨rfl, rfl, rfl⟩ := hq2
      exact z_aret dX3_freshRows_75 rfl (Or.inl ⟨_, rfl⟩) (Nat.le_of_ble_eq_true rfl) (Nat.le_of_ble_eq_true rfl) (hQ _ _ _ ⟨rfl, ⟨fr1, ⟨gr.frh ho.1 l1 l2 f1, o1, l1, l2⟩, b1, b2⟩, f1, rfl⟩)
    | succ d ih =>
      intro m hm σ1 fr1 f1 o1 b1 b2
      have gr1 := gr.frh ho.1 l1 l2 f1
      refine z_iload_n dX3_freshRows_21 rfl ?_
      refine z_bipush (v := 14) dX3_freshRows_22 (by decide) ?_
      refine z_icmp_ge (tgt := 70) dX3_freshRows_24 (by decide) (fun q => absurd q ((show ¬ nI 14 ≤ nI m from nI_ge (by omega) (by omega)))) (fun _ => ?_)
      refine z_iload_n dX3_freshRows_27 rfl ?_
      refine z_iload_n dX3_freshRows_28 rfl ?_
      refine z_callS dX3_freshRows_29 cv_X3_49 (c_X11_has (by omega)) rfl rfl ⟨(Nat.le_of_ble_eq_true rfl), (Nat.le_of_ble_eq_true rfl)⟩ (Nat.le_of_ble_eq_true rfl) (Nat.le_of_ble_eq_true rfl) (Nat.le_of_ble_eq_true rfl) (fun v σ2 nx2 hx2 hq2 => ?_)
      obtain ⟨rfl, rfl, rfl⟩ := hq2
      by_cases hb : bt stale m = true
      · rw [if_pos hb]
        refine z_if_eq (tgt := 64) dX3_freshRows_32 (by decide) (fun q => absurd q ((by decide))) (fun _ => ?_)
        obtain ⟨s1, s2⟩ := (sb m (by omega)).mp hb
        have hmi : m ≤ i := inv_len i hil m (by omega) s1
        have hm2 : nt[m]? = some (nt[m]'(by omega)) := List.getElem?_eq_getElem _
        generalize nt[m]'(by omega) = x at hm2
        have hc := zcon_len hw hl14 ip lim m x hm2
        obtain ⟨f, s, p, k6, ⟨b3, b4, w1, w2, w3⟩, hf, hf0, hs, hs0, hp, hR, hR0, hc7, q0, q12, q3, q4, q5, hbt⟩ := hw m x hm2
        have hcon := zcon_at (ip := ip) (lim := lim) hm2 hl14 k6 hf hs
        have nx1 := gr1.2.2.2.1 m x hm2
        have ff : 1 ≤ x.2.1 → bt fr1 f = true := fun q => by
          refine b2 f (hf q).1 (zLin_tr hw hl14 i hil m (by omega) s1 f (by have := (hf q).1; omega) ?_)
          rw [zLin_at hm2, hbt f (by have := (hf q).1; omega)]
          have := (zLin_lt hw hl14 f (by have := (hf q).1; omega)).2
          rw [zLin] at this
          rw [this, decide_eq_true q, Bool.true_and, Bool.or_true, Bool.true_or]
        have fs : x.2.1 = 3 ∨ x.2.1 = 5 → bt fr1 s = true := fun q => by
          refine b2 s (hs q).1 (zLin_tr hw hl14 i hil m (by omega) s1 s (by have := (hs q).1; omega) ?_)
          rw [zLin_at hm2, hbt s (by have := (hs q).1; omega)]
          have := (zLin_lt hw hl14 s (by have := (hs q).1; omega)).2
          rw [zLin] at this
          rw [this, decide_eq_true q, Bool.true_and, Bool.or_true]
        have hu : x.2.1 = 3 → (zcon ip lim nt f).length + (zcon ip lim nt s).length ≤ 8 ∧ (zcon ip lim nt f).flatten.length + (zcon ip lim nt s).flatten.length ≤ zb x := fun q => by
          have a1 := (hf (by omega)).1
          have a2 := (hs (Or.inl q)).1
          have g1 : nt[f]? = some (nt[f]'(by omega)) := List.getElem?_eq_getElem _
          have g2 : nt[s]? = some (nt[s]'(by omega)) := List.getElem?_eq_getElem _
          have c1 := zcon_len hw hl14 ip lim f _ g1
          have c2 := zcon_len hw hl14 ip lim s _ g2
          obtain ⟨c3, c4⟩ := q3 q
          rw [List.getD_eq_getElem?_getD, g1, List.getD_eq_getElem?_getD, g2] at c3 c4
          simp only [Option.getD_some] at c3 c4
          refine ⟨?_, by omega⟩
          have n1 : (if ip then 1 else zw (nt[f]'(by omega))) + (if ip then 1 else zw (nt[s]'(by omega))) ≤ 8 := by cases ip <;> simp <;> omega
          omega
        refine z_aload_n dX3_freshRows_35 rfl ?_
        refine z_aload_n dX3_freshRows_36 rfl ?_
        refine z_getf dX3_freshRows_37 fl_X3_20 o1.1.1 rfl ?_
        refine z_iload_n dX3_freshRows_40 rfl ?_
        refine z_callV dX3_freshRows_41 cv_X3_28 (c_X2_at gr1) rfl gr1.1 rfl rfl ⟨(Nat.le_of_ble_eq_true rfl), (Nat.le_of_ble_eq_true rfl)⟩ (Nat.le_of_ble_eq_true rfl) (Nat.le_of_ble_eq_true rfl) (Nat.le_of_ble_eq_true rfl) (fun v σ3 nx3 hx3 hq3 => ?_)
        obtain ⟨rfl, rfl, rfl⟩ := hq3
        rw [znat_in hm2 hl14]
        refine z_aload_n dX3_freshRows_44 rfl ?_
        refine z_iload_n dX3_freshRows_45 rfl ?_
        refine z_callV dX3_freshRows_46 cv_X3_57 (c_X3_ofn o1.1 gr1 (show m < nt.length by omega)) rfl o1.1.1 rfl rfl ⟨(Nat.le_of_ble_eq_true rfl), (Nat.le_of_ble_eq_true rfl)⟩ (Nat.le_of_ble_eq_true rfl) (Nat.le_of_ble_eq_true rfl) (Nat.le_of_ble_eq_true rfl) (fun v σ3 nx3 hx3 hq3 => ?_)
        obtain ⟨rfl, rfl, rfl⟩ := hq3
        rw [zhr_at hm2]
        have hxi := ly.1 m x hm2
        have hxb := zrr_b ip x.1
        have inF : ∀ y, y < m → bt fr1 y = true → ∃ (i0 m0 : Nat) (x0 : zNX), nt[i0]? = some x0 ∧ i0 ≠ m ∧ nI y = nI i0 ∧ zHas G σ3 (zrr ip x0.1) m0 (zcon ip lim nt y) := fun y hy q => by
          obtain ⟨y1, y2⟩ := o1.2 y (by omega) q
          have hy2 : nt[y]? = some (nt[y]'y1) := List.getElem?_eq_getElem _
          rw [zhr_at hy2] at y2
          exact ⟨y, _, _, hy2, by omega, rfl, y2⟩
        have fillC := c_X3_fill (nx := nx3) (n := x.1) (k := x.2.1) (D := x.2.2.1) (R := x.2.2.2) (P := zcon ip lim nt f) (S := zcon ip lim nt s) (lim := lim) hG o1.1 gr1 hm2 k6 l1 l2 hlim
          (fun q => by rw [(hf q).2]; exact inF f (hf q).1 (ff q))
          (fun q => by rw [(hs q).2]; exact inF s (hs q).1 (fs q))
          (fun q => ⟨p, by have := (hp q).1; omega, by have := (hp q).2.1; omega, (hp q).2.2⟩) hc7 (by rw [← hcon]; exact hc.1) (by rw [← hcon]; have := hc.2.2; cases ip <;> simp at this <;> omega) hu
        refine z_callV dX3_freshRows_49 cv_X3_61 fillC rfl o1.1.1 rfl rfl ⟨(Nat.le_of_ble_eq_true rfl), (Nat.le_of_ble_eq_true rfl)⟩ (Nat.le_of_ble_eq_true rfl) (Nat.le_of_ble_eq_true rfl) (Nat.le_of_ble_eq_true rfl) (fun v σ4 nx4 hx4 hq4 => ?_)
        obtain ⟨rfl, t4, o4, f4, rfl⟩ := hq4
        rw [← hcon] at t4
        have f14 : zHf nt ip h σ σ4 := fun b hb2 hout => (f4 b (by omega) (hout m x hm2)).trans (f1 b hb2 hout)
        refine z_aload_n dX3_freshRows_52 rfl ?_
        refine z_aload_n dX3_freshRows_53 rfl ?_
        refine z_getf dX3_freshRows_54 fl_X3_42 o4.1 rfl ?_
        refine z_iload_n dX3_freshRows_57 rfl ?_
        refine z_callS dX3_freshRows_58 cv_X3_53 (c_X11_with (by omega)) rfl rfl ⟨(Nat.le_of_ble_eq_true rfl), (Nat.le_of_ble_eq_true rfl)⟩ (Nat.le_of_ble_eq_true rfl) (Nat.le_of_ble_eq_true rfl) (Nat.le_of_ble_eq_true rfl) (fun v σ5 nx5 hx5 hq5 => ?_)
        obtain ⟨rfl, rfl, rfl⟩ := hq5
        refine z_putf dX3_freshRows_61 fp_X3_42 o4.1 rfl rfl (Nat.le_of_ble_eq_true rfl) ?_
        rw [zHC_set]
        refine z_inc1 dX3_freshRows_64 rfl (by decide) ?_
        refine z_goto (tgt := 21) dX3_freshRows_67 (by decide) ?_
        rw [nI_1]
        refine ih (m + 1) (by omega) _ (zwith fr1 m) (fun b hb2 hout => (zu_ne (by omega)).trans (f14 b hb2 hout)) ⟨o4.fresh ly l2, fun j hj hbj => ?_⟩ (fun j hj hbj => ?_) (fun j hj hbj => ?_)
        · rw [bt_with _ (by omega) (by omega)] at hbj
          by_cases ejm : j = m
          · subst ejm
            rw [zhr_at hm2, zhc_at hm2]
            exact ⟨by omega, t4.fr fun b a c => zu_ne (by omega)⟩
          · simp only [ejm, decide_false, Bool.or_false] at hbj
            obtain ⟨y1, y2⟩ := o1.2 j hj hbj
            have hy2 : nt[j]? = some (nt[j]'y1) := List.getElem?_eq_getElem _
            have yi := ly.1 j _ hy2
            have yb := zrr_b ip (nt[j]'y1).1
            have ya := ly.ap ejm hy2 hm2
            rw [zhr_at hy2] at y2 ⊢
            exact ⟨y1, (y2.fr fun b a c => f4 b (by omega) (by omega)).fr fun b a c => zu_ne (by omega)⟩
        · rw [bt_with _ (by omega) (by omega), b1 j hj hbj]; rfl
        · rw [bt_with _ (by omega) (by omega)]
          by_cases ejm : j = m
          · simp [ejm]
          · rw [b2 j (by omega) hbj]; rfl
      · rw [if_neg hb]
        refine z_if_eq (tgt := 64) dX3_freshRows_32 (by decide) (fun _ => ?_) (fun q => absurd (rfl) q)
        refine z_inc1 dX3_freshRows_64 rfl (by decide) ?_
        refine z_goto (tgt := 21) dX3_freshRows_67 (by decide) ?_
        rw [nI_1]
        refine ih (m + 1) (by omega) σ2 fr1 f1 o1 b1 (fun j hj hbj => ?_)
        by_cases ejm : j = m
        · subst ejm
          refine b1 j (by omega) ?_
          cases hq : bt fr j with
          | true => rfl
          | false => exact absurd ((sb j (by omega)).mpr ⟨hbj, hq⟩) hb
        · exact b2 j (by omega) hbj
  refine z_aload_n dX3_freshRows_0 rfl ?_
  refine z_getf dX3_freshRows_1 fl_X3_20 ho.1.1 rfl ?_
  refine z_iload_n dX3_freshRows_4 rfl ?_
  refine z_callV dX3_freshRows_5 cv_X3_28 (c_X2_at gr) rfl gr.1 rfl rfl ⟨(Nat.le_of_ble_eq_true rfl), (Nat.le_of_ble_eq_true rfl)⟩ (Nat.le_of_ble_eq_true rfl) (Nat.le_of_ble_eq_true rfl) (Nat.le_of_ble_eq_true rfl) (fun v σ1 nx1 hx1 hq1 => ?_)
  obtain ⟨rfl, rfl, rfl⟩ := hq1
  rw [znat_in he hl14]
  refine z_getf dX3_freshRows_8 fl_X3_46 (gr.2.2.2.1 i e he).1.1 rfl ?_
  refine z_aload_n dX3_freshRows_11 rfl ?_
  refine z_getf dX3_freshRows_12 fl_X3_42 ho.1.1 rfl ?_
  refine z_iconst (v := (-1)) dX3_freshRows_15 (by decide) ?_
  refine z_ixor dX3_freshRows_16 ?_
  refine z_iand dX3_freshRows_17 ?_
  rw [← hst]
  refine z_istore_n dX3_freshRows_18 (by decide) ?_
  refine z_iconst (v := 0) dX3_freshRows_19 (by decide) ?_
  refine z_istore_n dX3_freshRows_20 (by decide) ?_
  exact loop 14 0 (by omega) σ1 fr zHf.rf ho (fun j _ q => q) (fun j hj _ => by omega)
