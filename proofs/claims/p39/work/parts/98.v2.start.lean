/-! the start: what the Statement gives is what a walk of the law stands on -/
theorem zkinds : ∀ k, k < 6 → (["SOURCE", "MAP", "FILTER", "UNION", "GROUP", "JOIN"] : List String).getD k "" = zKn k := by
  intro k hk
  rcases (show k = 0 ∨ k = 1 ∨ k = 2 ∨ k = 3 ∨ k = 4 ∨ k = 5 by omega) with h | h | h | h | h | h <;> subst h <;> rfl
theorem zArr {ty : FieldType} {args : Array Value} {s : State} (h : (Cond.arrayClass ty).before args s = true) (ho : ∀ C, ty ≠ .object C) : ∃ cA : ClassId, ArrOfT s cA ty ∧ va_RA s cA ty := by
  obtain ⟨cA, kA, comp, h1, h2, h3⟩ := Cond.arrayClass_spec h
  refine ⟨cA, fun n z => ⟨fun k h => (by cases h), kA, h2, comp, h3⟩, ?_⟩
  cases ty with
  | object C => exact absurd rfl (ho C)
  | _ => exact h1
theorem zArrO {C : String} {args : Array Value} {s : State} (h : (Cond.arrayOver (.object C)).before args s = true) : ∃ cA : ClassId, ArrOfT s cA (.object C) ∧ va_RA s cA (.object C) := by
  obtain ⟨comp, cA, kA, h1, -, h2, h3, h4⟩ := Cond.arrayOver_spec h
  exact ⟨cA, fun n z => ⟨fun k h => (by cases h), kA, h2, comp, h3⟩, kA, comp, h2, h3, h1, h4⟩
theorem zlen_lt {t : Term} {args : Array Value} {s : State} {a : Nat} {cell : Cell} {v : Value} (h : (Term.length t).eval args s none [] s = some v) (ht : t.eval args s none [] s = some (.ref a)) (hat : s.arrayAt? a = some cell) : cell.slots.size < 2147483648 := by
  by_cases hn : cell.slots.size < 2147483648
  · exact hn
  · simp [Term.eval, ht, hat, hn] at h
theorem zlen0 {n : Nat} (h : n < 2147483648) (h2 : n.toInt32 = Int32.ofNat 0) : n = 0 := (nI_eq (a := n) (b := 0) (by omega) (by omega)).mp h2
section
variable {p : Program} {s : State} {m : MethodId} {meth : Method} {c : Code} {b L : Nat} {xs : Nat → Int32}
theorem z_hts (C0 : lw_At p s m meth c b L xs) : ∀ w ∈ zW, w.before #[Value.ref b] s = true := fun w hw => C0.2.2.2.2.2.1 w (List.mem_filter.mp hw).1
theorem z_given (C0 : lw_At p s m meth c b L xs) : ∀ w ∈ flatC (Jvm.Cond.and given_1 narrow_1), w.before #[Value.ref b] s = true := flat_of_before _ C0.2.2.2.2.2.2.2.2.2
set_option maxRecDepth 100000 in
theorem z_kinds (C0 : lw_At p s m meth c b L xs) : ∃ ad : Nat → Nat, (∀ k, k < 6 → va_Z RX5 (zKn k) "LTaskgraphic$Kind;" (.ref (ad k)) (fun q => s.heap.size ≤ q) s s.heap) ∧ ∀ i j, i < 6 → j < 6 → ad i = ad j → i = j := by
  have hts := C0.2.2.2.2.2.1
  have hs := z_given C0
  obtain ⟨ad, h1, h2⟩ := va_Enof (args := #[Value.ref b]) (s := s) (E := RX5) (d := "LTaskgraphic$Kind;") (nm := ["SOURCE", "MAP", "FILTER", "UNION", "GROUP", "JOIN"]) (F := []) (A := fun q => s.heap.size ≤ q)
    (fun i hi => by
      rcases (show i = 0 ∨ i = 1 ∨ i = 2 ∨ i = 3 ∨ i = 4 ∨ i = 5 by simp at hi; omega) with h | h | h | h | h | h <;> subst h
      · exact hts _ (zTp1 (i := 73) rfl)
      · exact hts _ (zTp3 (i := 190) rfl)
      · exact hts _ (zTp3 (i := 201) rfl)
      · exact hts _ (zTp3 (i := 208) rfl)
      · exact hts _ (zTp3 (i := 215) rfl)
      · exact hts _ (zTp3 (i := 223) rfl))
    (hts _ (zTp1 (i := 8) rfl))
    (fun i hi => by
      rcases (show i = 0 ∨ i = 1 ∨ i = 2 ∨ i = 3 ∨ i = 4 ∨ i = 5 by simp at hi; omega) with h | h | h | h | h | h <;> subst h <;> exact hs _ (by decide +kernel))
    (fun q hq => nomatch hq)
    (fun i j hi hj hij => by
      rcases (show i = 0 ∨ i = 1 ∨ i = 2 ∨ i = 3 ∨ i = 4 ∨ i = 5 by simp at hi; omega) with h | h | h | h | h | h <;> rcases (show j = 0 ∨ j = 1 ∨ j = 2 ∨ j = 3 ∨ j = 4 ∨ j = 5 by simp at hj; omega) with g | g | g | g | g | g <;> subst h <;> subst g <;>
        first | exact absurd rfl hij | exact Or.inl (hs _ (by decide +kernel)) | exact Or.inr (hs _ (by decide +kernel)))
    (fun a ha => Nat.not_le.mpr ha)
  refine ⟨ad, fun k hk => ?_, fun i j hi hj e => h2 i j hi hj e⟩
  have := (h1 k hk).1
  rw [zkinds k hk] at this
  exact this
set_option maxRecDepth 100000 in
theorem z_first (C0 : lw_At p s m meth c b L xs) : ∃ t : Nat, va_Z RJx4a65c "DEFAULTCAPACITY_EMPTY_ELEMENTDATA" "[Ljava/lang/Object;" (.ref t) (fun q => s.heap.size ≤ q) s s.heap ∧ ∃ cell : Cell, s.heap[t]? = some cell ∧ s.isArrayOf cell (.object "java/lang/Object") ∧ cell.slots.size = 0 ∧ ¬ s.heap.size ≤ t := by
  have hts := C0.2.2.2.2.2.1
  have hs := z_given C0
  have h1 : (Cond.arrayOf (.static RJx4a65c "DEFAULTCAPACITY_EMPTY_ELEMENTDATA" "[Ljava/lang/Object;") (.object "java/lang/Object")).before #[Value.ref b] s = true := hs _ (by decide +kernel)
  have h2 : (Cond.eq (.length (.static RJx4a65c "DEFAULTCAPACITY_EMPTY_ELEMENTDATA" "[Ljava/lang/Object;")) (.int 0)).before #[Value.ref b] s = true := hs _ (by decide +kernel)
  have h3 := va_eqt h2
  obtain ⟨t, cell, ht, hat, hv⟩ := Term.length_spec h3
  obtain ⟨hcell, hkn, -, -⟩ := State.arrayAt?_spec hat
  obtain ⟨hof, -⟩ := Cond.arrayOf_spec h1 ht hcell
  have hlt : t < s.heap.size := (Array.getElem?_eq_some_iff.mp hcell).1
  refine ⟨t, va_Zref (hts _ (zTp1 (i := 57) rfl)) (hts _ (zTp1 (i := 5) rfl)) ht (fun a ha => Nat.not_le.mpr ha), cell, hcell, hof, ?_, Nat.not_le.mpr hlt⟩
  exact zlen0 (zlen_lt h3 ht hat) (Value.int.inj hv).symm
theorem z_str {k : Nat} {tx : String} (h1 : (Cond.stringRef RX11 k tx).before #[Value.ref b] s = true) (h2 : (Cond.exactly (.string RX11 k) "java/lang/String").before #[Value.ref b] s = true) : ∃ sa, vk_R RX11 k tx sa s := by
  obtain ⟨a, c, cell, k2, q1, -⟩ := Cond.exactly_spec h2
  exact ⟨a, vk_R.of h1 q1⟩
set_option maxRecDepth 100000 in
theorem z_strs (C0 : lw_At p s m meth c b L xs) : ∀ q ∈ zStr, ∃ sa, vk_R RX11 q.1 q.2 sa s := by
  have hts := C0.2.2.2.2.2.1
  have hs := z_given C0
  intro q hq
  simp only [zStr, List.mem_cons, List.mem_nil_iff, or_false] at hq
  rcases hq with rfl | rfl | rfl | rfl | rfl | rfl | rfl | rfl | rfl | rfl | rfl | rfl | rfl | rfl | rfl | rfl | rfl
  · exact z_str (hts _ (zTp3 (i := 232) rfl)) (hs _ (by decide +kernel))
  · exact z_str (hts _ (zTp3 (i := 188) rfl)) (hs _ (by decide +kernel))
  · exact z_str (hts _ (zTp3 (i := 206) rfl)) (hs _ (by decide +kernel))
  · exact z_str (hts _ (zTp3 (i := 213) rfl)) (hs _ (by decide +kernel))
  · exact z_str (hts _ (zTp3 (i := 220) rfl)) (hs _ (by decide +kernel))
  · exact z_str (hts _ (zTp5 (i := 185) rfl)) (hs _ (by decide +kernel))
  · exact z_str (hts _ (zTp4 (i := 18) rfl)) (hs _ (by decide +kernel))
  · exact z_str (hts _ (zTp4 (i := 23) rfl)) (hs _ (by decide +kernel))
  · exact z_str (hts _ (zTp4 (i := 24) rfl)) (hs _ (by decide +kernel))
  · exact z_str (hts _ (zTp5 (i := 149) rfl)) (hs _ (by decide +kernel))
  · exact z_str (hts _ (zTp3 (i := 181) rfl)) (hs _ (by decide +kernel))
  · exact z_str (hts _ (zTp3 (i := 68) rfl)) (hs _ (by decide +kernel))
  · exact z_str (hts _ (zTp5 (i := 162) rfl)) (hs _ (by decide +kernel))
  · exact z_str (hts _ (zTp3 (i := 28) rfl)) (hs _ (by decide +kernel))
  · exact z_str (hts _ (zTp4 (i := 34) rfl)) (hs _ (by decide +kernel))
  · exact z_str (hts _ (zTp5 (i := 102) rfl)) (hs _ (by decide +kernel))
  · exact z_str (hts _ (zTp5 (i := 115) rfl)) (hs _ (by decide +kernel))
set_option maxRecDepth 100000 in
theorem z_class (C0 : lw_At p s m meth c b L xs) : ∃ (dC : Nat → ClassId) (dI : Nat → Nat → Nat), ∀ (k : Nat) (q : vw_C), vwCl[k]? = some q → u_Kn s q.1 q.2.1 q.2.2 (dC k) (dI k) := by
  have hts := z_hts C0
  have all : ∀ q ∈ vwCl, ∃ (cC : ClassId) (iS : Nat → Nat), u_Kn s q.1 q.2.1 q.2.2 cC iS := by
    intro q hq
    simp only [vwCl, List.mem_cons, List.mem_nil_iff, or_false] at hq
    rcases hq with rfl | rfl | rfl | rfl | rfl | rfl | rfl | rfl | rfl | rfl | rfl | rfl
    · exact u_known (C := RJx4a65c) (T := TJx4a65c) (N := 3) (n := 3) hts zws_Jx4a65c (hts _ (zW_in (zTp1 (i := 45) rfl) rfl))
    · exact u_known (C := RX0) (T := TX0) (N := 6) (n := 6) hts zws_X0 (hts _ (zW_in (zTp1 (i := 220) rfl) rfl))
    · exact u_known (C := RX1) (T := TX1) (N := 4) (n := 4) hts zws_X1 (hts _ (zW_in (zTp2 (i := 128) rfl) rfl))
    · exact u_known (C := RX2) (T := TX2) (N := 3) (n := 3) hts zws_X2 (hts _ (zW_in (zTp1 (i := 39) rfl) rfl))
    · exact u_known (C := RX3) (T := TX3) (N := 4) (n := 4) hts zws_X3 (hts _ (zW_in (zTp1 (i := 199) rfl) rfl))
    · exact u_known (C := RX4) (T := TX4) (N := 1) (n := 1) hts zws_X4 (hts _ (zW_in (zTp1 (i := 86) rfl) rfl))
    · exact u_known (C := RX6) (T := TX6) (N := 10) (n := 10) hts zws_X6 (hts _ (zW_in (zTp2 (i := 78) rfl) rfl))
    · exact u_known (C := RX7) (T := TX7) (N := 15) (n := 15) hts zws_X7 (hts _ (zW_in (zTp1 (i := 71) rfl) rfl))
    · exact u_known (C := RX8) (T := TX8) (N := 7) (n := 7) hts zws_X8 (hts _ (zW_in (zTp2 (i := 8) rfl) rfl))
    · exact u_known (C := RX9) (T := TX9) (N := 6) (n := 6) hts zws_X9 (hts _ (zW_in (zTp1 (i := 79) rfl) rfl))
    · exact u_known (C := RX10) (T := TX10) (N := 7) (n := 7) hts zws_X10 (hts _ (zW_in (zTp2 (i := 41) rfl) rfl))
    · exact u_known (C := RX11) (T := TX11) (N := 9) (n := 9) hts zws_X11 (hts _ (zW_in (zTp1 (i := 31) rfl) rfl))
  have h0 : ∀ k : Nat, ∃ r : ClassId × (Nat → Nat), ∀ q, vwCl[k]? = some q → u_Kn s q.1 q.2.1 q.2.2 r.1 r.2 := by
    intro k
    by_cases hk : k < vwCl.length
    · obtain ⟨cC, iS, h⟩ := all _ (List.getElem_mem hk)
      exact ⟨(cC, iS), fun q hq => by rw [List.getElem?_eq_getElem hk] at hq; cases hq; exact h⟩
    · exact ⟨(0, fun _ => 0), fun q hq => by rw [List.getElem?_eq_none (by omega)] at hq; exact nomatch hq⟩
  obtain ⟨f, hf⟩ := Classical.axiomOfChoice h0
  exact ⟨fun k => (f k).1, fun k => (f k).2, hf⟩
set_option maxRecDepth 100000 in
theorem z_begin (C0 : lw_At p s m meth c b L xs) : ∃ G : zG, zKap G ∧ va_K G.1 vwCl (zTys G) s ∧ zO G (fun q => s.heap.size ≤ q) s s.heap ∧ G.2.2 8 = b ∧ G.2.2 9 = L := by
  have hts := C0.2.2.2.2.2.1
  have hs := z_given C0
  obtain ⟨ad, ha1, ha2⟩ := z_kinds C0
  obtain ⟨t, ht1, ht2⟩ := z_first C0
  obtain ⟨dC, dI, hd⟩ := z_class C0
  obtain ⟨c0, i0⟩ := zArr (ty := .int) (hts _ (zTp1 (i := 98) rfl)) (fun C h => by cases h)
  obtain ⟨c3, i3⟩ := zArrO (C := "java/lang/Object") (hts _ (zTp3 (i := 154) rfl))
  obtain ⟨c4, i4⟩ := zArrO (C := "java/lang/Object") (hts _ (zTp3 (i := 154) rfl))
  obtain ⟨mi, hmi⟩ := va_Mi.of (C := "[Ljava/lang/Object;") (hs (.isRef (.mirror "[Ljava/lang/Object;")) (by decide +kernel))
  have hA : ∀ a : Nat, a < s.heap.size → ¬ (fun q => s.heap.size ≤ q) a := fun a h => Nat.not_le.mpr h
  refine ⟨((dC, dI), fun k => if k < 3 then c0 else if k = 3 then c3 else c4, fun k => if k < 6 then ad k else if k = 6 then t else if k = 7 then mi else if k = 8 then b else if k = 9 then L else (xs (k - 10)).toBitVec.toNat), fun i j hi hj e => ?_, ⟨hd, fun k q hq => ?_⟩, ⟨fun k hk => ?_, ?_, ?_, ht1, ht2, z_strs C0, fun w hw => va_Nw.of (zN_tab hw) (hts w (List.mem_filter.mp hw).1), va_AO.of (hts _ (zTp3 (i := 154) rfl)), va_AO.of (hts _ (zTp3 (i := 154) rfl)), hmi, va_Dc.of (hts _ (zTp6 (i := 38) rfl)), fun q hq => ?_, ?_, Nat.not_le.mpr C0.2.2.2.2.2.2.2.1⟩, rfl, rfl⟩
  · simp only [if_pos hi, if_pos hj] at e
    exact ha2 i j hi hj e
  · match k, hq with
    | 0, hq => cases hq; exact i0
    | 1, hq => cases hq; exact i0
    | 2, hq => cases hq; exact i0
    | 3, hq => cases hq; exact i3
    | 4, hq => cases hq; exact i4
    | k + 5, hq => exact nomatch hq
  · show va_Z RX5 (zKn k) "LTaskgraphic$Kind;" (.ref (if k < 6 then ad k else if k = 6 then t else if k = 7 then mi else if k = 8 then b else if k = 9 then L else (xs (k - 10)).toBitVec.toNat)) _ _ _
    rw [if_pos hk]
    exact ha1 k hk
  · exact vx_Zqof (hts _ (zTp3 (i := 14) rfl)) (hts _ (zTp1 (i := 18) rfl)) (hs _ (by decide +kernel)) hA
  · exact vx_Zqof (hts _ (zTp3 (i := 16) rfl)) (hts _ (zTp1 (i := 18) rfl)) (hs _ (by decide +kernel)) hA
  · simp only [zNo, List.mem_cons, List.mem_nil_iff, or_false] at hq
    rcases hq with rfl | rfl | rfl <;> exact va_Nc.of (hs _ (by decide +kernel))
  · show va_X b L (fun j => Int32.ofNat (if 10 + j < 6 then ad (10 + j) else if 10 + j = 6 then t else if 10 + j = 7 then mi else if 10 + j = 8 then b else if 10 + j = 9 then L else (xs (10 + j - 10)).toBitVec.toNat)) s s.heap
    have e : (fun j : Nat => Int32.ofNat (if 10 + j < 6 then ad (10 + j) else if 10 + j = 6 then t else if 10 + j = 7 then mi else if 10 + j = 8 then b else if 10 + j = 9 then L else (xs (10 + j - 10)).toBitVec.toNat)) = xs := funext fun j => by
      rw [if_neg (by omega), if_neg (by omega), if_neg (by omega), if_neg (by omega), if_neg (by omega), Nat.add_sub_cancel_left]
      exact (nI_sur (xs j)).symm
    rw [e]
    exact C0.2.2.2.2.2.2.1
end
