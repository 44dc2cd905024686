/-! more rows: arrays of objects, ArrayList's own, throwing -/
section
variable {G : zG} {k : zK} {F : zF} {pc nx ca sl : Nat} {ls : zL} {st rest : List Value} {σ : zH} {Q : Option Value → zH → Nat → Prop} {X : String → zH → Nat → Prop}
theorem z_anew {idx t0 N : Nat} {n : Int32} {C : String} {cB : ClassId} (d : decode k.2.1 pc = .ok (.anewarray idx, 3)) (hw : Cond.classLink k.1 idx C ∈ zW) (ht : (zTys G)[t0]? = some (cB, .object C)) (hC : C = "java/lang/Object" ∨ C = "java/lang/Object") (hn : ¬ n < 0) (hN : n.toNatClampNeg = N) (hby : N * 4 ≤ 536870912) (hca : ca + 1 ≤ k.2.2.2.1.cells) (hsl : sl + N ≤ k.2.2.2.1.slots)
    (kk : zWP G k F (pc + 3) ls (.ref nx :: st) (zu σ nx (.inl (cB, N, .inr (.inr (.inr (.inr (fun _ => none))))))) (nx + 1) (ca + 1) (sl + N)) : zWP G k F pc ls (.int n :: st) σ nx ca sl := by
  intro p l e s m args below meth c A H locs la CC hH hS hl
  subst hN
  obtain ⟨hx, hb, -, hown, hts, hK, hA, -, -, -, -, ho, -⟩ := id CC
  have hover : va_AO C s := by rcases hC with rfl | rfl; exact ho.2.2.2.2.2.2.2.1; exact ho.2.2.2.2.2.2.2.2.1
  have hle : s.heap.size ≤ nx := by rw [← hH.1]; exact hS.1
  refine W.anew hx hb hown (hts _ hw) (va_AO.use hover) rfl d rfl hn hby hca hsl fun cA kA comp f1 f2 f3 f4 => ?_
  cases zcy hK ht f1
  generalize hH1 : H.push ({ cls := cB, slots := Array.replicate n.toNatClampNeg .null, vm := .none } : Cell) = H1
  have z1 : H1.size = H.size + 1 := by rw [← hH1, Array.size_push]
  have e1 : H1[H.size]? = some (arrV cB n.toNatClampNeg (fun _ => .null)) := by rw [← hH1, Array.getElem?_push_size, ← arrV_new]
  have o1 : ∀ q : Nat, q < H.size → H1[q]? = H[q]? := fun q hq => by rw [← hH1, Array.getElem?_push, if_neg (Nat.ne_of_lt hq)]
  have hs := hH.1
  rw [hs] at z1 e1 o1
  rw [hs]
  exact kk p l e s m args below meth c A H1 locs la CC (hH.push z1 e1 o1 (hA _ hle)) ⟨by omega, fun x h1 h2 => (o1 x (by omega)).trans (hS.2.1 x h1 h2), hS.2.2⟩ hl
theorem zst_q {G : zG} {a n j : Nat} {cA : ClassId} {f : Nat → Option Nat} {v : Nat} {H1 : Heap} (e : H1[a]? = some ((vp_cell cA (n, .inr (.inr (.inr (.inr f))))).setSlot j (.ref v))) : va_at G.1 vwCl (a, .inl (cA, n, .inr (.inr (.inr (.inr (va_up f j (some v))))))) H1 := by
  show H1[a]? = some (vp_cell _ _)
  rw [e, vp_cell_q, vp_cell_q, arrV_store]
  congr 2
  funext q
  by_cases hq : q = j
  · subst hq; simp [updV, va_up, va_rf]
  · simp [updV, va_up, hq]
/-- a made object into an array of its class -/
theorem z_rast {a v n t0 ci : Nat} {cA : ClassId} {r : vw_C} {vs : List Value} {f : Nat → Option Nat} {i : Int32} (d : decode k.2.1 pc = .ok (.aastore, 1)) (hσ : σ a = some (.inl (cA, n, .inr (.inr (.inr (.inr f)))))) (ht : (zTys G)[t0]? = some (cA, .object r.1)) (hv : σ v = some (.inr (ci, vs))) (hc : vwCl[ci]? = some r) (hi : vp_in i n)
    (kk : zWP G k F (pc + 1) ls st (zu σ a (.inl (cA, n, .inr (.inr (.inr (.inr (va_up f i.toNatClampNeg (some v)))))))) nx ca sl) : zWP G k F pc ls (.ref v :: .int i :: .ref a :: st) σ nx ca sl := by
  intro p l e s m args below meth c A H locs la CC hH hS hl
  obtain ⟨hx, hb, -, hown, hts, hK, hA, -⟩ := id CC
  obtain ⟨ws, q0, hP, hD, hq, hh⟩ := hH.at hσ
  obtain ⟨qk, hqk⟩ := List.getElem?_of_mem ((hh v _).mp hv)
  obtain ⟨r', hr', cellV, g1, g2, g3, -⟩ := hP qk _ hqk
  have hcls := (hK.1 ci r hc).2
  obtain ⟨kA, comp, k1, k2, k3, -⟩ := (hK.2 t0 _ ht).2
  have hcomp : comp = G.1.1 ci := Option.some.inj (k3.symm.trans hcls.1)
  subst hcomp
  obtain ⟨kC, hkC, -⟩ := hcls.2
  refine W.aast hx hb (hP q0 _ hq) (fun q h => by cases h) (fun h => by cases h) k1 k2 rfl hkC ⟨fun q => hi (Or.inl q), by show _ < (arrV _ _ _).slots.size; rw [arrV_size]; exact Nat.not_le.mp fun q => hi (Or.inr q)⟩ g1 (fun q h => by rw [g3] at h; cases h) (by rw [g2]; exact hkC) (by rw [g2]; exact va_assign hcls) rfl rfl d fun H1 e1 z oq => ?_
  exact kk p l e s m args below meth c A H1 _ la CC (hH.put hσ z (zst_q e1) oq) (hS.put z oq (hH.isA hσ)) hl
/-- .. into an array of a class above its own -/
theorem z_east {a v n t0 ci : Nat} {cA : ClassId} {E : String} {r : vw_C} {vs : List Value} {f : Nat → Option Nat} {i : Int32} (d : decode k.2.1 pc = .ok (.aastore, 1)) (hσ : σ a = some (.inl (cA, n, .inr (.inr (.inr (.inr f)))))) (ht : (zTys G)[t0]? = some (cA, .object E)) (hcs : Cond.castable r.1 E ∈ zN) (hv : σ v = some (.inr (ci, vs))) (hc : vwCl[ci]? = some r) (hi : vp_in i n)
    (kk : zWP G k F (pc + 1) ls st (zu σ a (.inl (cA, n, .inr (.inr (.inr (.inr (va_up f i.toNatClampNeg (some v)))))))) nx ca sl) : zWP G k F pc ls (.ref v :: .int i :: .ref a :: st) σ nx ca sl := by
  intro p l e s m args below meth c A H locs la CC hH hS hl
  obtain ⟨hx, hb, -, hown, hts, hK, hA, -, -, -, -, ho, -⟩ := id CC
  obtain ⟨ws, q0, hP, hD, hq, hh⟩ := hH.at hσ
  obtain ⟨qk, hqk⟩ := List.getElem?_of_mem ((hh v _).mp hv)
  obtain ⟨r', hr', cellV, g1, g2, g3, -⟩ := hP qk _ hqk
  have hcls := (hK.1 ci r hc).2
  obtain ⟨kA, comp, k1, k2, k3, -⟩ := (hK.2 t0 _ ht).2
  obtain ⟨kE, hkE, -⟩ := Vm.findClass_spec k3
  obtain ⟨c0, t1, f1, f2, f3⟩ := Cond.castable_spec (va_Nw.use (A := args) rfl (ho.2.2.2.2.2.2.1 _ hcs))
  cases hcls.1.symm.trans f1
  cases k3.symm.trans f2
  obtain ⟨kC, hkC, -⟩ := hcls.2
  refine W.aast hx hb (hP q0 _ hq) (fun q h => by cases h) (fun h => by cases h) k1 k2 rfl hkE ⟨fun q => hi (Or.inl q), by show _ < (arrV _ _ _).slots.size; rw [arrV_size]; exact Nat.not_le.mp fun q => hi (Or.inr q)⟩ g1 (fun q h => by rw [g3] at h; cases h) (by rw [g2]; exact hkC) (by rw [g2]; exact f3) rfl rfl d fun H1 e1 z oq => ?_
  exact kk p l e s m args below meth c A H1 _ la CC (hH.put hσ z (zst_q e1) oq) (hS.put z oq (hH.isA hσ)) hl
/-- the length of the array that all lists begin with -/
theorem z_alen0 (d : decode k.2.1 pc = .ok (.arraylength, 1)) (kk : zWP G k F (pc + 1) ls (.int 0 :: st) σ nx ca sl) : zWP G k F pc ls (.ref (G.2.2 6) :: st) σ nx ca sl := by
  intro p l e s m args below meth c A H locs la CC hH hS hl
  obtain ⟨hx, hb, -, hown, hts, hK, hA, -, -, -, -, ho, -⟩ := id CC
  obtain ⟨cell, c1, c2, c3, c4⟩ := ho.2.2.2.2.1
  have hlt : G.2.2 6 < s.heap.size := (Array.getElem?_eq_some_iff.mp c1).1
  have hc : H[G.2.2 6]? = some cell := (hS.2.1 _ hlt c4).trans c1
  exact W.alen (n := 0) hx hb hc c2 (by rw [c3]; rfl) rfl rfl d (kk p l e s m args below meth c A H locs la CC hH hS hl)
theorem z_ldcM {idx : Nat} (d : decode k.2.1 pc = .ok (.ldc idx, 2)) (hw : Cond.classLink k.1 idx "[Ljava/lang/Object;" ∈ zW)
    (kk : zWP G k F (pc + 2) ls (.ref (G.2.2 7) :: st) σ nx ca sl) : zWP G k F pc ls st σ nx ca sl := by
  intro p l e s m args below meth c A H locs la CC hH hS hl
  obtain ⟨hx, hb, -, hown, hts, hK, hA, -, -, -, -, ho, -⟩ := id CC
  exact va_ldcM hx hb hown (hts _ hw) ho.2.2.2.2.2.2.2.2.2.1 d (kk p l e s m args below meth c A H locs la CC hH hS hl)
/-- a field that the class has of the one above -/
def zFi (own ref : String) (idx ci j : Nat) (ty : FieldType) : Prop := ∃ (C : String) (T : u_T) (N : Nat) (ty0 : Nat → FieldType), vwCl[ci]? = some (C, T, N) ∧ j < N ∧ Cond.fieldLink own idx ref (T j).2.1 (T j).2.2.1 ∈ zW ∧ Cond.sameField ref (T j).1 (T j).2.1 (T j).2.2.1 ∈ zW ∧ (∀ w ∈ u_ws C T N, w ∈ zW) ∧
  (∀ i, i < N → parseFieldDescriptor (T i).2.2.1 = some (ty0 i)) ∧ (∀ a, a < N → ∀ b, b < N → a ≠ b → (T a).2.1 ≠ (T b).2.1) ∧ ty0 j = ty ∧ (T j).2.2.2 = false
theorem z_getfI {idx ci j a : Nat} {ref : String} {fs : List Value} {v : Value} {ty : FieldType} (d : decode k.2.1 pc = .ok (.getfield idx, 3)) (hf : zFi k.1 ref idx ci j ty) (hσ : σ a = some (.inr (ci, fs))) (hv : fs[j]? = some v)
    (kk : zWP G k F (pc + 3) ls (v :: st) σ nx ca sl) : zWP G k F pc ls (.ref a :: st) σ nx ca sl := by
  intro p l e s m args below meth c A H locs la C hH hS hl
  have K := kk p l e s m args below meth c A H locs la C hH hS hl
  obtain ⟨hx, hb, -, hown, hts, hK, -⟩ := C
  obtain ⟨ws, q0, hP, -, hq, -⟩ := hH.at hσ
  obtain ⟨C, T, N, ty0, hc, hj, hk, hsm, hin, -⟩ := hf
  exact va_get hx hb hts hin hown hK hP q0 hq hc j hj (hts _ hk) (u_same (hts _ hsm)) hv d K
theorem z_putfI {idx ci j a : Nat} {ref : String} {fs : List Value} {v : Value} {ty : FieldType} (d : decode k.2.1 pc = .ok (.putfield idx, 3)) (hf : zFi k.1 ref idx ci j ty) (hσ : σ a = some (.inr (ci, fs))) (hn : narrow ty v = v) (hfit : fits ty v = true) (hl0 : j < fs.length)
    (kk : zWP G k F (pc + 3) ls st (zu σ a (.inr (ci, fs.set j v))) nx ca sl) : zWP G k F pc ls (v :: .ref a :: st) σ nx ca sl := by
  intro p l e s m args below meth c A H locs la CC hH hS hl
  obtain ⟨hx, hb, -, hown, hts, hK, -⟩ := id CC
  obtain ⟨ws, q0, hP, hD, hq, -⟩ := hH.at hσ
  obtain ⟨C, T, N, ty0, hc, hj, hlk, hsm, hin, hty, hnm, rfl, hfin⟩ := hf
  have hap := va_apart (own := k.1) hts hin ty0 hty hnm hK hc
  obtain ⟨r, h1, cell, q1, q2, q3, q4⟩ := hP q0 _ hq
  have hr : r = (C, T, N) := Option.some.inj (h1.symm.trans hc)
  subst hr
  obtain ⟨hSl, hfc, kC, hkC, hkind⟩ := hK.1 ci _ hc
  obtain ⟨cf, kf, fi, f, hi, hsl⟩ := hSl j hj
  have hlay := hts _ (hin _ (u_in_lay hj))
  unfold u_lay at hlay
  rw [if_neg (by rw [hfin]; decide)] at hlay
  have hst := (u_facts hfc hkC (u_lays hts hin hj) hi).1
  have h6 := u_store hfc hkC hkind hlay hi (hty j hj) hn hfit
  have fin : ∀ (H' : Heap), H'[a]? = some (cell.setSlot f.slot v) → H'.size = H.size → (∀ q, q ≠ a → H'[q]? = H[q]?) → W p l e k.2.2.2.1 s m args below meth c H' (locs ++ [⟨a, f.slot⟩]) ca sl (F below args s A) (F0 m (pc + 3) la st) := by
    intro H' e1 e2 e3
    rw [hsl] at e1 ⊢
    exact kk p l e s m args below meth c A H' _ la CC (hH.put hσ e2 ⟨_, hc, t_OB.to (V := updV (vp_V fs) j v) ⟨_, e1, q2, q3, t_set q4 hap hj v⟩ (fun i _ => vp_updV_set hl0 v i)⟩ e3) (hS.put e2 e3 (hH.isA hσ)) hl
  exact W.putK hx hb (f := f) ⟨hown, hts _ hlk, ⟨_, _, _, u_same (hts _ hsm) _ hi⟩, hst⟩ (by rw [q2]; exact h6) q1 q3 (by rw [hsl]; exact k2_hasslot (q4 j hj)) rfl rfl d fin
abbrev zGC : MethodName := ⟨"java/lang/Object", "getClass", "()Ljava/lang/Class;"⟩
theorem z_getC {idx a n : Nat} {f : Nat → Option Nat} (d : decode k.2.1 pc = .ok (.invokevirtual idx, 3)) (hl1 : Cond.methodLink k.1 idx zGC ∈ zW) (hl2 : Cond.selects "[Ljava/lang/Object;" zGC zGC ∈ zW) (hl3 : Cond.instanceMethod zGC ∈ zW) (hl4 : Cond.native zGC ∈ zW) (hσ : σ a = some (zE G n f)) (hfr : 1 ≤ k.2.2.2.1.frames) (hlo : (st.map fun v => v.category).sum + 14 ≤ k.2.2.2.1.locals)
    (kk : zWP G k F (pc + 3) ls (.ref (G.2.2 7) :: st) σ nx ca sl) : zWP G k F pc ls (.ref a :: st) σ nx ca sl := by
  intro p l e s m args below meth c A H locs la CC hH hS hl
  obtain ⟨hx, hb, hml, hown, hts, hK, hA, -, -, -, -, ho, -⟩ := id CC
  obtain ⟨ws, q0, hP, -, hq, -⟩ := hH.at hσ
  obtain ⟨kA, comp, -, -, -, h4⟩ := (hK.2 4 _ rfl).2
  exact va_getC hx hb (hml.trans hl.1.symm) hown (hts _ hl1) (va_Dc.use ho.2.2.2.2.2.2.2.2.2.2.1) (hts _ hl2) (hts _ hl3) (hts _ hl4) ho.2.2.2.2.2.2.2.2.2.1 ⟨_, hP q0 _ hq, rfl, h4⟩ hfr hlo d (kk p l e s m args below meth c A H locs la CC hH hS hl)
/-- System.arraycopy between arrays of objects of a made class -/
theorem z_copy {idx a0 a1 n0 n1 : Nat} {f g : Nat → Option Nat} {sp dp n : Int32} {ci : Nat} {r : vw_C} (d : decode k.2.1 pc = .ok (.invokestatic idx, 3)) (hl1 : Cond.methodLink k.1 idx arraycopyName ∈ zW) (hl2 : Cond.native arraycopyName ∈ zW) (hl3 : Cond.static arraycopyName ∈ zW) (hl4 : Cond.initialized "java/lang/System" ∈ zW)
    (h0 : σ a0 = some (zE G n0 f)) (h1 : σ a1 = some (zE G n1 g)) (g1 : ¬ sp < 0) (g2 : ¬ dp < 0) (g3 : ¬ n < 0) (g4 : sp.toNatClampNeg + n.toNatClampNeg ≤ n0) (g5 : dp.toNatClampNeg + n.toNatClampNeg ≤ n1) (hc : vwCl[ci]? = some r) (hcs : Cond.castable r.1 "java/lang/Object" ∈ zN)
    (hel : ∀ i, i < n.toNatClampNeg → ∀ y, f (sp.toNatClampNeg + i) = some y → ∃ fs, σ y = some (.inr (ci, fs))) (hfr : 1 ≤ k.2.2.2.1.frames) (hlo : (st.map fun v => v.category).sum + (nativeFrameWords "java/lang/System" "arraycopy" 5 + 11) ≤ k.2.2.2.1.locals)
    (kk : ∀ nx', nx ≤ nx' → zWP G k F (pc + 3) ls st (zu σ a1 (zE G n1 (va_cpy f g sp.toNatClampNeg dp.toNatClampNeg n.toNatClampNeg))) nx' ca sl) : zWP G k F pc ls (.int n :: .int dp :: .ref a1 :: .int sp :: .ref a0 :: st) σ nx ca sl := by
  intro p l e s m args below meth c A H locs la CC hH hS hl
  obtain ⟨hx, hb, hml, hown, hts, hK, hA, -, -, -, -, ho, -⟩ := id CC
  obtain ⟨hs, ws, hP, hD, hh⟩ := id hH
  obtain ⟨q0, hq0⟩ := List.getElem?_of_mem ((hh _ _).mp h0)
  obtain ⟨q1, hq1⟩ := List.getElem?_of_mem ((hh _ _).mp h1)
  have hcls := (hK.1 ci r hc).2
  refine va_copyq (H0 := H) (C := r.1) hx hb (hml.trans hl.1.symm) hown (hts _ hl1) (hts _ hl2) (hts _ hl3) (hts _ hl4) hK hP hD ⟨Nat.le_refl _, fun _ _ _ => rfl, hS.2.2⟩ q0 q1 4 4 hq0 hq1 rfl rfl g1 g2 g3 g4 g5 (fun i hi y hy => ?_) (fun comp c0 e1 e2 => ?_) hfr hlo d (fun H1 locs1 hP1 hD1 hS1 => ?_)
  · obtain ⟨fs, hfs⟩ := hel i hi y hy
    obtain ⟨qk, hqk⟩ := List.getElem?_of_mem ((hh y _).mp hfs)
    obtain ⟨r', hr', cellV, k1, k2, k3, -⟩ := hP qk _ hqk
    refine ⟨cellV, k1, by rw [k3]; rfl, ?_⟩
    rw [k2]
    exact hcls.1
  · obtain ⟨c1, t1, f1, f2, f3⟩ := Cond.castable_spec (va_Nw.use (A := args) rfl (ho.2.2.2.2.2.2.1 _ hcs))
    cases e2.symm.trans f1
    cases e1.symm.trans f2
    exact f3
  · refine kk H1.size (by rw [← hs]; exact hS1.1) p l e s m args below meth c A H1 locs1 la CC ⟨rfl, _, hP1, hD1, zu_ws hD hh hq1⟩ ⟨Nat.le_trans hS.1 hS1.1, fun q i1 i2 => (hS1.2.1 q (Nat.lt_of_lt_of_le i1 hS.1) i2).trans (hS.2.1 q i1 i2), hS1.2.2⟩ hl
theorem z_cast2 {idx a n : Nat} {f : Nat → Option Nat} (d : decode k.2.1 pc = .ok (.checkcast idx, 3)) (hw : Cond.classLink k.1 idx "[Ljava/lang/Object;" ∈ zW) (hσ : σ a = some (zE G n f))
    (kk : zWP G k F (pc + 3) ls (.ref a :: st) σ nx ca sl) : zWP G k F pc ls (.ref a :: st) σ nx ca sl := by
  intro p l e s m args below meth c A H locs la CC hH hS hl
  obtain ⟨hx, hb, hml, hown, hts, hK, -⟩ := id CC
  obtain ⟨ws, q0, hP, -, hq, -⟩ := hH.at hσ
  obtain ⟨kA, comp, -, -, -, h4⟩ := (hK.2 4 _ rfl).2
  exact va_castA hx hb hown (hts _ hw) hP q0 hq h4 d (kk p l e s m args below meth c A H locs la CC hH hS hl)
-- throwing
theorem zHR.ext {A : Nat → Prop} {H H1 : Heap} (h : zHR G A σ nx H) (ho : ∀ q : Nat, q < H.size → H1[q]? = H[q]?) : zHR G A σ H1.size H1 := by
  obtain ⟨hs, ws, hP, hD, hh⟩ := h
  exact ⟨rfl, ws, hP.kept fun k x hx => ho x.1 ((hP k x hx).lt), hD, hh⟩
def zNm : List String := ["java/lang/RuntimeException", "java/lang/Exception"]
theorem zN_tab {w : Cond} (h : w ∈ zN) : w.onTables = true := by
  have h2 := (List.mem_filter.mp h).2
  cases w <;> first | rfl | exact nomatch h2
theorem zN_use {w : Cond} {args : Array Value} {s : State} (h : w ∈ zN) (hn : ∀ w ∈ zN, va_Nw w s) : w.before args s = true := va_Nw.use (zN_tab h) (hn w h)
theorem z_throw {ik is ic : Nat} {cls text : String} (d0 : decode k.2.1 pc = .ok (.new ik, 3)) (d3 : decode k.2.1 (pc + 3) = .ok (.dup, 1)) (d4 : decode k.2.1 (pc + 4) = .ok (.ldc is, 2)) (d6 : decode k.2.1 (pc + 6) = .ok (.invokespecial ic, 3)) (d9 : decode k.2.1 (pc + 9) = .ok (.athrow, 1))
    (hk1 : k.1 = RX11) (hfit : Bundle.fit cls = true) (hw : ∀ w ∈ Cond.classLink k.1 ik cls :: Cond.initialized cls :: vx_atS k.1 ic cls zNm, w ∈ zW ∨ w ∈ zN) (hst : (is, text) ∈ zStr) (hhs : k.2.2.2.2.2.2 = []) (hfr : 5 < k.2.2.2.1.frames) (hlo : 82 ≤ k.2.2.2.1.locals) (hca : ca + 1 ≤ k.2.2.2.1.cells) (hsl : sl + 6 ≤ k.2.2.2.1.slots)
    (hX : ∀ nx', nx ≤ nx' → X cls σ nx') : zWP G k (zFX G k.2.2.2.1 Q X) pc ls [] σ nx ca sl := by
  intro p l e s m args below meth c A H locs la CC hH hS hl
  obtain ⟨hx, hb, hml, hown, hts, hK, hA, hlk, hret, hnm, het, ho, htr⟩ := id CC
  obtain ⟨sa, hsa⟩ := ho.2.2.2.2.2.1 _ hst
  rw [← hk1] at hsa
  have hw2 : ∀ w ∈ Cond.classLink k.1 ik cls :: Cond.initialized cls :: vx_atS k.1 ic cls zNm, w.before args s = true := fun w q => (hw w q).elim (hts w) (fun z => zN_use z ho.2.2.2.2.2.2.1)
  refine vx_throwS (names := zNm) (A := A) hx hb htr hown hfit (by decide +kernel) (hw2 _ (by simp)) (hw2 _ (by simp)) hsa (fun w q => hw2 _ (List.mem_cons_of_mem _ (List.mem_cons_of_mem _ q))) (fun w q => ?_) ho.2.1 ho.2.2.1 hS (hl.1.trans hml.symm) d0 d3 d4 d6 d9 (by rw [het, hhs]; intro x q; exact nomatch q) hfr (by show 0 + (13 * (2 + 1) + 43) ≤ _; omega) hca hsl hlk (fun t hal hsz hq => ?_) hS.2.2 hca hsl
  · rcases hw w q with z | z
    · rw [vx_ot, (List.mem_filter.mp z).2, Bool.or_true]
    · rw [vx_ot, zN_tab z, Bool.true_or]
  · exact ⟨⟨σ, t.heap.size, hX _ (by rw [← hH.1]; exact hsz), hH.ext hq⟩, Nat.le_trans hS.1 hsz, fun q i1 i2 => (hq q (Nat.lt_of_lt_of_le i1 hS.1)).trans (hS.2.1 q i1 i2)⟩
theorem z_throwW {ik is ic : Nat} {cls text : String} (d0 : decode k.2.1 pc = .ok (.new ik, 3)) (d3 : decode k.2.1 (pc + 3) = .ok (.dup, 1)) (d4 : decode k.2.1 (pc + 4) = .ok (.ldc_w is, 3)) (d6 : decode k.2.1 (pc + 7) = .ok (.invokespecial ic, 3)) (d9 : decode k.2.1 (pc + 10) = .ok (.athrow, 1))
    (hk1 : k.1 = RX11) (hfit : Bundle.fit cls = true) (hw : ∀ w ∈ Cond.classLink k.1 ik cls :: Cond.initialized cls :: vx_atS k.1 ic cls zNm, w ∈ zW ∨ w ∈ zN) (hst : (is, text) ∈ zStr) (hhs : k.2.2.2.2.2.2 = []) (hfr : 5 < k.2.2.2.1.frames) (hlo : 82 ≤ k.2.2.2.1.locals) (hca : ca + 1 ≤ k.2.2.2.1.cells) (hsl : sl + 6 ≤ k.2.2.2.1.slots)
    (hX : ∀ nx', nx ≤ nx' → X cls σ nx') : zWP G k (zFX G k.2.2.2.1 Q X) pc ls [] σ nx ca sl := by
  intro p l e s m args below meth c A H locs la CC hH hS hl
  obtain ⟨hx, hb, hml, hown, hts, hK, hA, hlk, hret, hnm, het, ho, htr⟩ := id CC
  obtain ⟨sa, hsa⟩ := ho.2.2.2.2.2.1 _ hst
  rw [← hk1] at hsa
  have hw2 : ∀ w ∈ Cond.classLink k.1 ik cls :: Cond.initialized cls :: vx_atS k.1 ic cls zNm, w.before args s = true := fun w q => (hw w q).elim (hts w) (fun z => zN_use z ho.2.2.2.2.2.2.1)
  refine vx_throwSW (names := zNm) (A := A) hx hb htr hown hfit (by decide +kernel) (hw2 _ (by simp)) (hw2 _ (by simp)) hsa (fun w q => hw2 _ (List.mem_cons_of_mem _ (List.mem_cons_of_mem _ q))) (fun w q => ?_) ho.2.1 ho.2.2.1 hS (hl.1.trans hml.symm) d0 d3 d4 d6 d9 (by rw [het, hhs]; intro x q; exact nomatch q) hfr (by show 0 + (13 * (2 + 1) + 43) ≤ _; omega) hca hsl hlk (fun t hal hsz hq => ?_) hS.2.2 hca hsl
  · rcases hw w q with z | z
    · rw [vx_ot, (List.mem_filter.mp z).2, Bool.or_true]
    · rw [vx_ot, zN_tab z, Bool.true_or]
  · exact ⟨⟨σ, t.heap.size, hX _ (by rw [← hH.1]; exact hsz), hH.ext hq⟩, Nat.le_trans hS.1 hsz, fun q i1 i2 => (hq q (Nat.lt_of_lt_of_le i1 hS.1)).trans (hS.2.1 q i1 i2)⟩
/-- a call that may throw, where nothing is caught -/
theorem z_runX {p : Program} {l : Launch} {e : Env} {s : State} {m : MethodId} {args a9 : Array Value} {below : List Frame} {meth : Method} {c : Code} {A : Nat → Prop} {H : Heap} {locs : List Loc} {la : Array Slot} {mc ms : Nat} {Q' : Option Value → zH → Nat → Prop} {X' : String → zH → Nat → Prop}
    (CC : zC G k p l s m args meth c A) (hH : zHR G A σ nx H) (hS : va_S A s.heap H locs) (hl : lv_has la k.2.2.1 (zTL 0 ls)) (hr : vx_Run p l e k.2.2.2.1 s m args below meth c H locs ca sl mc ms (F0 m pc la st) rest (zQc G (zA σ nx) Q' a9) (zXC G (zA σ nx) X') (zA σ nx)) (hhs : k.2.2.2.2.2.2 = []) (hmc : ca + mc ≤ k.2.2.2.1.cells) (hms : sl + ms ≤ k.2.2.2.1.slots)
    (hXX : ∀ E σ' nx', nx ≤ nx' → X' E σ' nx' → X E σ' nx')
    (kk : ∀ (v : Option Value) (σ' : zH) (nx' : Nat), nx ≤ nx' → Q' v σ' nx' → zWP G k (zFX G k.2.2.2.1 Q X) (pc + 3) ls (v.toList ++ rest) σ' nx' (ca + mc) (sl + ms)) : W p l e k.2.2.2.1 s m args below meth c H locs ca sl (zFX G k.2.2.2.1 Q X below args s A) (F0 m pc la st) := by
  intro T hT X0
  have hA : ∀ q, nx ≤ q → A q := fun q hq => CC.2.2.2.2.2.2.1 q (Nat.le_trans hS.1 (by rw [hH.1]; exact hq))
  have hsub := hH.sub hA
  rcases hr T hT X0 with ⟨v, st₀, t, T', L, h0, X', hL, e1, e2, ⟨⟨v', σ', nx', hv, hq, hH'⟩, hz, hk⟩, st⟩ | ⟨q, st₀, t, T', L, E, ce, h0, X', hL, e1, e2, ⟨⟨σ', nx', hq, hH'⟩, hz, hk⟩, hce, hcv, hcl, st⟩
  · cases hv
    rw [h0] at hz hk
    rw [← e1] at hz hk hH'
    have hn : nx ≤ nx' := by rw [← hH.1, ← hH'.1]; exact hz
    obtain ⟨t2, a1, b1⟩ := kk v σ' nx' hn hq p l e s m args below meth c A T'.heap (locs ++ L) la CC (hH'.weaken fun a _ _ h => hsub a h)
      ⟨Nat.le_trans hS.1 hz, fun q h1 h2 => by rw [hk q (Nat.lt_of_lt_of_le h1 hS.1) (fun z => h2 (hsub q z))]; exact hS.2.1 q h1 h2, fun q hq => by
        rcases List.mem_append.mp hq with h | h
        · exact hS.2.2 q h
        · exact hsub _ (hL q h)⟩ hl T' rfl X'
    exact ⟨t2, st t2 a1, b1⟩
  · rw [h0] at hz hk
    rw [← e1] at hz hk hH' hce
    have hn : nx ≤ nx' := by rw [← hH.1, ← hH'.1]; exact hz
    obtain ⟨hx, hb, hml, hown, hts, hK, -, hlk, hret, hnm, het, ho, htr⟩ := id CC
    have hS2 : va_S A s.heap T'.heap (locs ++ L) := ⟨Nat.le_trans hS.1 hz, fun q h1 h2 => by rw [hk q (Nat.lt_of_lt_of_le h1 hS.1) (fun z => h2 (hsub q z))]; exact hS.2.1 q h1 h2, fun q hq => by
        rcases List.mem_append.mp hq with h | h
        · exact hS.2.2 q h
        · exact hsub _ (hL q h)⟩
    obtain ⟨t2, a1, b1⟩ := vx_out (pc := pc) (ls := la) (rest := rest) (Qc := zQc G A Q) (XC := zXC G A X) (free := A) (by rw [het, hhs]; intro x q; exact nomatch q) hlk hce hcv hcl
      (fun t2 ht2 hal => ⟨⟨σ', nx', hXX E σ' nx' hn hq, by rw [ht2]; exact hH'.weaken fun a _ _ h => hsub a h⟩, hS2.F ht2⟩) hS2.2.2 hmc hms T' rfl X'
    exact ⟨t2, st.trans a1, b1⟩
theorem z_callVX {idx n b ci : Nat} {y : MethodName} {k2 : zK} {As fs : List Value} {Q' : Option Value → zH → Nat → Prop} {X' : String → zH → Nat → Prop} (d : decode k.2.1 pc = .ok (.invokevirtual idx, 3)) (hlk : zLv k.1 idx y k2 n) (hM : zMX G y k2 (.ref b :: As) σ nx Q' X') (hst : st = As.reverse ++ .ref b :: rest) (hσ : σ b = some (.inr (ci, fs))) (hci : (vwCl[ci]?).map (fun q => q.1) = some y.cls) (hn : As.length = n) (hR : zRoom k k2)
    (hca : ca + k2.2.2.2.1.cells ≤ k.2.2.2.1.cells) (hsl : sl + k2.2.2.2.1.slots ≤ k.2.2.2.1.slots) (hW : (rest.map fun v => v.category).sum ≤ 8) (hhs : k.2.2.2.2.2.2 = []) (hXX : ∀ E σ' nx', nx ≤ nx' → X' E σ' nx' → X E σ' nx')
    (kk : ∀ (v : Option Value) (σ' : zH) (nx' : Nat), nx ≤ nx' → Q' v σ' nx' → zWP G k (zFX G k.2.2.2.1 Q X) (pc + 3) ls (v.toList ++ rest) σ' nx' (ca + k2.2.2.2.1.cells) (sl + k2.2.2.2.1.slots)) : zWP G k (zFX G k.2.2.2.1 Q X) pc ls st σ nx ca sl := by
  intro p l e s m args below meth c A H locs la CC hH hS hl
  obtain ⟨hx, hb, hml, hown, hts, hK, hA, -, -, -, -, ho, htr⟩ := id CC
  obtain ⟨h1, h2, h3, h4, h5, h6⟩ := hlk
  obtain ⟨ws, q0, hP, -, hq, -⟩ := hH.at hσ
  obtain ⟨r, hr1, hr2⟩ := Option.map_eq_some_iff.mp hci
  have hrv := va_recv hK hP hr1 hq
  rw [hr2] at hrv
  refine z_runX CC hH hS hl (vx_runV (As := As) (rest := rest) ⟨hx, hb, hml, hown, hts⟩ (hM l htr) (cwV n hts (zws (a := [.methodLink k.1 idx y, .instanceMethod y, .selects y.cls y y, .initialized y.cls]) (by simp only [List.mem_cons, List.mem_nil_iff, or_false, forall_eq_or_imp, forall_eq]; exact ⟨h1, h2, h3, h4⟩) h5) rfl rfl rfl ⟨rfl, h6⟩ hR) ⟨zPre_blind, hrv, fun U hU hW => ⟨rfl, zPre_in CC hH hS hU hW⟩⟩ rfl hn hl.1 hst (lv_room hW) d ⟨hca, hsl⟩) hhs hca hsl hXX kk
theorem z_callSX {idx n : Nat} {y : MethodName} {k2 : zK} {As : List Value} {Q' : Option Value → zH → Nat → Prop} {X' : String → zH → Nat → Prop} (d : decode k.2.1 pc = .ok (.invokestatic idx, 3)) (hlk : zLs k.1 idx y k2 n) (hM : zMX G y k2 As σ nx Q' X') (hst : st = As.reverse ++ rest) (hn : As.length = n) (hR : zRoom k k2)
    (hca : ca + k2.2.2.2.1.cells ≤ k.2.2.2.1.cells) (hsl : sl + k2.2.2.2.1.slots ≤ k.2.2.2.1.slots) (hW : (rest.map fun v => v.category).sum ≤ 8) (hhs : k.2.2.2.2.2.2 = []) (hnl : Cond.methodLink k.1 idx y ∈ zW) (hXX : ∀ E σ' nx', nx ≤ nx' → X' E σ' nx' → X E σ' nx')
    (kk : ∀ (v : Option Value) (σ' : zH) (nx' : Nat), nx ≤ nx' → Q' v σ' nx' → zWP G k (zFX G k.2.2.2.1 Q X) (pc + 3) ls (v.toList ++ rest) σ' nx' (ca + k2.2.2.2.1.cells) (sl + k2.2.2.2.1.slots)) : zWP G k (zFX G k.2.2.2.1 Q X) pc ls st σ nx ca sl := by
  intro p l e s m args below meth c A H locs la CC hH hS hl
  obtain ⟨hx, hb, hml, hown, hts, hK, hA, -, -, -, -, ho, htr⟩ := id CC
  obtain ⟨h1, h2, h3, h4, h5⟩ := hlk
  exact z_runX CC hH hS hl (vx_runS (As := As) (rest := rest) ⟨hx, hb, hml, hown, hts⟩ (hM l htr) (va_cwS n hts (zws (a := [.methodLink k.1 idx y, .static y, .initialized y.cls]) (by simp only [List.mem_cons, List.mem_nil_iff, or_false, forall_eq_or_imp, forall_eq]; exact ⟨hnl, h2, h3⟩) h4) rfl rfl rfl h5 hR) ⟨zPre_blind, fun U hU hW => ⟨rfl, zPre_in CC hH hS hU hW⟩⟩ rfl hn hl.1 hst (lv_room hW) d ⟨hca, hsl⟩) hhs hca hsl hXX kk
end
