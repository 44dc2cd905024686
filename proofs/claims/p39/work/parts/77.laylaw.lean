/-! rows of the law: what catches, the script, the switch -/
theorem zMX.mono {G : zG} {y : MethodName} {k : zK} {as : List Value} {σ : zH} {nx : Nat} {Q Q2 : Option Value → zH → Nat → Prop} {X X2 : String → zH → Nat → Prop} (h : zMX G y k as σ nx Q X) (hQ : ∀ v σ' nx', Q v σ' nx' → Q2 v σ' nx') (hX : ∀ E σ' nx', X E σ' nx' → X2 E σ' nx') : zMX G y k as σ nx Q2 X2 := by
  intro l hl
  refine MetFree.mono (h l hl) (fun _ _ q => q) (fun _ _ _ _ _ q => q) (fun a s o t _ q => ?_)
  rcases q with ⟨⟨⟨v, σ', nx', e, q1, q2⟩, q3⟩, q4⟩ | ⟨q, e, E, ce, L, ⟨⟨σ', nx', q1, q2⟩, q3⟩, q4⟩
  · exact Or.inl ⟨⟨⟨v, σ', nx', e, hQ _ _ _ q1, q2⟩, q3⟩, q4⟩
  · exact Or.inr ⟨q, e, E, ce, L, ⟨⟨σ', nx', hX _ _ _ q1, q2⟩, q3⟩, q4⟩
/-- the contract of a method that catches what it calls throws -/
def zMW (G : zG) (y : MethodName) (k : zK) (as : List Value) (σ : zH) (nx : Nat) (Q : Option Value → zH → Nat → Prop) : Prop :=
  ∀ l : Launch, l.stackTraces = false → Met l y (.codeWith y k.2.1 k.2.2.1 k.2.2.2.2.1 k.2.2.2.2.2.2 :: zW) k.2.2.2.1 (va_Pc as (zPre G σ nx)) (zQc G (zA σ nx) Q) k.2.2.2.1.cells k.2.2.2.1.slots (zA σ nx)
section
variable {G : zG} {k : zK} {F : zF} {pc nx ca sl : Nat} {ls : zL} {st rest : List Value} {σ : zH} {Q : Option Value → zH → Nat → Prop}
theorem zC_ofH {y : MethodName} {p : Program} {l : Launch} {e : Env} {s s₁ : State} {m : MethodId} {args : Array Value} {below : List Frame} {meth : Method} {c : Code} (hk : k.1 = y.cls ∧ k.2.2.2.2.2.1 = y.name) (hl : l.stackTraces = false)
    (B : BodyLoose p l y (headSpec (.codeWith y k.2.1 k.2.2.1 k.2.2.2.2.1 k.2.2.2.2.2.2 :: zW) k.2.2.2.1) k.2.1 k.2.2.1 k.2.2.2.2.1 e s m args below meth c s₁) (hml : c.maxLocals = k.2.2.1) (hP : zPre G σ nx s) : zC G k p l s m args meth c (zA σ nx) := by
  obtain ⟨hH, hK, ho⟩ := hP
  have hts := atoms_spec (ws := Cond.codeWith y k.2.1 k.2.2.1 k.2.2.2.2.1 k.2.2.2.2.2.2 :: zW) B.pre
  have ht : c.exceptionTable.toList = tableOf k.2.2.2.2.2.2 := vx_table (x := y) B (hts _ List.mem_cons_self)
  have hown : s.vm.findClass y.cls = some m.cls := findClass_of_methodNamed B.named
  exact ⟨B.exec, B.bytes, hml, by rw [hk.1]; exact hown, fun w hw => hts w (List.mem_cons_of_mem _ hw), hK, fun q hq => Or.inr (by rw [← hH.1]; exact hq), B.notSynchronized, B.returns, by rw [hk.2]; exact (name_of_methodNamed B.named B.method).1, ht, ho, hl⟩
theorem zMW.of {y : MethodName} {as : List Value} (hy : plainFor y = true) (hk : k.1 = y.cls ∧ k.2.2.2.2.2.1 = y.name) (hn : (lg_sl as).length ≤ k.2.2.1) (hls : ∀ q ∈ zTL 0 ls, q ∈ lv_args 0 as)
    (body : zWP G k (zFM G k.2.2.2.1 Q) 0 ls [] σ nx 0 0) : zMW G y k as σ nx Q := by
  intro l hl
  refine MetFree.of_bodySF (code := k.2.1) (maxLocals := k.2.2.1) (ret := k.2.2.2.2.1) hy ?_ ?_
  · intro args s m h hn
    obtain ⟨m9, meth, c, hn9, h1, h2, h3, h4, -, h5, h6, -⟩ := Cond.codeWith_spec (atoms_spec (ws := Cond.codeWith y k.2.1 k.2.2.1 k.2.2.2.2.1 k.2.2.2.2.2.2 :: zW) h _ List.mem_cons_self)
    cases hn.symm.trans hn9
    exact ⟨meth, c, h1, h2, h3, h4, h5, h6⟩
  · intro p e s m args below meth c s₁ B hml hv _
    obtain ⟨rfl, hP⟩ := hv
    have hh0 : s₁.heap = s.heap := by rw [B.state]; rfl
    have CC := zC_ofH hk hl B hml hP
    have hh := lv_entry as (n := k.2.2.1) hn
    rw [lg_entry_eq] at *
    generalize (lg_sl as ++ List.replicate (k.2.2.1 - (lg_sl as).length) Slot.unset).toArray = la at *
    obtain ⟨t, a1, o, b1, b2, b3⟩ := body p l e s m as.toArray below meth c (zA σ nx) s.heap [] la CC (hP.1.weaken fun a x hx _ => Or.inl ⟨x, hx⟩) va_S.rf ⟨hh.1, hh.2.1, fun q h => hh.2.2 q (hls q h)⟩ s₁ hh0 (Stand.of_body B)
    exact ⟨t, o, a1, b1, b2, ⟨b3.1, b3.2⟩⟩
theorem z_widen {ca' sl' : Nat} (h1 : ca ≤ ca') (h2 : sl ≤ sl') (kk : zWP G k F pc ls st σ nx ca' sl') : zWP G k F pc ls st σ nx ca sl := fun p l e s m args below meth c A H locs la C hH hS hl => W.widen h1 h2 (kk p l e s m args below meth c A H locs la C hH hS hl)
/-- the words of a static call of what catches -/
def zLh (own : String) (idx : Nat) (y : MethodName) (k2 : zK) (n : Nat) : Prop := Cond.methodLink own idx y ∈ zW ∧ Cond.static y ∈ zW ∧ Cond.initialized y.cls ∈ zW ∧ Cond.codeWith y k2.2.1 k2.2.2.1 k2.2.2.2.2.1 k2.2.2.2.2.2.2 ∈ zW ∧ (y.cls ≠ "java/lang/invoke/MethodHandle" ∧ y.cls ≠ "java/lang/invoke/VarHandle" ∧ (parseMethodDescriptor y.desc).map (fun d => d.parameters.length) = some n)
theorem z_callH {idx n : Nat} {y : MethodName} {k2 : zK} {As : List Value} {Q' : Option Value → zH → Nat → Prop} (d : decode k.2.1 pc = .ok (.invokestatic idx, 3)) (hlk : zLh k.1 idx y k2 n) (hM : zMW G y k2 As σ nx Q') (hst : st = As.reverse ++ rest) (hn : As.length = n) (hR : zRoom k k2)
    (hca : ca + k2.2.2.2.1.cells ≤ k.2.2.2.1.cells) (hsl : sl + k2.2.2.2.1.slots ≤ k.2.2.2.1.slots) (hW : (rest.map fun v => v.category).sum ≤ 8)
    (kk : ∀ (v : Option Value) (σ' : zH) (nx' : Nat), nx ≤ nx' → Q' v σ' nx' → zWP G k F (pc + 3) ls (v.toList ++ rest) σ' nx' (ca + k2.2.2.2.1.cells) (sl + k2.2.2.2.1.slots)) : zWP G k F pc ls st σ nx ca sl := by
  intro p l e s m args below meth c A H locs la CC hH hS hl
  obtain ⟨hx, hb, hml, hown, hts, hK, hA, -, -, -, -, ho, htr⟩ := id CC
  obtain ⟨h1, h2, h3, h4, h5⟩ := hlk
  have hG : GoodIn zW (va_wsS k.1 idx y (Cond.codeWith y k2.2.1 k2.2.2.1 k2.2.2.2.2.1 k2.2.2.2.2.2.2 :: zW)) := zW_good fun w hw => by
    rcases List.mem_append.mp hw with h | h
    · simp only [List.mem_cons, List.mem_nil_iff, or_false] at h
      rcases h with rfl | rfl | rfl
      · exact h1
      · exact h2
      · exact h3
    · rcases List.mem_cons.mp h with h | h
      · rw [h]; exact h4
      · exact h
  exact z_run CC hH hS hl (vx_runSW (As := As) (rest := rest) ⟨hx, hb, hml, hown, hts⟩ (hM l htr) (vx_cwSW n hts hG rfl rfl rfl h5 hR) ⟨zPre_blind, fun U hU hW => ⟨rfl, zPre_in CC hH hS hU hW⟩⟩ rfl hn hl.1 hst (lv_room hW) d ⟨hca, hsl⟩) kk
/-- where what is thrown at a place is caught -/
def zCatch (k : zK) (pc : Nat) (E : String) (h : Nat) : Prop := ∃ (pre : List ExceptionTableEntry) (x : ExceptionTableEntry) (suf : List ExceptionTableEntry), tableOf k.2.2.2.2.2.2 = pre ++ x :: suf ∧ (∀ z ∈ pre, covers z pc = false ∨ (z.catchType ≠ 0 ∧ ∃ nm : String, Cond.classLink k.1 z.catchType nm ∈ zW ∧ (E, nm) ∈ zNo)) ∧ covers x pc = true ∧ x.catchType ≠ 0 ∧ x.handlerPc = h ∧ ∃ nm : String, Cond.classLink k.1 x.catchType nm ∈ zW ∧ Cond.castable E nm ∈ zN
theorem z_runH {p : Program} {l : Launch} {e : Env} {s : State} {m : MethodId} {args a9 : Array Value} {below : List Frame} {meth : Method} {c : Code} {A : Nat → Prop} {H : Heap} {locs : List Loc} {la : Array Slot} {mc ms : Nat} {Q' : Option Value → zH → Nat → Prop} {X' : String → zH → Nat → Prop}
    (CC : zC G k p l s m args meth c A) (hH : zHR G A σ nx H) (hS : va_S A s.heap H locs) (hl : lv_has la k.2.2.1 (zTL 0 ls)) (hr : vx_Run p l e k.2.2.2.1 s m args below meth c H locs ca sl mc ms (F0 m pc la st) rest (zQc G (zA σ nx) Q' a9) (zXC G (zA σ nx) X') (zA σ nx))
    (kx : ∀ (E : String) (σ' : zH) (nx' q : Nat), nx ≤ nx' → X' E σ' nx' → ∃ h, zCatch k pc E h ∧ zWP G k F h ls [.ref q] σ' nx' (ca + mc) (sl + ms))
    (kk : ∀ (v : Option Value) (σ' : zH) (nx' : Nat), nx ≤ nx' → Q' v σ' nx' → zWP G k F (pc + 3) ls (v.toList ++ rest) σ' nx' (ca + mc) (sl + ms)) : W p l e k.2.2.2.1 s m args below meth c H locs ca sl (F below args s A) (F0 m pc la st) := by
  intro T hT X0
  have hA : ∀ q, nx ≤ q → A q := fun q hq => CC.2.2.2.2.2.2.1 q (Nat.le_trans hS.1 (by rw [hH.1]; exact hq))
  have hsub := hH.sub hA
  rcases hr T hT X0 with ⟨v, st₀, t, T', L, h0, X', hL, e1, e2, ⟨⟨v', σ', nx', hv, hq, hH'⟩, hz, hk⟩, st⟩ | ⟨q, st₀, t, T', L, E, ce, h0, X', hL, e1, e2, ⟨⟨σ', nx', hq, hH'⟩, hz, hk⟩, hce, hcv, hcl, st⟩
  · cases hv
    rw [h0] at hz hk
    rw [← e1] at hz hk hH'
    have hn : nx ≤ nx' := by rw [← hH.1, ← hH'.1]; exact hz
    obtain ⟨t2, a1, b1⟩ := kk v σ' nx' hn hq p l e s m args below meth c A T'.heap (locs ++ L) la CC (hH'.weaken fun a _ _ h => hsub a h)
      ⟨Nat.le_trans hS.1 hz, fun q h1 h2 => by rw [hk q (Nat.lt_of_lt_of_le h1 hS.1) (fun z => h2 (hsub q z))]; exact hS.2.1 q h1 h2, fun q hq => by
        rcases List.mem_append.mp hq with h | h
        · exact hS.2.2 q h
        · exact hsub _ (hL q h)⟩ hl T' rfl X'
    exact ⟨t2, st t2 a1, b1⟩
  · rw [h0] at hz hk
    rw [← e1] at hz hk hH' hce
    have hn : nx ≤ nx' := by rw [← hH.1, ← hH'.1]; exact hz
    obtain ⟨hx, hb, hml, hown, hts, hK, -, hlk, hret, hnm, het, ho, htr⟩ := id CC
    have hS2 : va_S A s.heap T'.heap (locs ++ L) := ⟨Nat.le_trans hS.1 hz, fun q h1 h2 => by rw [hk q (Nat.lt_of_lt_of_le h1 hS.1) (fun z => h2 (hsub q z))]; exact hS.2.1 q h1 h2, fun q hq => by
        rcases List.mem_append.mp hq with h | h
        · exact hS.2.2 q h
        · exact hsub _ (hL q h)⟩
    obtain ⟨h, ⟨pre, x, suf, c1, c2, c3, c4, rfl, nm, c5, c6⟩, kw⟩ := kx E σ' nx' q hn hq
    have hw := kw p l e s m args below meth c A T'.heap (locs ++ L) la CC (hH'.weaken fun a _ _ h => hsub a h) hS2 hl
    obtain ⟨t2, a1, b1⟩ := vx_catch (pc := pc) (ls := la) (rest := rest) hown pre x suf (het.trans c1) (fun z hz => (c2 z hz).imp id fun ⟨z0, n2, z1, z2⟩ => ⟨z0, n2, hts _ z1, ho.2.2.2.2.2.2.2.2.2.2.2.1 _ z2⟩) c3 c4 (hts _ c5) (zN_use c6 ho.2.2.2.2.2.2.1) hce hcv hcl hw T' rfl X'
    exact ⟨t2, st.trans a1, b1⟩
theorem z_callVH {idx n b ci : Nat} {y : MethodName} {k2 : zK} {As fs : List Value} {Q' : Option Value → zH → Nat → Prop} {X' : String → zH → Nat → Prop} (d : decode k.2.1 pc = .ok (.invokevirtual idx, 3)) (hlk : zLv k.1 idx y k2 n) (hM : zMX G y k2 (.ref b :: As) σ nx Q' X') (hst : st = As.reverse ++ .ref b :: rest) (hσ : σ b = some (.inr (ci, fs))) (hci : (vwCl[ci]?).map (fun q => q.1) = some y.cls) (hn : As.length = n) (hR : zRoom k k2)
    (hca : ca + k2.2.2.2.1.cells ≤ k.2.2.2.1.cells) (hsl : sl + k2.2.2.2.1.slots ≤ k.2.2.2.1.slots) (hW : (rest.map fun v => v.category).sum ≤ 8)
    (kx : ∀ (E : String) (σ' : zH) (nx' q : Nat), nx ≤ nx' → X' E σ' nx' → ∃ h, zCatch k pc E h ∧ zWP G k F h ls [.ref q] σ' nx' (ca + k2.2.2.2.1.cells) (sl + k2.2.2.2.1.slots))
    (kk : ∀ (v : Option Value) (σ' : zH) (nx' : Nat), nx ≤ nx' → Q' v σ' nx' → zWP G k F (pc + 3) ls (v.toList ++ rest) σ' nx' (ca + k2.2.2.2.1.cells) (sl + k2.2.2.2.1.slots)) : zWP G k F pc ls st σ nx ca sl := by
  intro p l e s m args below meth c A H locs la CC hH hS hl
  obtain ⟨hx, hb, hml, hown, hts, hK, hA, -, -, -, -, ho, htr⟩ := id CC
  obtain ⟨h1, h2, h3, h4, h5, h6⟩ := hlk
  obtain ⟨ws, q0, hP, -, hq, -⟩ := hH.at hσ
  obtain ⟨r, hr1, hr2⟩ := Option.map_eq_some_iff.mp hci
  have hrv := va_recv hK hP hr1 hq
  rw [hr2] at hrv
  exact z_runH CC hH hS hl (vx_runV (As := As) (rest := rest) ⟨hx, hb, hml, hown, hts⟩ (hM l htr) (cwV n hts (zws (a := [.methodLink k.1 idx y, .instanceMethod y, .selects y.cls y y, .initialized y.cls]) (by simp only [List.mem_cons, List.mem_nil_iff, or_false, forall_eq_or_imp, forall_eq]; exact ⟨h1, h2, h3, h4⟩) h5) rfl rfl rfl ⟨rfl, h6⟩ hR) ⟨zPre_blind, hrv, fun U hU hW => ⟨rfl, zPre_in CC hH hS hU hW⟩⟩ rfl hn hl.1 hst (lv_room hW) d ⟨hca, hsl⟩) kx kk
-- the script
/-- the end that a walk over a script comes to -/
def zSc (a L : Nat) (xs : Nat → Int32) (F : zF) : zF := fun below args s A t => (va_X a L xs s s.heap ∧ a < s.heap.size ∧ ¬ A a) → F below args s A t
theorem z_sc {a L : Nat} {xs : Nat → Int32} (kk : ∀ (p : Program) (l : Launch) (e : Env) (s : State) (m : MethodId) (args : Array Value) (below : List Frame) (meth : Method) (c : Code) (A : Nat → Prop) (H : Heap) (locs : List Loc) (la : Array Slot), (va_X a L xs s s.heap ∧ a < s.heap.size ∧ ¬ A a) →
    zC G k p l s m args meth c A → zHR G A σ nx H → va_S A s.heap H locs → lv_has la k.2.2.1 (zTL 0 ls) → W p l e k.2.2.2.1 s m args below meth c H locs ca sl (zSc a L xs F below args s A) (F0 m pc la st)) : zWP G k (zSc a L xs F) pc ls st σ nx ca sl := by
  intro p l e s m args below meth c A H locs la C hH hS hl
  by_cases h : va_X a L xs s s.heap ∧ a < s.heap.size ∧ ¬ A a
  · exact kk p l e s m args below meth c A H locs la h C hH hS hl
  · exact fun T hT X => ⟨_, Steps.refl _, fun q => absurd q h⟩
theorem z_slen {a L : Nat} {xs : Nat → Int32} (d : decode k.2.1 pc = .ok (.arraylength, 1))
    (kk : zWP G k (zSc a L xs F) (pc + 1) ls (.int (Int32.ofNat L) :: st) σ nx ca sl) : zWP G k (zSc a L xs F) pc ls (.ref a :: st) σ nx ca sl := by
  refine z_sc fun p l e s m args below meth c A H locs la h C hH hS hl => ?_
  exact va_slen C.1 C.2.1 h.1 h.2.1 h.2.2 hS d (kk p l e s m args below meth c A H locs la C hH hS hl)
theorem z_sld {a L : Nat} {xs : Nat → Int32} {i : Int32} (d : decode k.2.1 pc = .ok (.iaload, 1)) (hi : vp_in i L)
    (kk : zWP G k (zSc a L xs F) (pc + 1) ls (.int (xs i.toNatClampNeg) :: st) σ nx ca sl) : zWP G k (zSc a L xs F) pc ls (.int i :: .ref a :: st) σ nx ca sl := by
  refine z_sc fun p l e s m args below meth c A H locs la h C hH hS hl => ?_
  exact va_sld C.1 C.2.1 h.1 h.2.1 h.2.2 hS hi d (kk p l e s m args below meth c A H locs la C hH hS hl)
theorem z_tableOut {dflt lo hi : Int} {offs : Array Int} {len : Nat} {x : Int32} {tgt : Nat} (d : decode k.2.1 pc = .ok (.tableswitch dflt lo hi offs, len)) (h : x.toInt < lo ∨ hi < x.toInt) (ht : (pc : Int) + dflt = (tgt : Int))
    (kk : zWP G k F tgt ls st σ nx ca sl) : zWP G k F pc ls (.int x :: st) σ nx ca sl := by
  intro p l e s m args below meth c A H locs la C hH hS hl
  exact lv_tableOut C.1 C.2.1 d h ht (kk p l e s m args below meth c A H locs la C hH hS hl)
theorem z_tableIn {dflt lo hi : Int} {offs : Array Int} {len : Nat} {x : Int32} {off : Int} {tgt : Nat} (d : decode k.2.1 pc = .ok (.tableswitch dflt lo hi offs, len)) (h1 : ¬ x.toInt < lo) (h2 : ¬ hi < x.toInt) (ho : offs[(x.toInt - lo).toNat]? = some off) (ht : (pc : Int) + off = (tgt : Int))
    (kk : zWP G k F tgt ls st σ nx ca sl) : zWP G k F pc ls (.int x :: st) σ nx ca sl := by
  intro p l e s m args below meth c A H locs la C hH hS hl
  exact lv_tableIn C.1 C.2.1 d h1 h2 ho ht (kk p l e s m args below meth c A H locs la C hH hS hl)
end
