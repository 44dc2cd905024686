/-! THE PURE LAYER: a heap is a function from addresses to contents; a walk speaks of it, of the next address and of the cells and slots made so far; the rows of the machine stand behind it once for each kind of instruction -/
abbrev zG : Type := va_G × (Nat → ClassId) × (Nat → Nat)
abbrev zH : Type := Nat → Option va_E
/-- own class, code, locals, room, answer, name, handlers -/
abbrev zK : Type := String × ByteArray × Nat × Room × Option FieldType × String × List (Nat × Nat × Nat × Nat)
abbrev zF : Type := List Frame → Array Value → State → (Nat → Prop) → State → Prop
abbrev zL : Type := List (Option Value)
def zu (σ : zH) (a : Nat) (e : va_E) : zH := fun x => if x = a then some e else σ x
theorem zu_eq (σ : zH) (a : Nat) (e : va_E) : zu σ a e a = some e := if_pos rfl
theorem zu_ne {σ : zH} {a x : Nat} {e : va_E} (h : x ≠ a) : zu σ a e x = σ x := if_neg h
theorem zu_at {σ : zH} {a x : Nat} {e : va_E} (h : x = a) : zu σ a e x = some e := if_pos h
-- locals, by their places
def zTL : Nat → zL → List (Nat × Value)
  | _, [] => []
  | i, none :: t => zTL (i + 1) t
  | i, some v :: t => (i, v) :: zTL (i + 1) t
def zkill : Option Value → Option Value
  | some (.long _) => none
  | some (.double _) => none
  | o => o
def zset : zL → Nat → Value → zL
  | [], _, _ => []
  | _ :: t, 0, v => some v :: t
  | a :: t, 1, v => zkill a :: zset t 0 v
  | a :: t, i + 2, v => a :: zset t (i + 1) v
def zset2 : zL → Nat → Value → zL
  | [], _, _ => []
  | [_], 0, v => [some v]
  | _ :: _ :: t, 0, v => some v :: none :: t
  | a :: t, 1, v => zkill a :: zset2 t 0 v
  | a :: t, i + 2, v => a :: zset2 t (i + 1) v
theorem zTL_mem : ∀ (ls : zL) (i j : Nat) (v : Value), (j, v) ∈ zTL i ls ↔ i ≤ j ∧ ls[j - i]? = some (some v)
  | [], i, j, v => by simp [zTL]
  | none :: t, i, j, v => by
    rw [zTL, zTL_mem t (i + 1) j v]
    constructor
    · rintro ⟨h1, h2⟩
      refine ⟨by omega, ?_⟩
      rw [show j - i = (j - (i + 1)) + 1 by omega, List.getElem?_cons_succ]
      exact h2
    · rintro ⟨h1, h2⟩
      rcases Nat.eq_or_lt_of_le h1 with h | h
      · subst h
        simp at h2
      · refine ⟨h, ?_⟩
        rw [show j - i = (j - (i + 1)) + 1 by omega, List.getElem?_cons_succ] at h2
        exact h2
  | some w :: t, i, j, v => by
    rw [zTL, List.mem_cons, zTL_mem t (i + 1) j v]
    constructor
    · rintro (h | ⟨h1, h2⟩)
      · cases h
        exact ⟨Nat.le_refl _, by simp⟩
      · refine ⟨by omega, ?_⟩
        rw [show j - i = (j - (i + 1)) + 1 by omega, List.getElem?_cons_succ]
        exact h2
    · rintro ⟨h1, h2⟩
      rcases Nat.eq_or_lt_of_le h1 with h | h
      · subst h
        rw [Nat.sub_self, List.getElem?_cons_zero] at h2
        cases h2
        exact Or.inl rfl
      · refine Or.inr ⟨h, ?_⟩
        rw [show j - i = (j - (i + 1)) + 1 by omega, List.getElem?_cons_succ] at h2
        exact h2
theorem zkill_some {o : Option Value} {w : Value} (h : zkill o = some w) : o = some w ∧ w.category ≠ 2 := by
  cases o with
  | none => cases h
  | some x => cases x <;> first | (cases h; done) | (cases h; exact ⟨rfl, by decide⟩) | (cases h; exact ⟨rfl, by simp [Value.category]⟩)
theorem zset_at : ∀ (ls : zL) (i j : Nat) (v w : Value), (zset ls i v)[j]? = some (some w) → (j = i ∧ w = v) ∨ (j ≠ i ∧ ls[j]? = some (some w) ∧ ¬ (j + 1 = i ∧ w.category = 2))
  | [], i, j, v, w, h => by simp [zset] at h
  | a :: t, 0, j, v, w, h => by
    cases j with
    | zero => rw [zset, List.getElem?_cons_zero] at h; cases h; exact Or.inl ⟨rfl, rfl⟩
    | succ j => rw [zset, List.getElem?_cons_succ] at h; exact Or.inr ⟨by omega, by rw [List.getElem?_cons_succ]; exact h, by omega⟩
  | a :: t, 1, j, v, w, h => by
    cases j with
    | zero =>
      rw [zset, List.getElem?_cons_zero] at h
      obtain ⟨h1, h2⟩ := zkill_some (Option.some.inj h)
      exact Or.inr ⟨by omega, by rw [List.getElem?_cons_zero, h1], fun q => h2 q.2⟩
    | succ j =>
      rw [zset, List.getElem?_cons_succ] at h
      rcases zset_at t 0 j v w h with ⟨h1, h2⟩ | ⟨h1, h2, h3⟩
      · exact Or.inl ⟨by omega, h2⟩
      · exact Or.inr ⟨by omega, by rw [List.getElem?_cons_succ]; exact h2, by omega⟩
  | a :: t, i + 2, j, v, w, h => by
    cases j with
    | zero => rw [zset, List.getElem?_cons_zero] at h; exact Or.inr ⟨by omega, by rw [List.getElem?_cons_zero]; exact h, by omega⟩
    | succ j =>
      rw [zset, List.getElem?_cons_succ] at h
      rcases zset_at t (i + 1) j v w h with ⟨h1, h2⟩ | ⟨h1, h2, h3⟩
      · exact Or.inl ⟨by omega, h2⟩
      · exact Or.inr ⟨by omega, by rw [List.getElem?_cons_succ]; exact h2, fun q => h3 ⟨by omega, q.2⟩⟩
theorem zset2_at : ∀ (ls : zL) (i j : Nat) (v w : Value), (zset2 ls i v)[j]? = some (some w) → (j = i ∧ w = v) ∨ (j ≠ i ∧ (j ≠ i + 1 ∧ ls[j]? = some (some w) ∧ ¬ (j + 1 = i ∧ w.category = 2)))
  | [], i, j, v, w, h => by simp [zset2] at h
  | [a], 0, j, v, w, h => by
    cases j with
    | zero => rw [zset2, List.getElem?_cons_zero] at h; cases h; exact Or.inl ⟨rfl, rfl⟩
    | succ j => simp [zset2] at h
  | a :: b :: t, 0, j, v, w, h => by
    match j, h with
    | 0, h => rw [zset2, List.getElem?_cons_zero] at h; cases h; exact Or.inl ⟨rfl, rfl⟩
    | 1, h => simp [zset2] at h
    | j + 2, h => rw [zset2, List.getElem?_cons_succ, List.getElem?_cons_succ] at h; exact Or.inr ⟨by omega, by omega, by rw [List.getElem?_cons_succ, List.getElem?_cons_succ]; exact h, by omega⟩
  | a :: t, 1, j, v, w, h => by
    cases j with
    | zero =>
      rw [zset2, List.getElem?_cons_zero] at h
      obtain ⟨h1, h2⟩ := zkill_some (Option.some.inj h)
      exact Or.inr ⟨by omega, by omega, by rw [List.getElem?_cons_zero, h1], fun q => h2 q.2⟩
    | succ j =>
      rw [zset2, List.getElem?_cons_succ] at h
      rcases zset2_at t 0 j v w h with ⟨h1, h2⟩ | ⟨h1, h2, h3, h4⟩
      · exact Or.inl ⟨by omega, h2⟩
      · exact Or.inr ⟨by omega, by omega, by rw [List.getElem?_cons_succ]; exact h3, by omega⟩
  | a :: t, i + 2, j, v, w, h => by
    cases j with
    | zero => rw [zset2, List.getElem?_cons_zero] at h; exact Or.inr ⟨by omega, by omega, by rw [List.getElem?_cons_zero]; exact h, by omega⟩
    | succ j =>
      rw [zset2, List.getElem?_cons_succ] at h
      rcases zset2_at t (i + 1) j v w h with ⟨h1, h2⟩ | ⟨h1, h2, h3, h4⟩
      · exact Or.inl ⟨by omega, h2⟩
      · exact Or.inr ⟨by omega, by omega, by rw [List.getElem?_cons_succ]; exact h3, fun q => h4 ⟨by omega, q.2⟩⟩
theorem zhas_at {la : Array Slot} {nL : Nat} {ls : zL} (h : lv_has la nL (zTL 0 ls)) {i : Nat} {v : Value} (hl : ls[i]? = some (some v)) : la[i]? = some (.val v) :=
  h.2.2 (i, v) ((zTL_mem ls 0 i v).mpr ⟨Nat.zero_le _, hl⟩)
theorem zhas_set {la : Array Slot} {nL i : Nat} {ls : zL} {v : Value} (h : lv_has la nL ((i, v) :: (zTL 0 ls).filter (fun q => !(q.1 == i) && !(q.1 + 1 == i && q.2.category == 2)))) : lv_has la nL (zTL 0 (zset ls i v)) := by
  refine ⟨h.1, h.2.1, fun q hq => h.2.2 q ?_⟩
  obtain ⟨j, w⟩ := q
  have h1 := ((zTL_mem _ 0 j w).mp hq).2
  rcases zset_at ls i j v w h1 with ⟨rfl, rfl⟩ | ⟨a, b, c⟩
  · exact List.mem_cons_self
  · refine List.mem_cons_of_mem _ (List.mem_filter.mpr ⟨(zTL_mem ls 0 j w).mpr ⟨Nat.zero_le _, b⟩, ?_⟩)
    simp only [Bool.and_eq_true, Bool.not_eq_true', beq_eq_false_iff_ne, Bool.and_eq_false_iff]
    refine ⟨a, ?_⟩
    by_cases q : j + 1 = i
    · exact Or.inr fun z => c ⟨q, z⟩
    · exact Or.inl q
theorem zhas_set2 {la : Array Slot} {nL i : Nat} {ls : zL} {v : Value} (h : lv_has la nL ((i, v) :: (zTL 0 ls).filter (fun q => !(q.1 == i) && (!(q.1 == i + 1) && !(q.1 + 1 == i && q.2.category == 2))))) : lv_has la nL (zTL 0 (zset2 ls i v)) := by
  refine ⟨h.1, h.2.1, fun q hq => h.2.2 q ?_⟩
  obtain ⟨j, w⟩ := q
  have h1 := ((zTL_mem _ 0 j w).mp hq).2
  rcases zset2_at ls i j v w h1 with ⟨rfl, rfl⟩ | ⟨a, b, b2, c⟩
  · exact List.mem_cons_self
  · refine List.mem_cons_of_mem _ (List.mem_filter.mpr ⟨(zTL_mem ls 0 j w).mpr ⟨Nat.zero_le _, b2⟩, ?_⟩)
    simp only [Bool.and_eq_true, Bool.not_eq_true', beq_eq_false_iff_ne, Bool.and_eq_false_iff]
    refine ⟨a, b, ?_⟩
    by_cases q : j + 1 = i
    · exact Or.inr fun z => c ⟨q, z⟩
    · exact Or.inl q
-- words: one list for all methods
def zW : List Cond := lw_tbl.filter goodWord
theorem zW_in {w : Cond} (h : w ∈ lw_tbl) (g : goodWord w = true) : w ∈ zW := List.mem_filter.mpr ⟨h, g⟩
theorem zW_t {w : Cond} {i : Nat} (h : tables_1[i]? = some w) (g : goodWord w = true) : w ∈ zW := zW_in (List.mem_append_right _ (List.mem_of_getElem? h)) g
theorem zW_good {a : List Cond} (h : ∀ w ∈ a, w ∈ zW) : GoodIn zW a := fun w hw => ⟨h w hw, good_of_word (List.mem_filter.mp (h w hw)).2⟩
theorem zW_all : GoodIn zW zW := zW_good fun _ h => h
-- contexts
def zTys (G : zG) : List (ClassId × FieldType) := [(G.2.1 0, .int), (G.2.1 1, .int), (G.2.1 2, .int), (G.2.1 3, .object "java/lang/Object"), (G.2.1 4, .object "java/lang/Object")]
def zKn (k : Nat) : String := match k with
  | 0 => "SOURCE"
  | 1 => "MAP"
  | 2 => "FILTER"
  | 3 => "UNION"
  | 4 => "GROUP"
  | _ => "JOIN"
def zStr : List (Nat × String) := [(118, "the node is no source, or has 12 rows"), (134, "how or constant is out of range"), (165, "its bound or width would be too great"), (170, "how is out of range"), (175, "its bound would be too great"), (215, "the node is no join"), (224, "workers is out of range"), (230, "there is no such worker"), (233, "slowness is out of range"), (274, "there are not so many stages"), (332, "there is no such node"), (334, "there are 14 nodes"), (336, "there is no such attempt"), (338, "partitions is out of range"), (340, "rows is out of range"), (342, "there is no such partition"), (344, "there is no such row")]
def zIsN : Cond → Bool
  | .fieldLinkNest .. => true
  | .methodLinkNest .. => true
  | .castable .. => true
  | .declares .. => true
  | _ => false
def zN : List Cond := lw_tbl.filter zIsN
theorem zN_in {w : Cond} {i : Nat} (h : tables_1[i]? = some w) (g : zIsN w = true) : w ∈ zN := List.mem_filter.mpr ⟨List.mem_append_right _ (List.mem_of_getElem? h), g⟩
abbrev zI (G : zG) (n : Nat) (f : Nat → Int32) : va_E := .inl (G.2.1 0, n, .inl f)
abbrev zZ (G : zG) (n : Nat) (f : Nat → Int32) : va_E := .inl (G.2.1 1, n, .inl f)
abbrev zJ (G : zG) (n : Nat) (f : Nat → Int64) : va_E := .inl (G.2.1 2, n, .inr (.inl f))
abbrev zR (G : zG) (n : Nat) (f : Nat → Option Nat) : va_E := .inl (G.2.1 3, n, .inr (.inr (.inr (.inr f))))
abbrev zE (G : zG) (n : Nat) (f : Nat → Option Nat) : va_E := .inl (G.2.1 4, n, .inr (.inr (.inr (.inr f))))
def zHR (G : zG) (A : Nat → Prop) (σ : zH) (nx : Nat) (H : Heap) : Prop := H.size = nx ∧ ∃ ws : va_W, va_P G.1 vwCl ws H ∧ va_D A ws ∧ ∀ a e, σ a = some e ↔ (a, e) ∈ ws
def zA (σ : zH) (nx : Nat) : Nat → Prop := fun q => (∃ e, σ q = some e) ∨ nx ≤ q
def zNo : List (String × String) := [("java/lang/IllegalArgumentException", "java/lang/IndexOutOfBoundsException"), ("java/lang/IllegalStateException", "java/lang/IndexOutOfBoundsException"), ("java/lang/IllegalStateException", "java/lang/IllegalArgumentException")]
def zO (G : zG) (A : Nat → Prop) (U : State) (H : Heap) : Prop :=
  (∀ k, k < 6 → va_Z RX5 (zKn k) "LTaskgraphic$Kind;" (.ref (G.2.2 k)) A U H) ∧ vx_Zq Bundle.tN "UNASSIGNED_STACK" Bundle.steD A U H ∧ vx_Zq Bundle.tN "SUPPRESSED_SENTINEL" Bundle.listD A U H ∧
  va_Z RJx4a65c "DEFAULTCAPACITY_EMPTY_ELEMENTDATA" "[Ljava/lang/Object;" (.ref (G.2.2 6)) A U H ∧ (∃ cell : Cell, H[G.2.2 6]? = some cell ∧ U.isArrayOf cell (.object "java/lang/Object") ∧ cell.slots.size = 0 ∧ ¬ A (G.2.2 6)) ∧
  (∀ q ∈ zStr, ∃ sa, vk_R RX11 q.1 q.2 sa U) ∧ (∀ w ∈ zN, va_Nw w U) ∧ va_AO "java/lang/Object" U ∧ va_AO "java/lang/Object" U ∧ va_Mi "[Ljava/lang/Object;" (G.2.2 7) U ∧ va_Dc U ∧ (∀ q ∈ zNo, va_Nc q.1 q.2 U) ∧ va_X (G.2.2 8) (G.2.2 9) (fun j => Int32.ofNat (G.2.2 (10 + j))) U H ∧ ¬ A (G.2.2 8)
theorem zN_warm {s U : State} (hW : s.WarmedH U.vm) (h : ∀ w ∈ zN, va_Nw w s) : ∀ w ∈ zN, va_Nw w U := by
  intro w hw
  have h1 := h w hw
  have h2 := (List.mem_filter.mp hw).2
  cases w <;> first | (cases h2; done) | exact va_Nw.warmF hW h1 | exact va_Nw.warmM hW h1 | exact va_Nw.warmC hW h1 | exact va_Nw.warmD hW h1
theorem zN_same {s U : State} (hv : s.vm = U.vm) (h : ∀ w ∈ zN, va_Nw w s) : ∀ w ∈ zN, va_Nw w U := by
  intro w hw
  have h1 := h w hw
  have h2 := (List.mem_filter.mp hw).2
  cases w <;> first | (cases h2; done) | exact va_Nw.same rfl hv h1
theorem zAO_warm {C : String} {s U : State} (hW : s.WarmedH U.vm) (h : va_AO C s) : va_AO C U := by first | exact va_AO.warm hW h | exact va_AO.moved hW.alike h | exact va_AO.moved hW h
theorem zAO_same {C : String} {s U : State} (hv : U.vm = s.vm) (h : va_AO C s) : va_AO C U := va_AO.moved (u := s) (U := U) (by rw [hv]; exact Vm.Alike.refl _) h
theorem zO.step {G : zG} {A B : Nat → Prop} {s U : State} {H : Heap} {locs : List Loc} (h : zO G A s s.heap) (hW : s.WarmedH U.vm) (hU : U.heap = H) (hS : va_S A s.heap H locs) (hB : ∀ q, B q → A q) : zO G B U U.heap := by
  subst hU
  have hk : ∀ a : Nat, a < s.heap.size → ¬ A a → U.heap[a]? = s.heap[a]? := hS.2.1
  obtain ⟨h1, h2, h3, h4, ⟨cell, c1, c2, c3, c4⟩, h5, h6, h7, h8, h10, h11, h12, h13, h14⟩ := h
  refine ⟨fun k hk6 => (((h1 k hk6).moved hW.alike).kept hk).narrow hB, ((h2.moved hW.alike).kept hk).narrow hB, ((h3.moved hW.alike).kept hk).narrow hB, ((h4.moved hW.alike).kept hk).narrow hB,
    ⟨cell, by rw [hk _ (Array.getElem?_eq_some_iff.mp c1).1 c4]; exact c1, State.isArrayOf_alike hW.alike c2, c3, fun z => c4 (hB _ z)⟩, fun q hq => ?_, zN_warm hW h6, zAO_warm hW h7, zAO_warm hW h8, va_Mi.moved hW.alike h10, va_Dc.moved hW.alike h11, fun q hq => va_Nc.moved hW.alike (h12 q hq), (h13.moved hW.alike).kept (hk _ (Array.getElem?_eq_some_iff.mp h13.choose_spec.1).1 h14), fun z => h14 (hB _ z)⟩
  obtain ⟨sa, h9⟩ := h5 q hq
  exact ⟨sa, h9.warm hW⟩
theorem zO.calling {G : zG} {A : Nat → Prop} {U V : State} (hv : V.vm = U.vm) (hh : V.heap = U.heap) (h : zO G A U U.heap) : zO G A V V.heap := by
  have ha : U.vm.Alike V.vm := by rw [hv]; exact Vm.Alike.refl _
  obtain ⟨h1, h2, h3, h4, ⟨cell, c1, c2, c3, c4⟩, h5, h6, h7, h8, h10, h11, h12, h13, h14⟩ := h
  rw [hh]
  refine ⟨fun k hk6 => (h1 k hk6).moved ha, h2.moved ha, h3.moved ha, h4.moved ha, ⟨cell, c1, State.isArrayOf_alike ha c2, c3, c4⟩, fun q hq => ?_, zN_same hv.symm h6, zAO_same hv h7, zAO_same hv h8, va_Mi.moved ha h10, va_Dc.moved ha h11, fun q hq => va_Nc.moved ha (h12 q hq), h13.moved ha, h14⟩
  obtain ⟨sa, h9⟩ := h5 q hq
  exact ⟨sa, h9.same hv⟩
/-- what stays the same while a body is walked -/
def zC (G : zG) (k : zK) (p : Program) (l : Launch) (s : State) (m : MethodId) (args : Array Value) (meth : Method) (c : Code) (A : Nat → Prop) : Prop :=
  p.tables.exec = Jvm.exec ∧ c.code = k.2.1 ∧ c.maxLocals = k.2.2.1 ∧ s.vm.findClass k.1 = some m.cls ∧ (∀ w ∈ zW, w.before args s = true) ∧ va_K G.1 vwCl (zTys G) s ∧ (∀ q, s.heap.size ≤ q → A q) ∧
  meth.locks = false ∧ meth.sig.returnType = k.2.2.2.2.1 ∧ meth.name = k.2.2.2.2.2.1 ∧ c.exceptionTable.toList = tableOf k.2.2.2.2.2.2 ∧ zO G A s s.heap ∧ l.stackTraces = false
/-- THE WALK: at pc, with these locals, this stack, this heap, so many cells and slots made: it comes to what F says -/
def zWP (G : zG) (k : zK) (F : zF) (pc : Nat) (ls : zL) (st : List Value) (σ : zH) (nx ca sl : Nat) : Prop :=
  ∀ (p : Program) (l : Launch) (e : Env) (s : State) (m : MethodId) (args : Array Value) (below : List Frame) (meth : Method) (c : Code) (A : Nat → Prop) (H : Heap) (locs : List Loc) (la : Array Slot),
    zC G k p l s m args meth c A → zHR G A σ nx H → va_S A s.heap H locs → lv_has la k.2.2.1 (zTL 0 ls) → W p l e k.2.2.2.1 s m args below meth c H locs ca sl (F below args s A) (F0 m pc la st)
def zQc (G : zG) (A : Nat → Prop) (Q : Option Value → zH → Nat → Prop) : Array Value → State → Outcome → State → Prop := fun _ st o t => (∃ (v : Option Value) (σ : zH) (nx : Nat), o = .returned v ∧ Q v σ nx ∧ zHR G A σ nx t.heap) ∧ va_F A st t
def zXC (G : zG) (A : Nat → Prop) (X : String → zH → Nat → Prop) : String → State → State → Prop := fun E st t => (∃ (σ : zH) (nx : Nat), X E σ nx ∧ zHR G A σ nx t.heap) ∧ va_F A st t
def zFM (G : zG) (R : Room) (Q : Option Value → zH → Nat → Prop) : zF := fun below args s A => MQ below (zQc G A Q) args s R.cells R.slots A
def zFX (G : zG) (R : Room) (Q : Option Value → zH → Nat → Prop) (X : String → zH → Nat → Prop) : zF := fun below args s A => vx_MQ below (zQc G A Q) (zXC G A X) args s R.cells R.slots A
def zPre (G : zG) (σ : zH) (nx : Nat) (U : State) : Prop := zHR G (fun _ => True) σ nx U.heap ∧ va_K G.1 vwCl (zTys G) U ∧ zO G (zA σ nx) U U.heap
/-- a method's contract -/
def zM (G : zG) (y : MethodName) (k : zK) (as : List Value) (σ : zH) (nx : Nat) (Q : Option Value → zH → Nat → Prop) : Prop :=
  ∀ l : Launch, l.stackTraces = false → Met l y (.code y k.2.1 k.2.2.1 k.2.2.2.2.1 :: zW) k.2.2.2.1 (va_Pc as (zPre G σ nx)) (zQc G (zA σ nx) Q) k.2.2.2.1.cells k.2.2.2.1.slots (zA σ nx)
/-- .. of one that may throw -/
def zMX (G : zG) (y : MethodName) (k : zK) (as : List Value) (σ : zH) (nx : Nat) (Q : Option Value → zH → Nat → Prop) (X : String → zH → Nat → Prop) : Prop :=
  ∀ l : Launch, l.stackTraces = false → vx_Met l y (.code y k.2.1 k.2.2.1 k.2.2.2.2.1 :: zW) k.2.2.2.1 (va_Pc as (zPre G σ nx)) (zQc G (zA σ nx) Q) (zXC G (zA σ nx) X) k.2.2.2.1.cells k.2.2.2.1.slots (zA σ nx)
-- heaps
theorem zHR.at {G : zG} {A : Nat → Prop} {σ : zH} {nx : Nat} {H : Heap} (h : zHR G A σ nx H) {a : Nat} {e : va_E} (he : σ a = some e) : ∃ (ws : va_W) (q0 : Nat), va_P G.1 vwCl ws H ∧ va_D A ws ∧ ws[q0]? = some (a, e) ∧ ∀ a e, σ a = some e ↔ (a, e) ∈ ws := by
  obtain ⟨-, ws, h1, h2, h3⟩ := h
  obtain ⟨i, hi⟩ := List.getElem?_of_mem ((h3 a e).mp he)
  exact ⟨ws, i, h1, h2, hi, h3⟩
theorem zHR.lt {G : zG} {A : Nat → Prop} {σ : zH} {nx : Nat} {H : Heap} (h : zHR G A σ nx H) {a : Nat} {e : va_E} (he : σ a = some e) : a < nx := by
  obtain ⟨ws, q0, h1, -, h3, -⟩ := h.at he
  rw [← h.1]
  exact (h1 q0 _ h3).lt
theorem zHR.weaken {G : zG} {A B : Nat → Prop} {σ : zH} {nx : Nat} {H : Heap} (h : zHR G A σ nx H) (hB : ∀ a e, σ a = some e → A a → B a) : zHR G B σ nx H := by
  obtain ⟨h0, ws, h1, h2, h3⟩ := h
  exact ⟨h0, ws, h1, h2.weaken fun k q hk hA => hB q.1 q.2 ((h3 q.1 q.2).mpr (List.mem_of_getElem? hk)) hA, h3⟩
theorem zHR.isA {G : zG} {A : Nat → Prop} {σ : zH} {nx : Nat} {H : Heap} (h : zHR G A σ nx H) {a : Nat} {e : va_E} (he : σ a = some e) : A a := by
  obtain ⟨ws, q0, -, h2, h3, -⟩ := h.at he
  exact h2.2 q0 _ h3
theorem zHR.sub {G : zG} {A : Nat → Prop} {σ : zH} {nx : Nat} {H : Heap} (h : zHR G A σ nx H) (hA : ∀ q, nx ≤ q → A q) : ∀ q, zA σ nx q → A q := by
  rintro q (⟨e, he⟩ | hq)
  · exact h.isA he
  · exact hA q hq
theorem zu_ws {A : Nat → Prop} {σ : zH} {ws : va_W} {q0 a : Nat} {e0 e : va_E} (hD : va_D A ws) (h3 : ∀ a e, σ a = some e ↔ (a, e) ∈ ws) (hq : ws[q0]? = some (a, e0)) : ∀ b x, zu σ a e b = some x ↔ (b, x) ∈ ws.set q0 (a, e) := by
  have hl := (List.getElem?_eq_some_iff.mp hq).1
  intro b x
  by_cases hb : b = a
  · subst hb
    rw [zu_eq]
    constructor
    · intro h
      cases h
      exact List.mem_of_getElem? (List.getElem?_set_self hl)
    · intro h
      obtain ⟨j, hj⟩ := List.getElem?_of_mem h
      by_cases hjq : j = q0
      · subst hjq
        rw [List.getElem?_set_self hl] at hj
        cases hj
        rfl
      · rw [List.getElem?_set_ne (Ne.symm hjq)] at hj
        exact absurd (hD.1 j q0 _ _ hj hq rfl) hjq
  · rw [zu_ne hb, h3]
    constructor
    · intro h
      obtain ⟨j, hj⟩ := List.getElem?_of_mem h
      have hjq : j ≠ q0 := by
        intro z
        subst z
        rw [hq] at hj
        cases hj
        exact hb rfl
      exact List.mem_of_getElem? (i := j) (by rw [List.getElem?_set_ne (Ne.symm hjq)]; exact hj)
    · intro h
      obtain ⟨j, hj⟩ := List.getElem?_of_mem h
      have hjq : j ≠ q0 := by
        intro z
        subst z
        rw [List.getElem?_set_self hl] at hj
        cases hj
        exact hb rfl
      rw [List.getElem?_set_ne (Ne.symm hjq)] at hj
      exact List.mem_of_getElem? hj
theorem zHR.put {G : zG} {A : Nat → Prop} {σ : zH} {nx a : Nat} {H H1 : Heap} {e0 e : va_E} (h : zHR G A σ nx H) (he : σ a = some e0) (hz : H1.size = H.size) (ha : va_at G.1 vwCl (a, e) H1) (ho : ∀ q : Nat, q ≠ a → H1[q]? = H[q]?) : zHR G A (zu σ a e) nx H1 := by
  obtain ⟨ws, q0, h1, h2, h3, h4⟩ := h.at he
  exact ⟨hz.trans h.1, ws.set q0 (a, e), h1.set h2 h3 ha ho, h2.set h3, zu_ws h2 h4 h3⟩
theorem zHR.push {G : zG} {A : Nat → Prop} {σ : zH} {nx : Nat} {H H1 : Heap} {e : va_E} (h : zHR G A σ nx H) (hz : H1.size = nx + 1) (ha : va_at G.1 vwCl (nx, e) H1) (ho : ∀ q : Nat, q < nx → H1[q]? = H[q]?) (hA : A nx) : zHR G A (zu σ nx e) (nx + 1) H1 := by
  have hlt : ∀ a e, σ a = some e → a < nx := fun a e he => h.lt he
  obtain ⟨h0, ws, h1, h2, h3⟩ := h
  refine ⟨hz, ws ++ [(nx, e)], va_P.app (h1.kept fun k q hk => ho q.1 ?_) (fun k q hk => ?_), h2.push h1 h0.symm hA, fun b x => ?_⟩
  · exact hlt q.1 q.2 ((h3 _ _).mpr (List.mem_of_getElem? hk))
  · have hk0 : k < 1 := (List.getElem?_eq_some_iff.mp hk).1
    rw [show k = 0 by omega] at hk
    cases hk
    exact ha
  · rw [List.mem_append, List.mem_singleton]
    by_cases hb : b = nx
    · subst hb
      rw [zu_eq]
      constructor
      · intro z
        cases z
        exact Or.inr rfl
      · rintro (z | z)
        · exact absurd (hlt _ _ ((h3 _ _).mpr z)) (by omega)
        · cases z
          rfl
    · rw [zu_ne hb, h3]
      constructor
      · exact Or.inl
      · rintro (z | z)
        · exact z
        · cases z
          exact absurd rfl hb
theorem zObj1 : Cond.instanceMethod objectInit ∈ zW := zW_t (i := 36) (by decide +kernel) (by decide +kernel)
theorem zObj2 : Cond.code objectInit ⟨#[0xb1]⟩ 1 none ∈ zW := zW_t (i := 37) (by decide +kernel) (by decide +kernel)
section ZROWS
variable {G : zG} {k : zK} {F : zF} {pc nx ca sl : Nat} {ls : zL} {st : List Value} {σ : zH}
theorem z_iconst {n : Int} {v : Int32} (d : decode k.2.1 pc = .ok (.iconst n, 1)) (hv : Int32.ofInt n = v)
    (kk : zWP G k F (pc + 1) ls (.int v :: st) σ nx ca sl) : zWP G k F (pc) ls (st) σ nx ca sl := by
  intro p l e s m args below meth c A H locs la C hH hS hl
  exact lv_iconst C.1 C.2.1 d hv (kk p l e s m args below meth c A H locs la C hH hS hl)

theorem z_bipush {n : Int} {v : Int32} (d : decode k.2.1 pc = .ok (.bipush n, 2)) (hv : (Int8.ofInt n).toInt32 = v)
    (kk : zWP G k F (pc + 2) ls (.int v :: st) σ nx ca sl) : zWP G k F (pc) ls (st) σ nx ca sl := by
  intro p l e s m args below meth c A H locs la C hH hS hl
  exact lv_bipush C.1 C.2.1 d hv (kk p l e s m args below meth c A H locs la C hH hS hl)

theorem z_sipush {n : Int} {v : Int32} (d : decode k.2.1 pc = .ok (.sipush n, 3)) (hv : (Int16.ofInt n).toInt32 = v)
    (kk : zWP G k F (pc + 3) ls (.int v :: st) σ nx ca sl) : zWP G k F (pc) ls (st) σ nx ca sl := by
  intro p l e s m args below meth c A H locs la C hH hS hl
  exact lv_sipush C.1 C.2.1 d hv (kk p l e s m args below meth c A H locs la C hH hS hl)

theorem z_lconst {n : Fin 2} {v : Int64} (d : decode k.2.1 pc = .ok (.lconst n, 1)) (hv : Int64.ofNat (n : Nat) = v)
    (kk : zWP G k F (pc + 1) ls (.long v :: st) σ nx ca sl) : zWP G k F (pc) ls (st) σ nx ca sl := by
  intro p l e s m args below meth c A H locs la C hH hS hl
  exact lv_lconst C.1 C.2.1 d hv (kk p l e s m args below meth c A H locs la C hH hS hl)

theorem z_iload_n {j : Fin 4} {x : Int32} (d : decode k.2.1 pc = .ok (.iload_n j, 1)) (hi : ls[(j : Nat)]? = some (some (.int x)))
    (kk : zWP G k F (pc + 1) ls (.int x :: st) σ nx ca sl) : zWP G k F (pc) ls (st) σ nx ca sl := by
  intro p l e s m args below meth c A H locs la C hH hS hl
  exact lv_iload_n C.1 C.2.1 d rfl (zhas_at hl hi) (kk p l e s m args below meth c A H locs la C hH hS hl)

theorem z_iload {i : Nat} {x : Int32} (d : decode k.2.1 pc = .ok (.iload i, 2)) (hi : ls[i]? = some (some (.int x)))
    (kk : zWP G k F (pc + 2) ls (.int x :: st) σ nx ca sl) : zWP G k F (pc) ls (st) σ nx ca sl := by
  intro p l e s m args below meth c A H locs la C hH hS hl
  exact lv_iload C.1 C.2.1 d (zhas_at hl hi) (kk p l e s m args below meth c A H locs la C hH hS hl)

theorem z_istore_n {j : Fin 4} {x : Int32} (d : decode k.2.1 pc = .ok (.istore_n j, 1)) (hn : (j : Nat) < k.2.2.1)
    (kk : zWP G k F (pc + 1) (zset ls j (.int x)) (st) σ nx ca sl) : zWP G k F (pc) ls (.int x :: st) σ nx ca sl := by
  intro p l e s m args below meth c A H locs la C hH hS hl
  exact lv_istore_n C.1 C.2.1 d rfl hl hn rfl (fun la hl => kk p l e s m args below meth c A H locs la C hH hS (zhas_set hl))

theorem z_istore {i : Nat} {x : Int32} (d : decode k.2.1 pc = .ok (.istore i, 2)) (hn : i < k.2.2.1)
    (kk : zWP G k F (pc + 2) (zset ls i (.int x)) (st) σ nx ca sl) : zWP G k F (pc) ls (.int x :: st) σ nx ca sl := by
  intro p l e s m args below meth c A H locs la C hH hS hl
  exact lv_istore C.1 C.2.1 d hl hn rfl (fun la hl => kk p l e s m args below meth c A H locs la C hH hS (zhas_set hl))

theorem z_lload_n {j : Fin 4} {x : Int64} (d : decode k.2.1 pc = .ok (.lload_n j, 1)) (hi : ls[(j : Nat)]? = some (some (.long x)))
    (kk : zWP G k F (pc + 1) ls (.long x :: st) σ nx ca sl) : zWP G k F (pc) ls (st) σ nx ca sl := by
  intro p l e s m args below meth c A H locs la C hH hS hl
  exact lv_lload_n C.1 C.2.1 d rfl (zhas_at hl hi) (kk p l e s m args below meth c A H locs la C hH hS hl)

theorem z_lload {i : Nat} {x : Int64} (d : decode k.2.1 pc = .ok (.lload i, 2)) (hi : ls[i]? = some (some (.long x)))
    (kk : zWP G k F (pc + 2) ls (.long x :: st) σ nx ca sl) : zWP G k F (pc) ls (st) σ nx ca sl := by
  intro p l e s m args below meth c A H locs la C hH hS hl
  exact lv_lload C.1 C.2.1 d (zhas_at hl hi) (kk p l e s m args below meth c A H locs la C hH hS hl)

theorem z_lstore_n {j : Fin 4} {x : Int64} (d : decode k.2.1 pc = .ok (.lstore_n j, 1)) (hn : (j : Nat) + 1 < k.2.2.1)
    (kk : zWP G k F (pc + 1) (zset2 ls j (.long x)) (st) σ nx ca sl) : zWP G k F (pc) ls (.long x :: st) σ nx ca sl := by
  intro p l e s m args below meth c A H locs la C hH hS hl
  exact lv_lstore_n C.1 C.2.1 d rfl hl hn rfl (fun la hl => kk p l e s m args below meth c A H locs la C hH hS (zhas_set2 hl))

theorem z_lstore {i : Nat} {x : Int64} (d : decode k.2.1 pc = .ok (.lstore i, 2)) (hn : i + 1 < k.2.2.1)
    (kk : zWP G k F (pc + 2) (zset2 ls i (.long x)) (st) σ nx ca sl) : zWP G k F (pc) ls (.long x :: st) σ nx ca sl := by
  intro p l e s m args below meth c A H locs la C hH hS hl
  exact lv_lstore C.1 C.2.1 d hl hn rfl (fun la hl => kk p l e s m args below meth c A H locs la C hH hS (zhas_set2 hl))

theorem z_aload_n {j : Fin 4} {x : Nat} (d : decode k.2.1 pc = .ok (.aload_n j, 1)) (hi : ls[(j : Nat)]? = some (some (.ref x)))
    (kk : zWP G k F (pc + 1) ls (.ref x :: st) σ nx ca sl) : zWP G k F (pc) ls (st) σ nx ca sl := by
  intro p l e s m args below meth c A H locs la C hH hS hl
  exact lv_aload_n C.1 C.2.1 d rfl (zhas_at hl hi) (kk p l e s m args below meth c A H locs la C hH hS hl)

theorem z_aload {i : Nat} {x : Nat} (d : decode k.2.1 pc = .ok (.aload i, 2)) (hi : ls[i]? = some (some (.ref x)))
    (kk : zWP G k F (pc + 2) ls (.ref x :: st) σ nx ca sl) : zWP G k F (pc) ls (st) σ nx ca sl := by
  intro p l e s m args below meth c A H locs la C hH hS hl
  exact lv_aload C.1 C.2.1 d (zhas_at hl hi) (kk p l e s m args below meth c A H locs la C hH hS hl)

theorem z_astore_n {j : Fin 4} {x : Nat} (d : decode k.2.1 pc = .ok (.astore_n j, 1)) (hn : (j : Nat) < k.2.2.1)
    (kk : zWP G k F (pc + 1) (zset ls j (.ref x)) (st) σ nx ca sl) : zWP G k F (pc) ls (.ref x :: st) σ nx ca sl := by
  intro p l e s m args below meth c A H locs la C hH hS hl
  exact lv_astore_n C.1 C.2.1 d rfl hl hn rfl (fun la hl => kk p l e s m args below meth c A H locs la C hH hS (zhas_set hl))

theorem z_astore {i : Nat} {x : Nat} (d : decode k.2.1 pc = .ok (.astore i, 2)) (hn : i < k.2.2.1)
    (kk : zWP G k F (pc + 2) (zset ls i (.ref x)) (st) σ nx ca sl) : zWP G k F (pc) ls (.ref x :: st) σ nx ca sl := by
  intro p l e s m args below meth c A H locs la C hH hS hl
  exact lv_astore C.1 C.2.1 d hl hn rfl (fun la hl => kk p l e s m args below meth c A H locs la C hH hS (zhas_set hl))

theorem z_fload_n {j : Fin 4} {x : UInt32} (d : decode k.2.1 pc = .ok (.fload_n j, 1)) (hi : ls[(j : Nat)]? = some (some (.float x)))
    (kk : zWP G k F (pc + 1) ls (.float x :: st) σ nx ca sl) : zWP G k F (pc) ls (st) σ nx ca sl := by
  intro p l e s m args below meth c A H locs la C hH hS hl
  exact lv_fload_n C.1 C.2.1 d rfl (zhas_at hl hi) (kk p l e s m args below meth c A H locs la C hH hS hl)

theorem z_fload {i : Nat} {x : UInt32} (d : decode k.2.1 pc = .ok (.fload i, 2)) (hi : ls[i]? = some (some (.float x)))
    (kk : zWP G k F (pc + 2) ls (.float x :: st) σ nx ca sl) : zWP G k F (pc) ls (st) σ nx ca sl := by
  intro p l e s m args below meth c A H locs la C hH hS hl
  exact lv_fload C.1 C.2.1 d (zhas_at hl hi) (kk p l e s m args below meth c A H locs la C hH hS hl)

theorem z_fstore_n {j : Fin 4} {x : UInt32} (d : decode k.2.1 pc = .ok (.fstore_n j, 1)) (hn : (j : Nat) < k.2.2.1)
    (kk : zWP G k F (pc + 1) (zset ls j (.float x)) (st) σ nx ca sl) : zWP G k F (pc) ls (.float x :: st) σ nx ca sl := by
  intro p l e s m args below meth c A H locs la C hH hS hl
  exact lv_fstore_n C.1 C.2.1 d rfl hl hn rfl (fun la hl => kk p l e s m args below meth c A H locs la C hH hS (zhas_set hl))

theorem z_fstore {i : Nat} {x : UInt32} (d : decode k.2.1 pc = .ok (.fstore i, 2)) (hn : i < k.2.2.1)
    (kk : zWP G k F (pc + 2) (zset ls i (.float x)) (st) σ nx ca sl) : zWP G k F (pc) ls (.float x :: st) σ nx ca sl := by
  intro p l e s m args below meth c A H locs la C hH hS hl
  exact lv_fstore C.1 C.2.1 d hl hn rfl (fun la hl => kk p l e s m args below meth c A H locs la C hH hS (zhas_set hl))

theorem z_dload_n {j : Fin 4} {x : UInt64} (d : decode k.2.1 pc = .ok (.dload_n j, 1)) (hi : ls[(j : Nat)]? = some (some (.double x)))
    (kk : zWP G k F (pc + 1) ls (.double x :: st) σ nx ca sl) : zWP G k F (pc) ls (st) σ nx ca sl := by
  intro p l e s m args below meth c A H locs la C hH hS hl
  exact lv_dload_n C.1 C.2.1 d rfl (zhas_at hl hi) (kk p l e s m args below meth c A H locs la C hH hS hl)

theorem z_dload {i : Nat} {x : UInt64} (d : decode k.2.1 pc = .ok (.dload i, 2)) (hi : ls[i]? = some (some (.double x)))
    (kk : zWP G k F (pc + 2) ls (.double x :: st) σ nx ca sl) : zWP G k F (pc) ls (st) σ nx ca sl := by
  intro p l e s m args below meth c A H locs la C hH hS hl
  exact lv_dload C.1 C.2.1 d (zhas_at hl hi) (kk p l e s m args below meth c A H locs la C hH hS hl)

theorem z_dstore_n {j : Fin 4} {x : UInt64} (d : decode k.2.1 pc = .ok (.dstore_n j, 1)) (hn : (j : Nat) + 1 < k.2.2.1)
    (kk : zWP G k F (pc + 1) (zset2 ls j (.double x)) (st) σ nx ca sl) : zWP G k F (pc) ls (.double x :: st) σ nx ca sl := by
  intro p l e s m args below meth c A H locs la C hH hS hl
  exact lv_dstore_n C.1 C.2.1 d rfl hl hn rfl (fun la hl => kk p l e s m args below meth c A H locs la C hH hS (zhas_set2 hl))

theorem z_dstore {i : Nat} {x : UInt64} (d : decode k.2.1 pc = .ok (.dstore i, 2)) (hn : i + 1 < k.2.2.1)
    (kk : zWP G k F (pc + 2) (zset2 ls i (.double x)) (st) σ nx ca sl) : zWP G k F (pc) ls (.double x :: st) σ nx ca sl := by
  intro p l e s m args below meth c A H locs la C hH hS hl
  exact lv_dstore C.1 C.2.1 d hl hn rfl (fun la hl => kk p l e s m args below meth c A H locs la C hH hS (zhas_set2 hl))

theorem z_iinc {i : Nat} {n : Int} {x v : Int32} (d : decode k.2.1 pc = .ok (.iinc i n, 3)) (hi : ls[i]? = some (some (.int x))) (hv : x + Int32.ofInt n = v) (hn : i < k.2.2.1)
    (kk : zWP G k F (pc + 3) (zset ls i (.int v)) (st) σ nx ca sl) : zWP G k F (pc) ls (st) σ nx ca sl := by
  intro p l e s m args below meth c A H locs la C hH hS hl
  obtain ⟨q, hq⟩ := List.getElem?_of_mem ((zTL_mem ls 0 i (.int x)).mpr ⟨Nat.zero_le _, hi⟩)
  exact lv_iinc C.1 C.2.1 d hl hq hv hn rfl (fun la hl => kk p l e s m args below meth c A H locs la C hH hS (zhas_set hl))

theorem z_iadd {x y : Int32} (d : decode k.2.1 pc = .ok (.iadd, 1))
    (kk : zWP G k F (pc + 1) ls (.int (x + y) :: st) σ nx ca sl) : zWP G k F (pc) ls (.int y :: .int x :: st) σ nx ca sl := by
  intro p l e s m args below meth c A H locs la C hH hS hl
  exact lv_iadd C.1 C.2.1 d (kk p l e s m args below meth c A H locs la C hH hS hl)

theorem z_isub {x y : Int32} (d : decode k.2.1 pc = .ok (.isub, 1))
    (kk : zWP G k F (pc + 1) ls (.int (x - y) :: st) σ nx ca sl) : zWP G k F (pc) ls (.int y :: .int x :: st) σ nx ca sl := by
  intro p l e s m args below meth c A H locs la C hH hS hl
  exact lv_isub C.1 C.2.1 d (kk p l e s m args below meth c A H locs la C hH hS hl)

theorem z_imul {x y : Int32} (d : decode k.2.1 pc = .ok (.imul, 1))
    (kk : zWP G k F (pc + 1) ls (.int (x * y) :: st) σ nx ca sl) : zWP G k F (pc) ls (.int y :: .int x :: st) σ nx ca sl := by
  intro p l e s m args below meth c A H locs la C hH hS hl
  exact lv_imul C.1 C.2.1 d (kk p l e s m args below meth c A H locs la C hH hS hl)

theorem z_iand {x y : Int32} (d : decode k.2.1 pc = .ok (.iand, 1))
    (kk : zWP G k F (pc + 1) ls (.int (x &&& y) :: st) σ nx ca sl) : zWP G k F (pc) ls (.int y :: .int x :: st) σ nx ca sl := by
  intro p l e s m args below meth c A H locs la C hH hS hl
  exact lv_iand C.1 C.2.1 d (kk p l e s m args below meth c A H locs la C hH hS hl)

theorem z_ior {x y : Int32} (d : decode k.2.1 pc = .ok (.ior, 1))
    (kk : zWP G k F (pc + 1) ls (.int (x ||| y) :: st) σ nx ca sl) : zWP G k F (pc) ls (.int y :: .int x :: st) σ nx ca sl := by
  intro p l e s m args below meth c A H locs la C hH hS hl
  exact lv_ior C.1 C.2.1 d (kk p l e s m args below meth c A H locs la C hH hS hl)

theorem z_ixor {x y : Int32} (d : decode k.2.1 pc = .ok (.ixor, 1))
    (kk : zWP G k F (pc + 1) ls (.int (x ^^^ y) :: st) σ nx ca sl) : zWP G k F (pc) ls (.int y :: .int x :: st) σ nx ca sl := by
  intro p l e s m args below meth c A H locs la C hH hS hl
  exact lv_ixor C.1 C.2.1 d (kk p l e s m args below meth c A H locs la C hH hS hl)

theorem z_ineg {x : Int32} (d : decode k.2.1 pc = .ok (.ineg, 1))
    (kk : zWP G k F (pc + 1) ls (.int (-x) :: st) σ nx ca sl) : zWP G k F (pc) ls (.int x :: st) σ nx ca sl := by
  intro p l e s m args below meth c A H locs la C hH hS hl
  exact lv_ineg C.1 C.2.1 d (kk p l e s m args below meth c A H locs la C hH hS hl)

theorem z_idiv {x y : Int32} (d : decode k.2.1 pc = .ok (.idiv, 1)) (hne : ¬ y = 0)
    (kk : zWP G k F (pc + 1) ls (.int (x / y) :: st) σ nx ca sl) : zWP G k F (pc) ls (.int y :: .int x :: st) σ nx ca sl := by
  intro p l e s m args below meth c A H locs la C hH hS hl
  exact lv_idiv C.1 C.2.1 d hne (kk p l e s m args below meth c A H locs la C hH hS hl)

theorem z_irem {x y : Int32} (d : decode k.2.1 pc = .ok (.irem, 1)) (hne : ¬ y = 0)
    (kk : zWP G k F (pc + 1) ls (.int (x - x / y * y) :: st) σ nx ca sl) : zWP G k F (pc) ls (.int y :: .int x :: st) σ nx ca sl := by
  intro p l e s m args below meth c A H locs la C hH hS hl
  exact lv_irem C.1 C.2.1 d hne (kk p l e s m args below meth c A H locs la C hH hS hl)

theorem z_ishl {x y : Int32} (d : decode k.2.1 pc = .ok (.ishl, 1))
    (kk : zWP G k F (pc + 1) ls (.int (x <<< (y &&& 31)) :: st) σ nx ca sl) : zWP G k F (pc) ls (.int y :: .int x :: st) σ nx ca sl := by
  intro p l e s m args below meth c A H locs la C hH hS hl
  exact lv_ishl C.1 C.2.1 d (kk p l e s m args below meth c A H locs la C hH hS hl)

theorem z_ishr {x y : Int32} (d : decode k.2.1 pc = .ok (.ishr, 1))
    (kk : zWP G k F (pc + 1) ls (.int (x >>> (y &&& 31)) :: st) σ nx ca sl) : zWP G k F (pc) ls (.int y :: .int x :: st) σ nx ca sl := by
  intro p l e s m args below meth c A H locs la C hH hS hl
  exact lv_ishr C.1 C.2.1 d (kk p l e s m args below meth c A H locs la C hH hS hl)

theorem z_iushr {x y v : Int32} (d : decode k.2.1 pc = .ok (.iushr, 1)) (hv : (x.toUInt32 >>> (y.toUInt32 &&& Int32.toUInt32 31)).toInt32 = v)
    (kk : zWP G k F (pc + 1) ls (.int v :: st) σ nx ca sl) : zWP G k F (pc) ls (.int y :: .int x :: st) σ nx ca sl := by
  intro p l e s m args below meth c A H locs la C hH hS hl
  exact lv_iushr C.1 C.2.1 d hv (kk p l e s m args below meth c A H locs la C hH hS hl)

theorem z_i2l {x : Int32} (d : decode k.2.1 pc = .ok (.i2l, 1))
    (kk : zWP G k F (pc + 1) ls (.long x.toInt64 :: st) σ nx ca sl) : zWP G k F (pc) ls (.int x :: st) σ nx ca sl := by
  intro p l e s m args below meth c A H locs la C hH hS hl
  exact lv_i2l C.1 C.2.1 d rfl (kk p l e s m args below meth c A H locs la C hH hS hl)

theorem z_l2i {x : Int64} (d : decode k.2.1 pc = .ok (.l2i, 1))
    (kk : zWP G k F (pc + 1) ls (.int x.toInt32 :: st) σ nx ca sl) : zWP G k F (pc) ls (.long x :: st) σ nx ca sl := by
  intro p l e s m args below meth c A H locs la C hH hS hl
  exact lv_l2i C.1 C.2.1 d rfl (kk p l e s m args below meth c A H locs la C hH hS hl)

theorem z_dup {a : Value} (d : decode k.2.1 pc = .ok (.dup, 1)) (ha : a.category = 1)
    (kk : zWP G k F (pc + 1) ls (a :: a :: st) σ nx ca sl) : zWP G k F (pc) ls (a :: st) σ nx ca sl := by
  intro p l e s m args below meth c A H locs la C hH hS hl
  exact lv_dup C.1 C.2.1 d ha (kk p l e s m args below meth c A H locs la C hH hS hl)

theorem z_pop {a : Value} (d : decode k.2.1 pc = .ok (.pop, 1)) (ha : a.category = 1)
    (kk : zWP G k F (pc + 1) ls (st) σ nx ca sl) : zWP G k F (pc) ls (a :: st) σ nx ca sl := by
  intro p l e s m args below meth c A H locs la C hH hS hl
  exact lv_pop C.1 C.2.1 d ha (kk p l e s m args below meth c A H locs la C hH hS hl)

theorem z_dup_x1 {a b : Value} (d : decode k.2.1 pc = .ok (.dup_x1, 1)) (ha : a.category = 1) (hb : b.category = 1)
    (kk : zWP G k F (pc + 1) ls (a :: b :: a :: st) σ nx ca sl) : zWP G k F (pc) ls (a :: b :: st) σ nx ca sl := by
  intro p l e s m args below meth c A H locs la C hH hS hl
  exact lv_dup_x1 C.1 C.2.1 d ha hb (kk p l e s m args below meth c A H locs la C hH hS hl)

theorem z_dup2 {a b : Value} (d : decode k.2.1 pc = .ok (.dup2, 1)) (ha : a.category = 1) (hb : b.category = 1)
    (kk : zWP G k F (pc + 1) ls (a :: b :: a :: b :: st) σ nx ca sl) : zWP G k F (pc) ls (a :: b :: st) σ nx ca sl := by
  intro p l e s m args below meth c A H locs la C hH hS hl
  exact lv_dup2_11 C.1 C.2.1 d ha hb (kk p l e s m args below meth c A H locs la C hH hS hl)

theorem z_dup2l {a : Value} (d : decode k.2.1 pc = .ok (.dup2, 1)) (ha : a.category = 2)
    (kk : zWP G k F (pc + 1) ls (a :: a :: st) σ nx ca sl) : zWP G k F (pc) ls (a :: st) σ nx ca sl := by
  intro p l e s m args below meth c A H locs la C hH hS hl
  exact lv_dup2_2 C.1 C.2.1 d ha (kk p l e s m args below meth c A H locs la C hH hS hl)

theorem z_goto {off : Int} {tgt : Nat} (d : decode k.2.1 pc = .ok (.goto off, 3)) (ht : (pc : Int) + off = (tgt : Int))
    (kk : zWP G k F (tgt) ls (st) σ nx ca sl) : zWP G k F (pc) ls (st) σ nx ca sl := by
  intro p l e s m args below meth c A H locs la C hH hS hl
  exact lv_goto C.1 C.2.1 d ht (kk p l e s m args below meth c A H locs la C hH hS hl)

theorem z_if_eq {x : Int32} {off : Int} {tgt : Nat} (d : decode k.2.1 pc = .ok (.ifCond .eq off, 3)) (ht : (pc : Int) + off = (tgt : Int))
    (kt : x = 0 → zWP G k F (tgt) ls (st) σ nx ca sl) (kf : ¬ x = 0 → zWP G k F (pc + 3) ls (st) σ nx ca sl) : zWP G k F (pc) ls (.int x :: st) σ nx ca sl := by
  intro p l e s m args below meth c A H locs la C hH hS hl
  exact lv_if_eq C.1 C.2.1 d ht (fun h => kt h p l e s m args below meth c A H locs la C hH hS hl) (fun h => kf h p l e s m args below meth c A H locs la C hH hS hl)

theorem z_if_ne {x : Int32} {off : Int} {tgt : Nat} (d : decode k.2.1 pc = .ok (.ifCond .ne off, 3)) (ht : (pc : Int) + off = (tgt : Int))
    (kt : ¬ x = 0 → zWP G k F (tgt) ls (st) σ nx ca sl) (kf : x = 0 → zWP G k F (pc + 3) ls (st) σ nx ca sl) : zWP G k F (pc) ls (.int x :: st) σ nx ca sl := by
  intro p l e s m args below meth c A H locs la C hH hS hl
  exact lv_if_ne C.1 C.2.1 d ht (fun h => kt h p l e s m args below meth c A H locs la C hH hS hl) (fun h => kf h p l e s m args below meth c A H locs la C hH hS hl)

theorem z_if_lt {x : Int32} {off : Int} {tgt : Nat} (d : decode k.2.1 pc = .ok (.ifCond .lt off, 3)) (ht : (pc : Int) + off = (tgt : Int))
    (kt : x < 0 → zWP G k F (tgt) ls (st) σ nx ca sl) (kf : ¬ x < 0 → zWP G k F (pc + 3) ls (st) σ nx ca sl) : zWP G k F (pc) ls (.int x :: st) σ nx ca sl := by
  intro p l e s m args below meth c A H locs la C hH hS hl
  exact lv_if_lt C.1 C.2.1 d ht (fun h => kt h p l e s m args below meth c A H locs la C hH hS hl) (fun h => kf h p l e s m args below meth c A H locs la C hH hS hl)

theorem z_if_ge {x : Int32} {off : Int} {tgt : Nat} (d : decode k.2.1 pc = .ok (.ifCond .ge off, 3)) (ht : (pc : Int) + off = (tgt : Int))
    (kt : 0 ≤ x → zWP G k F (tgt) ls (st) σ nx ca sl) (kf : ¬ 0 ≤ x → zWP G k F (pc + 3) ls (st) σ nx ca sl) : zWP G k F (pc) ls (.int x :: st) σ nx ca sl := by
  intro p l e s m args below meth c A H locs la C hH hS hl
  exact lv_if_ge C.1 C.2.1 d ht (fun h => kt h p l e s m args below meth c A H locs la C hH hS hl) (fun h => kf h p l e s m args below meth c A H locs la C hH hS hl)

theorem z_if_gt {x : Int32} {off : Int} {tgt : Nat} (d : decode k.2.1 pc = .ok (.ifCond .gt off, 3)) (ht : (pc : Int) + off = (tgt : Int))
    (kt : 0 < x → zWP G k F (tgt) ls (st) σ nx ca sl) (kf : ¬ 0 < x → zWP G k F (pc + 3) ls (st) σ nx ca sl) : zWP G k F (pc) ls (.int x :: st) σ nx ca sl := by
  intro p l e s m args below meth c A H locs la C hH hS hl
  exact lv_if_gt C.1 C.2.1 d ht (fun h => kt h p l e s m args below meth c A H locs la C hH hS hl) (fun h => kf h p l e s m args below meth c A H locs la C hH hS hl)

theorem z_if_le {x : Int32} {off : Int} {tgt : Nat} (d : decode k.2.1 pc = .ok (.ifCond .le off, 3)) (ht : (pc : Int) + off = (tgt : Int))
    (kt : x ≤ 0 → zWP G k F (tgt) ls (st) σ nx ca sl) (kf : ¬ x ≤ 0 → zWP G k F (pc + 3) ls (st) σ nx ca sl) : zWP G k F (pc) ls (.int x :: st) σ nx ca sl := by
  intro p l e s m args below meth c A H locs la C hH hS hl
  exact lv_if_le C.1 C.2.1 d ht (fun h => kt h p l e s m args below meth c A H locs la C hH hS hl) (fun h => kf h p l e s m args below meth c A H locs la C hH hS hl)

theorem z_icmp_eq {x y : Int32} {off : Int} {tgt : Nat} (d : decode k.2.1 pc = .ok (.if_icmp .eq off, 3)) (ht : (pc : Int) + off = (tgt : Int))
    (kt : x = y → zWP G k F (tgt) ls (st) σ nx ca sl) (kf : ¬ x = y → zWP G k F (pc + 3) ls (st) σ nx ca sl) : zWP G k F (pc) ls (.int y :: .int x :: st) σ nx ca sl := by
  intro p l e s m args below meth c A H locs la C hH hS hl
  exact lv_icmp_eq C.1 C.2.1 d ht (fun h => kt h p l e s m args below meth c A H locs la C hH hS hl) (fun h => kf h p l e s m args below meth c A H locs la C hH hS hl)

theorem z_icmp_ne {x y : Int32} {off : Int} {tgt : Nat} (d : decode k.2.1 pc = .ok (.if_icmp .ne off, 3)) (ht : (pc : Int) + off = (tgt : Int))
    (kt : ¬ x = y → zWP G k F (tgt) ls (st) σ nx ca sl) (kf : x = y → zWP G k F (pc + 3) ls (st) σ nx ca sl) : zWP G k F (pc) ls (.int y :: .int x :: st) σ nx ca sl := by
  intro p l e s m args below meth c A H locs la C hH hS hl
  exact lv_icmp_ne C.1 C.2.1 d ht (fun h => kt h p l e s m args below meth c A H locs la C hH hS hl) (fun h => kf h p l e s m args below meth c A H locs la C hH hS hl)

theorem z_icmp_lt {x y : Int32} {off : Int} {tgt : Nat} (d : decode k.2.1 pc = .ok (.if_icmp .lt off, 3)) (ht : (pc : Int) + off = (tgt : Int))
    (kt : x < y → zWP G k F (tgt) ls (st) σ nx ca sl) (kf : ¬ x < y → zWP G k F (pc + 3) ls (st) σ nx ca sl) : zWP G k F (pc) ls (.int y :: .int x :: st) σ nx ca sl := by
  intro p l e s m args below meth c A H locs la C hH hS hl
  exact lv_icmp_lt C.1 C.2.1 d ht (fun h => kt h p l e s m args below meth c A H locs la C hH hS hl) (fun h => kf h p l e s m args below meth c A H locs la C hH hS hl)

theorem z_icmp_ge {x y : Int32} {off : Int} {tgt : Nat} (d : decode k.2.1 pc = .ok (.if_icmp .ge off, 3)) (ht : (pc : Int) + off = (tgt : Int))
    (kt : y ≤ x → zWP G k F (tgt) ls (st) σ nx ca sl) (kf : ¬ y ≤ x → zWP G k F (pc + 3) ls (st) σ nx ca sl) : zWP G k F (pc) ls (.int y :: .int x :: st) σ nx ca sl := by
  intro p l e s m args below meth c A H locs la C hH hS hl
  exact lv_icmp_ge C.1 C.2.1 d ht (fun h => kt h p l e s m args below meth c A H locs la C hH hS hl) (fun h => kf h p l e s m args below meth c A H locs la C hH hS hl)

theorem z_icmp_gt {x y : Int32} {off : Int} {tgt : Nat} (d : decode k.2.1 pc = .ok (.if_icmp .gt off, 3)) (ht : (pc : Int) + off = (tgt : Int))
    (kt : y < x → zWP G k F (tgt) ls (st) σ nx ca sl) (kf : ¬ y < x → zWP G k F (pc + 3) ls (st) σ nx ca sl) : zWP G k F (pc) ls (.int y :: .int x :: st) σ nx ca sl := by
  intro p l e s m args below meth c A H locs la C hH hS hl
  exact lv_icmp_gt C.1 C.2.1 d ht (fun h => kt h p l e s m args below meth c A H locs la C hH hS hl) (fun h => kf h p l e s m args below meth c A H locs la C hH hS hl)

theorem z_icmp_le {x y : Int32} {off : Int} {tgt : Nat} (d : decode k.2.1 pc = .ok (.if_icmp .le off, 3)) (ht : (pc : Int) + off = (tgt : Int))
    (kt : x ≤ y → zWP G k F (tgt) ls (st) σ nx ca sl) (kf : ¬ x ≤ y → zWP G k F (pc + 3) ls (st) σ nx ca sl) : zWP G k F (pc) ls (.int y :: .int x :: st) σ nx ca sl := by
  intro p l e s m args below meth c A H locs la C hH hS hl
  exact lv_icmp_le C.1 C.2.1 d ht (fun h => kt h p l e s m args below meth c A H locs la C hH hS hl) (fun h => kf h p l e s m args below meth c A H locs la C hH hS hl)

theorem z_acmp_eq {rx ry : Option Nat} {off : Int} {tgt : Nat} (d : decode k.2.1 pc = .ok (.if_acmp .eq off, 3)) (ht : (pc : Int) + off = (tgt : Int))
    (kt : rx = ry → zWP G k F (tgt) ls (st) σ nx ca sl) (kf : ¬ rx = ry → zWP G k F (pc + 3) ls (st) σ nx ca sl) : zWP G k F (pc) ls (va_rf ry :: va_rf rx :: st) σ nx ca sl := by
  intro p l e s m args below meth c A H locs la C hH hS hl
  exact lv_acmp_eq C.1 C.2.1 d ht (fun h => kt h p l e s m args below meth c A H locs la C hH hS hl) (fun h => kf h p l e s m args below meth c A H locs la C hH hS hl)

theorem z_acmp_ne {rx ry : Option Nat} {off : Int} {tgt : Nat} (d : decode k.2.1 pc = .ok (.if_acmp .ne off, 3)) (ht : (pc : Int) + off = (tgt : Int))
    (kt : ¬ rx = ry → zWP G k F (tgt) ls (st) σ nx ca sl) (kf : rx = ry → zWP G k F (pc + 3) ls (st) σ nx ca sl) : zWP G k F (pc) ls (va_rf ry :: va_rf rx :: st) σ nx ca sl := by
  intro p l e s m args below meth c A H locs la C hH hS hl
  exact lv_acmp_ne C.1 C.2.1 d ht (fun h => kt h p l e s m args below meth c A H locs la C hH hS hl) (fun h => kf h p l e s m args below meth c A H locs la C hH hS hl)

theorem z_lcmp {x y : Int64} {v : Int32} (d : decode k.2.1 pc = .ok (.lcmp, 1)) (hv : lg_cmp x y = v)
    (kk : zWP G k F (pc + 1) ls (.int v :: st) σ nx ca sl) : zWP G k F (pc) ls (.long y :: .long x :: st) σ nx ca sl := by
  intro p l e s m args below meth c A H locs la C hH hS hl
  subst hv
  exact W.lcmp C.1 C.2.1 d (kk p l e s m args below meth c A H locs la C hH hS hl)

theorem z_fdiv {x y : UInt32} (d : decode k.2.1 pc = .ok (.fdiv, 1)) (hne : vf_n32 (FP.fdiv x y))
    (kk : zWP G k F (pc + 1) ls (.float (FP.fdiv x y) :: st) σ nx ca sl) : zWP G k F (pc) ls (.float y :: .float x :: st) σ nx ca sl := by
  intro p l e s m args below meth c A H locs la C hH hS hl
  exact lv_fdiv C.1 C.2.1 d hne (kk p l e s m args below meth c A H locs la C hH hS hl)

theorem z_i2f {x : Int32} (d : decode k.2.1 pc = .ok (.i2f, 1))
    (kk : zWP G k F (pc + 1) ls (.float (FP.i2f x) :: st) σ nx ca sl) : zWP G k F (pc) ls (.int x :: st) σ nx ca sl := by
  intro p l e s m args below meth c A H locs la C hH hS hl
  exact lv_i2f C.1 C.2.1 d (kk p l e s m args below meth c A H locs la C hH hS hl)

theorem z_f2d {x : UInt32} (d : decode k.2.1 pc = .ok (.f2d, 1)) (hne : vf_n64 (FP.f2d x))
    (kk : zWP G k F (pc + 1) ls (.double (FP.f2d x) :: st) σ nx ca sl) : zWP G k F (pc) ls (.float x :: st) σ nx ca sl := by
  intro p l e s m args below meth c A H locs la C hH hS hl
  exact lv_f2d C.1 C.2.1 d hne (kk p l e s m args below meth c A H locs la C hH hS hl)

theorem z_dcmp {x y : UInt64} {op : CmpOp} (d : decode k.2.1 pc = .ok (.dcmp op, 1))
    (kk : zWP G k F (pc + 1) ls (.int (Op.cmpValue (FP.dcmp x y) op) :: st) σ nx ca sl) : zWP G k F (pc) ls (.double y :: .double x :: st) σ nx ca sl := by
  intro p l e s m args below meth c A H locs la C hH hS hl
  exact lv_dcmp C.1 C.2.1 d (kk p l e s m args below meth c A H locs la C hH hS hl)

theorem z_ldc {i : Nat} {v : Int32} (d : decode k.2.1 pc = .ok (.ldc i, 2)) (hw : Cond.constant k.1 i v ∈ zW)
    (kk : zWP G k F (pc + 2) ls (.int v :: st) σ nx ca sl) : zWP G k F (pc) ls (st) σ nx ca sl := by
  intro p l e s m args below meth c A H locs la C hH hS hl
  exact lv_ldc C.1 C.2.1 C.2.2.2.1 (C.2.2.2.2.1 _ hw) d (kk p l e s m args below meth c A H locs la C hH hS hl)

theorem z_ldc_w {i : Nat} {v : Int32} (d : decode k.2.1 pc = .ok (.ldc_w i, 3)) (hw : Cond.constant k.1 i v ∈ zW)
    (kk : zWP G k F (pc + 3) ls (.int v :: st) σ nx ca sl) : zWP G k F (pc) ls (st) σ nx ca sl := by
  intro p l e s m args below meth c A H locs la C hH hS hl
  exact lv_ldcw C.1 C.2.1 C.2.2.2.1 (C.2.2.2.2.1 _ hw) d (kk p l e s m args below meth c A H locs la C hH hS hl)

theorem z_ldc2 {i : Nat} {v : Int64} (d : decode k.2.1 pc = .ok (.ldc2_w i, 3)) (hw : Cond.constantLong k.1 i v ∈ zW)
    (kk : zWP G k F (pc + 3) ls (.long v :: st) σ nx ca sl) : zWP G k F (pc) ls (st) σ nx ca sl := by
  intro p l e s m args below meth c A H locs la C hH hS hl
  exact lv_ldc2 C.1 C.2.1 C.2.2.2.1 (C.2.2.2.2.1 _ hw) d (kk p l e s m args below meth c A H locs la C hH hS hl)

end ZROWS
section ZHEAP
variable {G : zG} {k : zK} {F : zF} {pc nx ca sl : Nat} {ls : zL} {st : List Value} {σ : zH}
/-- a field's facts: read; written; written in a constructor, final -/
def zFl (own : String) (idx ci j : Nat) : Prop := ∃ (C : String) (T : u_T) (N : Nat), vwCl[ci]? = some (C, T, N) ∧ j < N ∧ (Cond.fieldLink own idx (T j).1 (T j).2.1 (T j).2.2.1 ∈ zW ∨ ∃ host, Cond.fieldLinkNest own idx (T j).1 (T j).2.1 (T j).2.2.1 host ∈ zN) ∧ (∀ w ∈ u_ws C T N, w ∈ zW)
def zFp (own : String) (idx ci j : Nat) (ty : FieldType) : Prop := ∃ (C : String) (T : u_T) (N : Nat) (ty0 : Nat → FieldType), vwCl[ci]? = some (C, T, N) ∧ j < N ∧ (Cond.fieldLink own idx (T j).1 (T j).2.1 (T j).2.2.1 ∈ zW ∨ ∃ host, Cond.fieldLinkNest own idx (T j).1 (T j).2.1 (T j).2.2.1 host ∈ zN) ∧ (∀ w ∈ u_ws C T N, w ∈ zW) ∧
  (∀ i, i < N → parseFieldDescriptor (T i).2.2.1 = some (ty0 i)) ∧ (∀ a, a < N → ∀ b, b < N → a ≠ b → (T a).2.1 ≠ (T b).2.1) ∧ ty0 j = ty ∧ (T j).2.2.2 = false
def zFf (own : String) (idx ci j : Nat) (ty : FieldType) : Prop := ∃ (C : String) (T : u_T) (N : Nat) (ty0 : Nat → FieldType), vwCl[ci]? = some (C, T, N) ∧ j < N ∧ Cond.fieldLink own idx (T j).1 (T j).2.1 (T j).2.2.1 ∈ zW ∧ (∀ w ∈ u_ws C T N, w ∈ zW) ∧
  (∀ i, i < N → parseFieldDescriptor (T i).2.2.1 = some (ty0 i)) ∧ (∀ a, a < N → ∀ b, b < N → a ≠ b → (T a).2.1 ≠ (T b).2.1) ∧ ty0 j = ty ∧ (T j).2.2.2 = true ∧ (T j).1 = own
theorem z_getf {idx ci j a : Nat} {fs : List Value} {v : Value} (d : decode k.2.1 pc = .ok (.getfield idx, 3)) (hf : zFl k.1 idx ci j) (hσ : σ a = some (.inr (ci, fs))) (hv : fs[j]? = some v)
    (kk : zWP G k F (pc + 3) ls (v :: st) σ nx ca sl) : zWP G k F pc ls (.ref a :: st) σ nx ca sl := by
  intro p l e s m args below meth c A H locs la C hH hS hl
  have K := kk p l e s m args below meth c A H locs la C hH hS hl
  obtain ⟨hx, hb, -, hown, hts, hK, -, -, -, -, -, ho, -⟩ := C
  obtain ⟨ws, q0, hP, -, hq, -⟩ := hH.at hσ
  obtain ⟨C, T, N, hc, hj, hk, hin⟩ := hf
  rcases hk with hk | ⟨host, hk⟩
  · exact va_get hx hb hts hin hown hK hP q0 hq hc j hj (hts _ hk) (fun _ h => h) hv d K
  · exact va_getN hx hb hts hin hown hK hP q0 hq hc j hj (va_Nw.use rfl (ho.2.2.2.2.2.2.1 _ hk)) (fun _ h => h) hv d K
theorem z_putf {idx ci j a : Nat} {fs : List Value} {v : Value} {ty : FieldType} (d : decode k.2.1 pc = .ok (.putfield idx, 3)) (hf : zFp k.1 idx ci j ty) (hσ : σ a = some (.inr (ci, fs))) (hn : narrow ty v = v) (hfit : fits ty v = true) (hl0 : j < fs.length)
    (kk : zWP G k F (pc + 3) ls st (zu σ a (.inr (ci, fs.set j v))) nx ca sl) : zWP G k F pc ls (v :: .ref a :: st) σ nx ca sl := by
  intro p l e s m args below meth c A H locs la CC hH hS hl
  obtain ⟨hx, hb, -, hown, hts, hK, -, -, -, -, -, ho, -⟩ := id CC
  obtain ⟨ws, q0, hP, hD, hq, -⟩ := hH.at hσ
  obtain ⟨C, T, N, ty0, hc, hj, hlk, hin, hty, hnm, rfl, hfin⟩ := hf
  have hap := va_apart (own := k.1) hts hin ty0 hty hnm hK hc
  obtain ⟨r, h1, cell, q1, q2, q3, q4⟩ := hP q0 _ hq
  have hr : r = (C, T, N) := Option.some.inj (h1.symm.trans hc)
  subst hr
  obtain ⟨hSl, hfc, kC, hkC, hkind⟩ := hK.1 ci _ hc
  obtain ⟨cf, kf, fi, f, hi, hsl⟩ := hSl j hj
  have hlay := hts _ (hin _ (u_in_lay hj))
  unfold u_lay at hlay
  rw [if_neg (by rw [hfin]; decide)] at hlay
  have hst := (u_facts hfc hkC (u_lays hts hin hj) hi).1
  have h6 := u_store hfc hkC hkind hlay hi (hty j hj) hn hfit
  have fin : ∀ (H' : Heap), H'[a]? = some (cell.setSlot f.slot v) → H'.size = H.size → (∀ q, q ≠ a → H'[q]? = H[q]?) → W p l e k.2.2.2.1 s m args below meth c H' (locs ++ [⟨a, f.slot⟩]) ca sl (F below args s A) (F0 m (pc + 3) la st) := by
    intro H' e1 e2 e3
    rw [hsl] at e1 ⊢
    exact kk p l e s m args below meth c A H' _ la CC (hH.put hσ e2 ⟨_, hc, t_OB.to (V := updV (vp_V fs) j v) ⟨_, e1, q2, q3, t_set q4 hap hj v⟩ (fun i _ => vp_updV_set hl0 v i)⟩ e3) (hS.put e2 e3 (hH.isA hσ)) hl
  rcases hlk with hlk | ⟨host, hlk⟩
  · exact W.putK hx hb (f := f) ⟨hown, hts _ hlk, ⟨_, _, _, hi⟩, hst⟩ (by rw [q2]; exact h6) q1 q3 (by rw [hsl]; exact k2_hasslot (q4 j hj)) rfl rfl d fin
  · exact va_WputK hx hb (f := f) hown (va_Nw.use rfl (ho.2.2.2.2.2.2.1 _ hlk)) hi hst (by rw [q2]; exact h6) q1 q3 (by rw [hsl]; exact k2_hasslot (q4 j hj)) rfl rfl d fin
theorem z_putF {idx ci j a : Nat} {fs : List Value} {v : Value} {ty : FieldType} (d : decode k.2.1 pc = .ok (.putfield idx, 3)) (hf : zFf k.1 idx ci j ty) (hnam : k.2.2.2.2.2.1 = "<init>") (hσ : σ a = some (.inr (ci, fs))) (hn : narrow ty v = v) (hfit : fits ty v = true) (hl0 : j < fs.length)
    (kk : zWP G k F (pc + 3) ls st (zu σ a (.inr (ci, fs.set j v))) nx ca sl) : zWP G k F pc ls (v :: .ref a :: st) σ nx ca sl := by
  intro p l e s m args below meth c A H locs la CC hH hS hl
  obtain ⟨hx, hb, -, hown, hts, hK, -, -, -, hname, -, ho, -⟩ := id CC
  obtain ⟨ws, q0, hP, hD, hq, -⟩ := hH.at hσ
  obtain ⟨C, T, N, ty0, hc, hj, hlk, hin, hty, hnm, rfl, hfin, hdecl⟩ := hf
  have hap := va_apart (own := k.1) hts hin ty0 hty hnm hK hc
  obtain ⟨r, h1, cell, q1, q2, q3, q4⟩ := hP q0 _ hq
  have hr : r = (C, T, N) := Option.some.inj (h1.symm.trans hc)
  subst hr
  obtain ⟨hSl, hfc, kC, hkC, hkind⟩ := hK.1 ci _ hc
  obtain ⟨cf, kf, fi, f, hi, hsl⟩ := hSl j hj
  have hlay := hts _ (hin _ (u_in_lay hj))
  unfold u_lay at hlay
  rw [if_pos hfin] at hlay
  have hst := (u_facts hfc hkC (u_lays hts hin hj) hi).1
  have hcf : m.cls = cf := by
    obtain ⟨_, _, c', _, _, _, -, -, hf', -, -, -, hown2, -⟩ := Cond.laysFinal_spec hlay
    have e1 : c' = cf := by have := hi.symm.trans hf'; simp at this; exact this.1.symm
    rw [hdecl] at hown2
    rw [← e1]; exact Option.some.inj (hown.symm.trans hown2)
  have h6 := u_fits hfc hkC hkind (Or.inr hlay) hi (hty j hj) hn hfit
  refine W.putFinK hx hb hown (hts _ hlk) hi hst hcf (hname.trans hnam) (by rw [q2]; exact h6) q1 q3 (by rw [hsl]; exact k2_hasslot (q4 j hj)) rfl rfl d fun H' e1 e2 e3 => ?_
  rw [hsl] at e1 ⊢
  exact kk p l e s m args below meth c A H' _ la CC (hH.put hσ e2 ⟨_, hc, t_OB.to (V := updV (vp_V fs) j v) ⟨_, e1, q2, q3, t_set q4 hap hj v⟩ (fun i _ => vp_updV_set hl0 v i)⟩ e3) (hS.put e2 e3 (hH.isA hσ)) hl
theorem z_objInit {idx a : Nat} (d : decode k.2.1 pc = .ok (.invokespecial idx, 3)) (hw : Cond.methodLink k.1 idx objectInit ∈ zW) (hfr : 1 ≤ k.2.2.2.1.frames) (hlo : (st.map fun v => v.category).sum + 12 ≤ k.2.2.2.1.locals)
    (kk : zWP G k F (pc + 3) ls st σ nx ca sl) : zWP G k F pc ls (.ref a :: st) σ nx ca sl := by
  intro p l e s m args below meth c A H locs la CC hH hS hl
  obtain ⟨hx, hb, hml, hown, hts, -⟩ := id CC
  exact W.objInit hx hb hown (hts _ hw) (hts _ zObj1) (hts _ zObj2) rfl (hl.1.trans hml.symm) rfl d hfr (by simpa [JFrame.monitorRoom] using hlo) (kk p l e s m args below meth c A H locs la CC hH hS hl)
/-- a new object -/
def zNw (own : String) (idx ci : Nat) (fs : List Value) : Prop := ∃ (C : String) (T : u_T) (N : Nat) (ty : Nat → FieldType), vwCl[ci]? = some (C, T, N) ∧ Cond.classLink own idx C ∈ zW ∧ Cond.instantiable C N ∈ zW ∧ Cond.initialized C ∈ zW ∧ (∀ w ∈ u_ws C T N, w ∈ zW) ∧ (∀ i, i < N → parseFieldDescriptor (T i).2.2.1 = some (ty i)) ∧ (∀ j, j < N → defaultValue (ty j) = vp_V fs j) ∧ fs.length = N
theorem z_new {idx ci : Nat} {fs : List Value} (d : decode k.2.1 pc = .ok (.new idx, 3)) (hn : zNw k.1 idx ci fs) (hca : ca + 1 ≤ k.2.2.2.1.cells) (hsl : sl + fs.length ≤ k.2.2.2.1.slots)
    (kk : zWP G k F (pc + 3) ls (.ref nx :: st) (zu σ nx (.inr (ci, fs))) (nx + 1) (ca + 1) (sl + fs.length)) : zWP G k F pc ls st σ nx ca sl := by
  intro p l e s m args below meth c A H locs la CC hH hS hl
  obtain ⟨hx, hb, -, hown, hts, hK, hA, -⟩ := id CC
  obtain ⟨C, T, N, ty, hc, hlk, hins, hini, hin, hty, hfs, rfl⟩ := hn
  have hKn := hK.1 ci _ hc
  have hle : s.heap.size ≤ nx := by rw [← hH.1]; exact hS.1
  refine W.newcK hx hb hown (hts _ hlk) (hts _ hins) (hts _ hini) rfl d hca hsl hKn.2.1 hH.1 fun H1 kC hkC e1 z1 o1 => ?_
  exact kk p l e s m args below meth c A H1 locs la CC (hH.push z1 ⟨_, hc, (u_born ty hts hin hKn hkC e1 hty).to hfs⟩ o1 (hA _ hle)) ⟨by omega, fun x h1 h2 => (o1 x (by omega)).trans (hS.2.1 x h1 h2), hS.2.2⟩ hl
theorem zcy {G : zG} {s : State} {t0 : Nat} {cA cB : ClassId} {ty : FieldType} (hK : va_K G.1 vwCl (zTys G) s) (ht : (zTys G)[t0]? = some (cB, ty)) (hp : s.vm.findClass ("[" ++ ty.toString) = some cA) : cA = cB := by
  have h := (hK.2 t0 _ ht).2
  cases ty <;> first | exact Option.some.inj (hp.symm.trans h) | (obtain ⟨kA, comp, -, -, -, h4⟩ := h; exact Option.some.inj (hp.symm.trans h4))
theorem z_newa {at_ : ArrayType} {t0 N : Nat} {n : Int32} {cB : ClassId} {x : vp_A} (d : decode k.2.1 pc = .ok (.newarray at_, 2)) (hw : Cond.arrayClass (newarray.typeOf at_) ∈ zW) (ht : (zTys G)[t0]? = some (cB, newarray.typeOf at_)) (hx0 : vp_cell cB x = arrV cB N (fun _ => defaultValue (newarray.typeOf at_)))
    (hn : ¬ n < 0) (hN : n.toNatClampNeg = N) (hby : N * componentBytes (newarray.typeOf at_) ≤ 536870912) (hca : ca + 1 ≤ k.2.2.2.1.cells) (hsl : sl + N ≤ k.2.2.2.1.slots)
    (kk : zWP G k F (pc + 2) ls (.ref nx :: st) (zu σ nx (.inl (cB, x))) (nx + 1) (ca + 1) (sl + N)) : zWP G k F pc ls (.int n :: st) σ nx ca sl := by
  intro p l e s m args below meth c A H locs la CC hH hS hl
  obtain ⟨hx, hb, -, hown, hts, hK, hA, -⟩ := id CC
  have hle : s.heap.size ≤ nx := by rw [← hH.1]; exact hS.1
  refine va_newaK hx hb (hts _ hw) rfl d rfl hn hN hby hca hsl hH.1 fun H1 cA e1 z1 o1 hAr hNm => ?_
  cases zcy hK ht hNm
  exact kk p l e s m args below meth c A H1 locs la CC (hH.push z1 (by show H1[nx]? = some (vp_cell _ _); rw [hx0]; exact e1) o1 (hA _ hle)) ⟨by omega, fun x h1 h2 => (o1 x (by omega)).trans (hS.2.1 x h1 h2), hS.2.2⟩ hl
theorem z_alen {a t0 : Nat} {cB : ClassId} {ty : FieldType} {x : vp_A} {v : Int32} (d : decode k.2.1 pc = .ok (.arraylength, 1)) (hσ : σ a = some (.inl (cB, x))) (ht : (zTys G)[t0]? = some (cB, ty)) (hv : Int32.ofNat x.1 = v)
    (kk : zWP G k F (pc + 1) ls (.int v :: st) σ nx ca sl) : zWP G k F pc ls (.ref a :: st) σ nx ca sl := by
  intro p l e s m args below meth c A H locs la CC hH hS hl
  obtain ⟨hx, hb, -, hown, hts, hK, hA, -⟩ := id CC
  obtain ⟨ws, q0, hP, -, hq, -⟩ := hH.at hσ
  exact va_alen hx hb hK hP q0 t0 hq ht hv d (kk p l e s m args below meth c A H locs la CC hH hS hl)
theorem z_iald {a n : Nat} {f : Nat → Int32} {i : Int32} (d : decode k.2.1 pc = .ok (.iaload, 1)) (hσ : σ a = some (zI G n f)) (hi : vp_in i n)
    (kk : zWP G k F (pc + 1) ls (.int (f i.toNatClampNeg) :: st) σ nx ca sl) : zWP G k F pc ls (.int i :: .ref a :: st) σ nx ca sl := by
  intro p l e s m args below meth c A H locs la CC hH hS hl
  obtain ⟨hx, hb, -, hown, hts, hK, hA, -⟩ := id CC
  obtain ⟨ws, q0, hP, -, hq, -⟩ := hH.at hσ
  exact va_iald hx hb hK hP q0 0 hq rfl hi d (kk p l e s m args below meth c A H locs la CC hH hS hl)
theorem z_rald {a n : Nat} {f : Nat → Option Nat} {i : Int32} (d : decode k.2.1 pc = .ok (.aaload, 1)) (hσ : σ a = some (zR G n f)) (hi : vp_in i n)
    (kk : zWP G k F (pc + 1) ls (va_rf (f i.toNatClampNeg) :: st) σ nx ca sl) : zWP G k F pc ls (.int i :: .ref a :: st) σ nx ca sl := by
  intro p l e s m args below meth c A H locs la CC hH hS hl
  obtain ⟨hx, hb, -, hown, hts, hK, hA, -⟩ := id CC
  obtain ⟨ws, q0, hP, -, hq, -⟩ := hH.at hσ
  exact va_aldq hx hb hK hP q0 3 hq rfl hi d (kk p l e s m args below meth c A H locs la CC hH hS hl)
theorem z_eald {a n : Nat} {f : Nat → Option Nat} {i : Int32} (d : decode k.2.1 pc = .ok (.aaload, 1)) (hσ : σ a = some (zE G n f)) (hi : vp_in i n)
    (kk : zWP G k F (pc + 1) ls (va_rf (f i.toNatClampNeg) :: st) σ nx ca sl) : zWP G k F pc ls (.int i :: .ref a :: st) σ nx ca sl := by
  intro p l e s m args below meth c A H locs la CC hH hS hl
  obtain ⟨hx, hb, -, hown, hts, hK, hA, -⟩ := id CC
  obtain ⟨ws, q0, hP, -, hq, -⟩ := hH.at hσ
  exact va_aldq hx hb hK hP q0 4 hq rfl hi d (kk p l e s m args below meth c A H locs la CC hH hS hl)
theorem zst_i {G : zG} {A : Nat → Prop} {a n j : Nat} {cA : ClassId} {f : Nat → Int32} {x : Int32} {H1 : Heap} (e : H1[a]? = some ((vp_cell cA (n, .inl f)).setSlot j (.int x))) : va_at G.1 vwCl (a, .inl (cA, n, .inl (upd f j x))) H1 := by
  show H1[a]? = some (vp_cell _ _)
  rw [e, vp_cell_i, vp_cell_i, arrV_store]
  congr 2
  funext q
  by_cases hq : q = j
  · subst hq
    simp [updV, upd]
  · simp [updV, upd, hq]
theorem z_iast {a n : Nat} {f : Nat → Int32} {i x : Int32} (d : decode k.2.1 pc = .ok (.iastore, 1)) (hσ : σ a = some (zI G n f)) (hi : vp_in i n)
    (kk : zWP G k F (pc + 1) ls st (zu σ a (zI G n (upd f i.toNatClampNeg x))) nx ca sl) : zWP G k F pc ls (.int x :: .int i :: .ref a :: st) σ nx ca sl := by
  intro p l e s m args below meth c A H locs la CC hH hS hl
  obtain ⟨hx, hb, -, hown, hts, hK, hA, -⟩ := id CC
  obtain ⟨ws, q0, hP, -, hq, -⟩ := hH.at hσ
  exact W.iast hx hb (hP q0 _ hq) ((hK.2 0 _ rfl).1 n (fun j => .int (f j))) (fun q => by cases q) (by show ¬ (i < 0 ∨ (arrV _ _ _).slots.size ≤ _); rw [arrV_size]; exact hi) rfl rfl d fun H1 e1 z oq =>
    kk p l e s m args below meth c A H1 _ la CC (hH.put hσ z (zst_i (A := A) e1) oq) (hS.put z oq (hH.isA hσ)) hl
/-- a place of the cache of constants: an enum's constant -/
theorem z_kind {idx j : Nat} (d : decode k.2.1 pc = .ok (.getstatic idx, 3)) (hj : j < 6) (hw : Cond.fieldLink k.1 idx RX5 (zKn j) "LTaskgraphic$Kind;" ∈ zW ∨ ∃ host, Cond.fieldLinkNest k.1 idx RX5 (zKn j) "LTaskgraphic$Kind;" host ∈ zN)
    (kk : zWP G k F (pc + 3) ls (.ref (G.2.2 j) :: st) σ nx ca sl) : zWP G k F pc ls st σ nx ca sl := by
  intro p l e s m args below meth c A H locs la CC hH hS hl
  have K := kk p l e s m args below meth c A H locs la CC hH hS hl
  obtain ⟨hx, hb, -, hown, hts, hK, hA, -, -, -, -, ho, -⟩ := id CC
  rcases hw with hw | ⟨host, hw⟩
  · exact va_gets hx hb (ho.1 j hj) hS hown (hts _ hw) (fun _ h => h) d K
  · exact va_getsN hx hb (ho.1 j hj) hS hown (va_Nw.use rfl (ho.2.2.2.2.2.2.1 _ hw)) (fun _ h => h) d K
/-- the law's script -/
theorem z_xlen (d : decode k.2.1 pc = .ok (.arraylength, 1)) (kk : zWP G k F (pc + 1) ls (.int (Int32.ofNat (G.2.2 9)) :: st) σ nx ca sl) : zWP G k F pc ls (.ref (G.2.2 8) :: st) σ nx ca sl := by
  intro p l e s m args below meth c A H locs la C hH hS hl
  obtain ⟨-, -, -, -, -, -, -, -, -, -, -, -, h13, h14⟩ := C.2.2.2.2.2.2.2.2.2.2.2.1
  exact va_slen C.1 C.2.1 h13 (Array.getElem?_eq_some_iff.mp h13.choose_spec.1).1 h14 hS d (kk p l e s m args below meth c A H locs la C hH hS hl)
theorem z_xld {i : Int32} (d : decode k.2.1 pc = .ok (.iaload, 1)) (hi : vp_in i (G.2.2 9)) (kk : zWP G k F (pc + 1) ls (.int (Int32.ofNat (G.2.2 (10 + i.toNatClampNeg))) :: st) σ nx ca sl) : zWP G k F pc ls (.int i :: .ref (G.2.2 8) :: st) σ nx ca sl := by
  intro p l e s m args below meth c A H locs la C hH hS hl
  obtain ⟨-, -, -, -, -, -, -, -, -, -, -, -, h13, h14⟩ := C.2.2.2.2.2.2.2.2.2.2.2.1
  exact va_sld C.1 C.2.1 h13 (Array.getElem?_eq_some_iff.mp h13.choose_spec.1).1 h14 hS hi d (kk p l e s m args below meth c A H locs la C hH hS hl)
end ZHEAP
section ZCALL
variable {G : zG} {k : zK} {F : zF} {pc nx ca sl : Nat} {ls : zL} {st rest : List Value} {σ : zH} {Q : Option Value → zH → Nat → Prop} {X : String → zH → Nat → Prop}
-- ends
theorem zX (h : zWP G k (zFM G k.2.2.2.1 Q) pc ls st σ nx ca sl) : zWP G k (zFX G k.2.2.2.1 Q X) pc ls st σ nx ca sl := by
  intro p l e s m args below meth c A H locs la CC hH hS hl
  exact vx_ret (h p l e s m args below meth c A H locs la CC hH hS hl)
theorem z_iret {v : Int32} (d : decode k.2.1 pc = .ok (.ireturn, 1)) (hr : k.2.2.2.2.1 = some .int) (hca : ca ≤ k.2.2.2.1.cells) (hsl : sl ≤ k.2.2.2.1.slots) (hq : Q (some (.int v)) σ nx) : zWP G k (zFM G k.2.2.2.1 Q) pc ls [.int v] σ nx ca sl := by
  intro p l e s m args below meth c A H locs la CC hH hS hl
  obtain ⟨hx, hb, -, hown, hts, hK, hA, hlo, hret, -⟩ := id CC
  refine W.widen hca hsl ?_
  exact W.iret hx hb (hret.trans hr) (fun t ht hW => ⟨⟨_, σ, nx, rfl, hq, by rw [ht]; exact hH⟩, hS.F ht⟩) hS.2.2 d hlo
theorem z_zret {v : Int32} (d : decode k.2.1 pc = .ok (.ireturn, 1)) (hr : k.2.2.2.2.1 = some .boolean) (hn : narrow .boolean (.int v) = .int v) (hca : ca ≤ k.2.2.2.1.cells) (hsl : sl ≤ k.2.2.2.1.slots) (hq : Q (some (.int v)) σ nx) : zWP G k (zFM G k.2.2.2.1 Q) pc ls [.int v] σ nx ca sl := by
  intro p l e s m args below meth c A H locs la CC hH hS hl
  obtain ⟨hx, hb, -, hown, hts, hK, hA, hlo, hret, -⟩ := id CC
  refine W.widen hca hsl ?_
  exact W.zret hx hb (hret.trans hr) hn (fun t ht hW => ⟨⟨_, σ, nx, rfl, hq, by rw [ht]; exact hH⟩, hS.F ht⟩) hS.2.2 d hlo
theorem z_vret (d : decode k.2.1 pc = .ok (.return_, 1)) (hr : k.2.2.2.2.1 = none) (hca : ca ≤ k.2.2.2.1.cells) (hsl : sl ≤ k.2.2.2.1.slots) (hq : Q none σ nx) : zWP G k (zFM G k.2.2.2.1 Q) pc ls [] σ nx ca sl := by
  intro p l e s m args below meth c A H locs la CC hH hS hl
  obtain ⟨hx, hb, -, hown, hts, hK, hA, hlo, hret, -⟩ := id CC
  refine W.widen hca hsl ?_
  exact W.vret hx hb (hret.trans hr) (fun t ht hW => ⟨⟨_, σ, nx, rfl, hq, by rw [ht]; exact hH⟩, hS.F ht⟩) hS.2.2 d hlo
theorem z_aret {a : Nat} {rt : FieldType} (d : decode k.2.1 pc = .ok (.areturn, 1)) (hr : k.2.2.2.2.1 = some rt) (hrt : (∃ n, rt = .object n) ∨ ∃ t, rt = .array t) (hca : ca ≤ k.2.2.2.1.cells) (hsl : sl ≤ k.2.2.2.1.slots) (hq : Q (some (.ref a)) σ nx) : zWP G k (zFM G k.2.2.2.1 Q) pc ls [.ref a] σ nx ca sl := by
  intro p l e s m args below meth c A H locs la CC hH hS hl
  obtain ⟨hx, hb, -, hown, hts, hK, hA, hlo, hret, -⟩ := id CC
  refine W.widen hca hsl ?_
  exact W.aret hx hb (hret.trans hr) hrt (Or.inr ⟨_, rfl⟩) (fun t ht hW => ⟨⟨_, σ, nx, rfl, hq, by rw [ht]; exact hH⟩, hS.F ht⟩) hS.2.2 d hlo
theorem z_lret {v : Int64} (d : decode k.2.1 pc = .ok (.lreturn, 1)) (hr : k.2.2.2.2.1 = some .long) (hca : ca ≤ k.2.2.2.1.cells) (hsl : sl ≤ k.2.2.2.1.slots) (hq : Q (some (.long v)) σ nx) : zWP G k (zFM G k.2.2.2.1 Q) pc ls [.long v] σ nx ca sl := by
  intro p l e s m args below meth c A H locs la CC hH hS hl
  obtain ⟨hx, hb, -, hown, hts, hK, hA, hlo, hret, -⟩ := id CC
  refine W.widen hca hsl ?_
  exact W.lret hx hb (hret.trans hr) (fun t ht hW => ⟨⟨_, σ, nx, rfl, hq, by rw [ht]; exact hH⟩, hS.F ht⟩) hS.2.2 d hlo
theorem z_fret {v : UInt32} (d : decode k.2.1 pc = .ok (.freturn, 1)) (hr : k.2.2.2.2.1 = some .float) (hca : ca ≤ k.2.2.2.1.cells) (hsl : sl ≤ k.2.2.2.1.slots) (hq : Q (some (.float v)) σ nx) : zWP G k (zFM G k.2.2.2.1 Q) pc ls [.float v] σ nx ca sl := by
  intro p l e s m args below meth c A H locs la CC hH hS hl
  obtain ⟨hx, hb, -, hown, hts, hK, hA, hlo, hret, -⟩ := id CC
  refine W.widen hca hsl ?_
  exact W.fret hx hb (hret.trans hr) (fun t ht hW => ⟨⟨_, σ, nx, rfl, hq, by rw [ht]; exact hH⟩, hS.F ht⟩) hS.2.2 d hlo
-- a body's begin
theorem zC_of {y : MethodName} {p : Program} {l : Launch} {e : Env} {s s₁ : State} {m : MethodId} {args : Array Value} {below : List Frame} {meth : Method} {c : Code} (hk : k.1 = y.cls ∧ k.2.2.2.2.2.1 = y.name ∧ k.2.2.2.2.2.2 = []) (hl : l.stackTraces = false)
    (B : BodyLoose p l y (headSpec (.code y k.2.1 k.2.2.1 k.2.2.2.2.1 :: zW) k.2.2.2.1) k.2.1 k.2.2.1 k.2.2.2.2.1 e s m args below meth c s₁) (hml : c.maxLocals = k.2.2.1) (hP : zPre G σ nx s) : zC G k p l s m args meth c (zA σ nx) := by
  obtain ⟨hH, hK, ho⟩ := hP
  have hts := atoms_spec (ws := Cond.code y k.2.1 k.2.2.1 k.2.2.2.2.1 :: zW) B.pre
  have ht : c.exceptionTable.toList = [] := by
    obtain ⟨meth9, c9, h1, h2, -, -, -, -, h7, -⟩ := Cond.code_spec B.named (hts _ List.mem_cons_self)
    cases Option.some.inj (h1.symm.trans B.method)
    cases Option.some.inj (h2.symm.trans (Stand.of_body B).code)
    rw [Array.isEmpty_iff.mp h7]
  have hown : s.vm.findClass y.cls = some m.cls := findClass_of_methodNamed B.named
  refine ⟨B.exec, B.bytes, hml, by rw [hk.1]; exact hown, fun w hw => hts w (List.mem_cons_of_mem _ hw), hK, fun q hq => Or.inr (by rw [← hH.1]; exact hq), B.notSynchronized, B.returns, by rw [hk.2.1]; exact (name_of_methodNamed B.named B.method).1, by rw [ht, hk.2.2]; rfl, ho, hl⟩
theorem zMet_ofW {l : Launch} {y : MethodName} {ws ws' : List Cond} {rm : Room} {Pc : Array Value → State → Prop} {Qc : Array Value → State → Outcome → State → Prop} {mc ms : Nat} {free : Addr → Prop} {cc : ByteArray} {maxL : Nat} {ret : Option FieldType}
    (hy : plainFor y = true) (hw : ws = Cond.code y cc maxL ret :: ws')
    (body : ∀ p e s m args below meth c s₁, BodyLoose p l y (headSpec ws rm) cc maxL ret e s m args below meth c s₁ → c.maxLocals = maxL → Pc args s →
      W p l e (headSpec ws rm).room s m args below meth c s.heap [] 0 0 (MQ below Qc args s mc ms free) (entryFrame m args maxL)) : Met l y ws rm Pc Qc mc ms free := by
  refine MetFree.of_bodySF (code := cc) (maxLocals := maxL) (ret := ret) hy ?_ ?_
  · intro args s m h hn
    obtain ⟨meth, c, h1, h2, h3, h4, h5, h6, -, -⟩ := Cond.code_spec hn (atoms_spec (ws := ws) h _ (by rw [hw]; exact List.mem_cons_self))
    exact ⟨meth, c, h1, h2, h3, h4, h5, h6⟩
  · intro p e s m args below meth c s₁ B hml hP _
    have hh0 : s₁.heap = s.heap := by rw [B.state]; rfl
    obtain ⟨t, a1, o, b1, b2, b3⟩ := body p e s m args below meth c s₁ B hml hP s₁ hh0 (Stand.of_body B)
    exact ⟨t, o, a1, b1, b2, ⟨b3.1, b3.2⟩⟩
theorem zM.of {y : MethodName} {as : List Value} (hy : plainFor y = true) (hk : k.1 = y.cls ∧ k.2.2.2.2.2.1 = y.name ∧ k.2.2.2.2.2.2 = []) (hn : (lg_sl as).length ≤ k.2.2.1) (hls : ∀ q ∈ zTL 0 ls, q ∈ lv_args 0 as)
    (body : zWP G k (zFM G k.2.2.2.1 Q) 0 ls [] σ nx 0 0) : zM G y k as σ nx Q := by
  intro l hl
  refine zMet_ofW (cc := k.2.1) (maxL := k.2.2.1) (ret := k.2.2.2.2.1) hy rfl ?_
  intro p e s m args below meth c s₁ B hml hv
  obtain ⟨rfl, hP⟩ := hv
  have CC := zC_of hk hl B hml hP
  have hh := lv_entry as (n := k.2.2.1) hn
  rw [lg_entry_eq]
  generalize (lg_sl as ++ List.replicate (k.2.2.1 - (lg_sl as).length) Slot.unset).toArray = la at hh ⊢
  exact body p l e s m as.toArray below meth c (zA σ nx) s.heap [] la CC (hP.1.weaken fun a x hx _ => Or.inl ⟨x, hx⟩) va_S.rf ⟨hh.1, hh.2.1, fun q h => hh.2.2 q (hls q h)⟩
theorem zMX.of {y : MethodName} {as : List Value} (hy : plainName y.cls = true) (hk : k.1 = y.cls ∧ k.2.2.2.2.2.1 = y.name ∧ k.2.2.2.2.2.2 = []) (hn : (lg_sl as).length ≤ k.2.2.1) (hls : ∀ q ∈ zTL 0 ls, q ∈ lv_args 0 as)
    (body : zWP G k (zFX G k.2.2.2.1 Q X) 0 ls [] σ nx 0 0) : zMX G y k as σ nx Q X := by
  intro l hl
  refine vx_ofW (cc := k.2.1) (maxL := k.2.2.1) (ret := k.2.2.2.2.1) hy rfl ?_
  intro p e s m args below meth c s₁ B hml _ hv
  obtain ⟨rfl, hP⟩ := hv
  have CC := zC_of hk hl B hml hP
  have hh := lv_entry as (n := k.2.2.1) hn
  rw [lg_entry_eq]
  generalize (lg_sl as ++ List.replicate (k.2.2.1 - (lg_sl as).length) Slot.unset).toArray = la at hh ⊢
  exact body p l e s m as.toArray below meth c (zA σ nx) s.heap [] la CC (hP.1.weaken fun a x hx _ => Or.inl ⟨x, hx⟩) va_S.rf ⟨hh.1, hh.2.1, fun q h => hh.2.2 q (hls q h)⟩
-- calls
theorem zPre_blind {as : List Value} : FrameBlind (va_Pc as (zPre G σ nx)) := by
  rintro a U g mk ⟨h1, hH, hK, ho⟩
  exact ⟨h1, hH, va_K.moved (u := U) (U := U.calling g mk a) (Vm.Alike.refl U.vm) hK, zO.calling (U := U) (V := U.calling g mk a) rfl rfl ho⟩
theorem zPre_in {p : Program} {l : Launch} {s U : State} {m : MethodId} {args : Array Value} {meth : Method} {c : Code} {A : Nat → Prop} {H : Heap} {locs : List Loc} (CC : zC G k p l s m args meth c A) (hH : zHR G A σ nx H) (hS : va_S A s.heap H locs) (hU : U.heap = H) (hW : s.WarmedH U.vm) : zPre G σ nx U := by
  obtain ⟨-, -, -, -, -, hK, hA, -, -, -, -, ho, -⟩ := CC
  exact ⟨by rw [hU]; exact hH.weaken fun _ _ _ _ => trivial, va_K.moved hW.alike hK, zO.step ho hW hU hS (hH.sub fun q hq => hA q (Nat.le_trans hS.1 (by rw [hH.1]; exact hq)))⟩
theorem z_run {p : Program} {l : Launch} {e : Env} {s : State} {m : MethodId} {args a9 : Array Value} {below : List Frame} {meth : Method} {c : Code} {A : Nat → Prop} {H : Heap} {locs : List Loc} {la : Array Slot} {mc ms : Nat} {Q' : Option Value → zH → Nat → Prop}
    (CC : zC G k p l s m args meth c A) (hH : zHR G A σ nx H) (hS : va_S A s.heap H locs) (hl : lv_has la k.2.2.1 (zTL 0 ls)) (hr : va_Run p l e k.2.2.2.1 s m args below meth c H locs ca sl mc ms (F0 m pc la st) rest (zQc G (zA σ nx) Q' a9) (zA σ nx))
    (kk : ∀ (v : Option Value) (σ' : zH) (nx' : Nat), nx ≤ nx' → Q' v σ' nx' → zWP G k F (pc + 3) ls (v.toList ++ rest) σ' nx' (ca + mc) (sl + ms)) : W p l e k.2.2.2.1 s m args below meth c H locs ca sl (F below args s A) (F0 m pc la st) := by
  intro T hT X
  obtain ⟨v, st₀, t, T', L, h0, X', hL, e1, e2, ⟨⟨v', σ', nx', hv, hq, hH'⟩, hz, hk⟩, st⟩ := hr T hT X
  cases hv
  rw [h0] at hz hk
  rw [← e1] at hz hk hH'
  have hA : ∀ q, nx ≤ q → A q := fun q hq => CC.2.2.2.2.2.2.1 q (Nat.le_trans hS.1 (by rw [hH.1]; exact hq))
  have hsub := hH.sub hA
  have hn : nx ≤ nx' := by rw [← hH.1, ← hH'.1]; exact hz
  obtain ⟨t2, a1, b1⟩ := kk v σ' nx' hn hq p l e s m args below meth c A T'.heap (locs ++ L) la CC (hH'.weaken fun a _ _ h => hsub a h)
    ⟨Nat.le_trans hS.1 hz, fun q h1 h2 => by rw [hk q (Nat.lt_of_lt_of_le h1 hS.1) (fun z => h2 (hsub q z))]; exact hS.2.1 q h1 h2, fun q hq => by
      rcases List.mem_append.mp hq with h | h
      · exact hS.2.2 q h
      · exact hsub _ (hL q h)⟩ hl T' rfl X'
  exact ⟨t2, st t2 a1, b1⟩
def zLv (own : String) (idx : Nat) (y : MethodName) (k2 : zK) (n : Nat) : Prop := Cond.methodLink own idx y ∈ zW ∧ Cond.instanceMethod y ∈ zW ∧ Cond.selects y.cls y y ∈ zW ∧ Cond.initialized y.cls ∈ zW ∧ Cond.code y k2.2.1 k2.2.2.1 k2.2.2.2.2.1 ∈ zW ∧ (y.cls ≠ "java/lang/invoke/MethodHandle" ∧ y.cls ≠ "java/lang/invoke/VarHandle" ∧ (parseMethodDescriptor y.desc).map (fun d => d.parameters.length) = some n)
def zLs (own : String) (idx : Nat) (y : MethodName) (k2 : zK) (n : Nat) : Prop := (Cond.methodLink own idx y ∈ zW ∨ ∃ host, Cond.methodLinkNest own idx y host ∈ zN) ∧ Cond.static y ∈ zW ∧ Cond.initialized y.cls ∈ zW ∧ Cond.code y k2.2.1 k2.2.2.1 k2.2.2.2.2.1 ∈ zW ∧ (y.cls ≠ "java/lang/invoke/MethodHandle" ∧ y.cls ≠ "java/lang/invoke/VarHandle" ∧ (parseMethodDescriptor y.desc).map (fun d => d.parameters.length) = some n)
def zLi (own : String) (idx : Nat) (y : MethodName) (k2 : zK) (n : Nat) : Prop := (Cond.methodLink own idx y ∈ zW ∨ ∃ host, Cond.methodLinkNest own idx y host ∈ zN) ∧ Cond.instanceMethod y ∈ zW ∧ Cond.initialized y.cls ∈ zW ∧ Cond.code y k2.2.1 k2.2.2.1 none ∈ zW ∧ y.name = "<init>" ∧ k2.2.2.2.2.1 = none ∧ (y.cls ≠ "java/lang/invoke/MethodHandle" ∧ y.cls ≠ "java/lang/invoke/VarHandle" ∧ (parseMethodDescriptor y.desc).map (fun d => d.parameters.length) = some n)
def zRoom (k k2 : zK) : Prop := k2.2.2.2.1.frames + 1 ≤ k.2.2.2.1.frames ∧ 8 + (k2.2.2.1 + 11) + k2.2.2.2.1.locals ≤ k.2.2.2.1.locals
theorem zws {y : MethodName} {k2 : zK} {a : List Cond} (ha : ∀ w ∈ a, w ∈ zW) (hc : Cond.code y k2.2.1 k2.2.2.1 k2.2.2.2.2.1 ∈ zW) : GoodIn zW (a ++ (Cond.code y k2.2.1 k2.2.2.1 k2.2.2.2.2.1 :: zW)) := zW_good fun w hw => by
  rcases List.mem_append.mp hw with h | h
  · exact ha w h
  · rcases List.mem_cons.mp h with h | h
    · rw [h]; exact hc
    · exact h
theorem z_callV {idx n b ci : Nat} {y : MethodName} {k2 : zK} {As fs : List Value} {Q' : Option Value → zH → Nat → Prop} (d : decode k.2.1 pc = .ok (.invokevirtual idx, 3)) (hlk : zLv k.1 idx y k2 n) (hM : zM G y k2 (.ref b :: As) σ nx Q') (hst : st = As.reverse ++ .ref b :: rest) (hσ : σ b = some (.inr (ci, fs))) (hci : (vwCl[ci]?).map (fun q => q.1) = some y.cls) (hn : As.length = n) (hR : zRoom k k2)
    (hca : ca + k2.2.2.2.1.cells ≤ k.2.2.2.1.cells) (hsl : sl + k2.2.2.2.1.slots ≤ k.2.2.2.1.slots) (hW : (rest.map fun v => v.category).sum ≤ 8)
    (kk : ∀ (v : Option Value) (σ' : zH) (nx' : Nat), nx ≤ nx' → Q' v σ' nx' → zWP G k F (pc + 3) ls (v.toList ++ rest) σ' nx' (ca + k2.2.2.2.1.cells) (sl + k2.2.2.2.1.slots)) : zWP G k F pc ls st σ nx ca sl := by
  intro p l e s m args below meth c A H locs la CC hH hS hl
  obtain ⟨hx, hb, hml, hown, hts, hK, hA, -, -, -, -, ho, htr⟩ := id CC
  obtain ⟨h1, h2, h3, h4, h5, h6⟩ := hlk
  obtain ⟨ws, q0, hP, -, hq, -⟩ := hH.at hσ
  obtain ⟨r, hr1, hr2⟩ := Option.map_eq_some_iff.mp hci
  have hrv := va_recv hK hP hr1 hq
  rw [hr2] at hrv
  refine z_run CC hH hS hl (va_runV (As := As) (rest := rest) ⟨hx, hb, hml, hown, hts⟩ (hM l htr) (cwV n hts (zws (a := [.methodLink k.1 idx y, .instanceMethod y, .selects y.cls y y, .initialized y.cls]) (by simp only [List.mem_cons, List.mem_nil_iff, or_false, forall_eq_or_imp, forall_eq]; exact ⟨h1, h2, h3, h4⟩) h5) rfl rfl rfl ⟨rfl, h6⟩ hR) ⟨zPre_blind, hrv, fun U hU hW => ⟨rfl, zPre_in CC hH hS hU hW⟩⟩ rfl hn hl.1 hst (lv_room hW) d ⟨hca, hsl⟩) kk
theorem z_callS {idx n : Nat} {y : MethodName} {k2 : zK} {As : List Value} {Q' : Option Value → zH → Nat → Prop} (d : decode k.2.1 pc = .ok (.invokestatic idx, 3)) (hlk : zLs k.1 idx y k2 n) (hM : zM G y k2 As σ nx Q') (hst : st = As.reverse ++ rest) (hn : As.length = n) (hR : zRoom k k2)
    (hca : ca + k2.2.2.2.1.cells ≤ k.2.2.2.1.cells) (hsl : sl + k2.2.2.2.1.slots ≤ k.2.2.2.1.slots) (hW : (rest.map fun v => v.category).sum ≤ 8)
    (kk : ∀ (v : Option Value) (σ' : zH) (nx' : Nat), nx ≤ nx' → Q' v σ' nx' → zWP G k F (pc + 3) ls (v.toList ++ rest) σ' nx' (ca + k2.2.2.2.1.cells) (sl + k2.2.2.2.1.slots)) : zWP G k F pc ls st σ nx ca sl := by
  intro p l e s m args below meth c A H locs la CC hH hS hl
  obtain ⟨hx, hb, hml, hown, hts, hK, hA, -, -, -, -, ho, htr⟩ := id CC
  obtain ⟨h1, h2, h3, h4, h5⟩ := hlk
  rcases h1 with h1 | ⟨host, h1⟩
  · exact z_run CC hH hS hl (va_runS (As := As) (rest := rest) ⟨hx, hb, hml, hown, hts⟩ (hM l htr) (va_cwS n hts (zws (a := [.methodLink k.1 idx y, .static y, .initialized y.cls]) (by simp only [List.mem_cons, List.mem_nil_iff, or_false, forall_eq_or_imp, forall_eq]; exact ⟨h1, h2, h3⟩) h4) rfl rfl rfl h5 hR) ⟨zPre_blind, fun U hU hW => ⟨rfl, zPre_in CC hH hS hU hW⟩⟩ rfl hn hl.1 hst (lv_room hW) d ⟨hca, hsl⟩) kk
  · exact z_run CC hH hS hl (va_runSN (As := As) (rest := rest) ⟨hx, hb, hml, hown, hts⟩ (hM l htr) ⟨va_cnB n hts (zws (a := []) (fun w h => nomatch h) h4) rfl rfl rfl (ho.2.2.2.2.2.2.1 _ h1) (hts _ h3) h5 hR, hts _ h2, trivial⟩ ⟨zPre_blind, fun U hU hW => ⟨rfl, zPre_in CC hH hS hU hW⟩⟩ rfl hn hl.1 hst (lv_room hW) d ⟨hca, hsl⟩) kk
theorem z_callI {idx n b : Nat} {y : MethodName} {k2 : zK} {As : List Value} {Q' : Option Value → zH → Nat → Prop} (d : decode k.2.1 pc = .ok (.invokespecial idx, 3)) (hlk : zLi k.1 idx y k2 n) (hM : zM G y k2 (.ref b :: As) σ nx Q') (hst : st = As.reverse ++ .ref b :: rest) (hn : As.length = n) (hR : zRoom k k2)
    (hca : ca + k2.2.2.2.1.cells ≤ k.2.2.2.1.cells) (hsl : sl + k2.2.2.2.1.slots ≤ k.2.2.2.1.slots) (hW : (rest.map fun v => v.category).sum ≤ 8)
    (kk : ∀ (v : Option Value) (σ' : zH) (nx' : Nat), nx ≤ nx' → Q' v σ' nx' → zWP G k F (pc + 3) ls (v.toList ++ rest) σ' nx' (ca + k2.2.2.2.1.cells) (sl + k2.2.2.2.1.slots)) : zWP G k F pc ls st σ nx ca sl := by
  intro p l e s m args below meth c A H locs la CC hH hS hl
  obtain ⟨hx, hb, hml, hown, hts, hK, hA, -, -, -, -, ho, htr⟩ := id CC
  obtain ⟨h1, h2, h3, h4, hnm, hrt, h5⟩ := hlk
  have hM1 := hM l htr
  rw [hrt] at hM1
  have hG : GoodIn zW (Cond.code y k2.2.1 k2.2.2.1 none :: zW) := zW_good fun w hw => by
    rcases List.mem_cons.mp hw with h | h
    · rw [h]; exact h4
    · exact h
  rcases h1 with h1 | ⟨host, h1⟩
  · exact z_run CC hH hS hl (va_runI (As := As) (rest := rest) ⟨hx, hb, hml, hown, hts⟩ hM1 (cwI n hts hG rfl rfl rfl (hts _ h3) (hts _ h1) (hts _ h2) hnm h5 hR) ⟨zPre_blind, fun U hU hW => ⟨rfl, zPre_in CC hH hS hU hW⟩⟩ rfl hn hl.1 hst (lv_room hW) d ⟨hca, hsl⟩) kk
  · exact z_run CC hH hS hl (va_runIN (As := As) (rest := rest) ⟨hx, hb, hml, hown, hts⟩ hM1 ⟨va_cnB n hts hG rfl rfl rfl (ho.2.2.2.2.2.2.1 _ h1) (hts _ h3) h5 hR, hnm, hts _ h2⟩ ⟨zPre_blind, fun U hU hW => ⟨rfl, zPre_in CC hH hS hU hW⟩⟩ rfl hn hl.1 hst (lv_room hW) d ⟨hca, hsl⟩) kk
end ZCALL
