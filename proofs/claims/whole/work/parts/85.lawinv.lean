/-! the law: what holds at the head of its loop -/
/-- the end of the law -/
def zLF (a : Nat) : zF := fun below args s A t => args = #[.ref a] → (∀ q, A q → s.heap.size ≤ q) → lw_Z below args s t
theorem zcmp_self (x : Int64) : lg_cmp x x = 0 := by
  unfold lg_cmp
  simp
def zLI (G : zG) (σ : zH) (nx b i : Nat) : Prop := ∃ (u : zUv) (un : Nat) (S : zMS) (f : Nat → Int64), zTu G σ b (b + 109) u ∧ zMd G σ (b + 74) S ∧ zMu S u un ∧ zOk u ∧ un ≤ 28 * i ∧ σ (b + 108) = some (zJ G 1 f) ∧ b + 109 ≤ nx
abbrev zLls (a b i : Nat) (x5 x6 x7 x8 : Option Value) : zL := [some (.ref a), some (.ref b), some (.ref (b + 74)), some (.ref (b + 108)), some (.int (nI (4 * i))), x5, x6, x7, x8]
def zKont (G : zG) (a b L : Nat) (xs : Nat → Int32) (i : Nat) : Prop := ∀ (σ : zH) (nx : Nat) (x5 x6 x7 x8 : Option Value), zLI G σ nx b (i + 1) → zWP G kL_law (zSc a L xs (zLF a)) 2299 (zLls a b i x5 x6 x7 x8) [] σ nx (400 + 28 * (i + 1)) (60000 + 2800 * (i + 1))
theorem zadd1 (j : Nat) : nI j + 1 = nI (j + 1) := nI_add j 1
theorem zadd2 (j : Nat) : nI j + 2 = nI (j + 2) := nI_add j 2
theorem zadd3 (j : Nat) : nI j + 3 = nI (j + 3) := nI_add j 3
theorem z_sldn {G : zG} {k : zK} {F : zF} {pc a L j nx ca sl : Nat} {xs : Nat → Int32} {ls : zL} {st : List Value} {σ : zH} (hj : j < L) (hL : L ≤ 2048) (d : decode k.2.1 pc = .ok (.iaload, 1)) (kk : zWP G k (zSc a L xs F) (pc + 1) ls (.int (xs j) :: st) σ nx ca sl) : zWP G k (zSc a L xs F) pc ls (.int (nI j) :: .ref a :: st) σ nx ca sl := by
  refine z_sld d (vp_in_nI hj (by omega)) ?_
  rw [nI_clamp (by omega)]
  exact kk
theorem zTu.frm {G : zG} {σ σ' : zH} {b : Nat} {u : zUv} (h : zTu G σ b (b + 109) u) (hf : zFr σ σ' (b + 74) 34) : zTu G σ' b (b + 109) u := h.fr fun x q => hf x (by omega)
theorem zD1.md {G : zG} {σ σ' : zH} {b : Nat} {g : Int32 → Int64} {P : zUv → Int32 → Prop} {c : Nat} {u : zUv} {v : Option Value} {S : zMS} (h : zD1 G σ σ' b (b + 109) (b + 108) g P c u v) (hm : zMd G σ (b + 74) S) : zMd G σ' (b + 74) S := hm.fr fun x a c => h.2.2.2 x (Or.inr ⟨by omega, by omega⟩) (by omega)
/-- the end of a call: both sides answered alike -/
theorem zLI_ok {G : zG} {σ : zH} {nx b i un : Nat} {u : zUv} {S : zMS} {f : Nat → Int64} (h1 : zTu G σ b (b + 109) u) (h2 : zMd G σ (b + 74) S) (h3 : ∃ un', un' ≤ un + 28 ∧ zMu S u un') (h4 : zOk u) (h5 : un ≤ 28 * i) (h6 : σ (b + 108) = some (zJ G 1 f)) (h7 : b + 109 ≤ nx) : zLI G σ nx b (i + 1) := by
  obtain ⟨un', q1, q2⟩ := h3
  exact ⟨u, un', S, f, h1, h2, q2, h4, by omega, h6, h7⟩
