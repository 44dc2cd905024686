/-! the calls, in one form for both sides: the class -/
abbrev zUv : Type := zNT × Nat × Nat × Nat × (Nat → Nat) × Nat × zNS × List zAE × Nat × Nat × Nat
def zTu (G : zG) (σ : zH) (b hi : Nat) (u : zUv) : Prop := match u with
  | (nt, lim, mem, wk, slow, r, L, A, tk, sp, cs) => zTG G σ b hi nt lim mem wk slow r L A tk sp cs
def zm01 (nt : zNT) : Prop := ∀ (i : Nat) (e : zNX), nt[i]? = some e → e.2.2.1 11 = 0 ∨ e.2.2.1 11 = 1
/-- what is so of every state -/
def zOk (u : zUv) : Prop := match u with
  | (nt, lim, mem, wk, slow, r, L, A, tk, sp, cs) => zWf nt ∧ zHow nt ∧ nt.length ≤ 14 ∧ lim ≤ 1000 ∧ mem ≤ 1000 ∧ (1 ≤ wk ∧ wk ≤ 4) ∧ (∀ k, k < 4 → 1 ≤ slow k ∧ slow k ≤ 9) ∧ r ≤ 1000 ∧ zLok L ∧ (∀ (i : Nat) (q : Nat × Nat), L[i]? = some q → q.1 < nt.length ∧ q.2 = (zct lim nt q.1).flatten.length) ∧ tk ≤ 28000000 ∧ (tk ≠ 0 → 1 ≤ cs ∧ cs ≤ 4) ∧ zm01 nt
/-- what is answered, and the state then -/
def zPq (u0 : zUv) (w0 : Int32) : zUv → Int32 → Prop := fun u w => u = u0 ∧ w = w0
def zPn (nt : zNT) (lim mem wk : Nat) (slow : Nat → Nat) (r : Nat) (L : zNS) (A : List zAE) (tk sp cs k : Nat) (D : Nat → Int32) : zUv → Int32 → Prop := fun u w => w = nI nt.length ∧ ∃ e : zNX, e.2.1 = k ∧ e.2.2.1 = D ∧ e.2.2.2 = [] ∧ u = (nt ++ [e], lim, mem, wk, slow, r, L, A, tk, sp, cs)
def zA1 (G : zG) (σ σ' : zH) (b hi : Nat) (P : zUv → Int32 → Prop) (c : Nat) (v : Option Value) : Prop := c = 0 ∧ ∃ u' w, v = some (.int w) ∧ P u' w ∧ zTu G σ' b hi u' ∧ zFh σ σ' b hi
def zA2 (G : zG) (σ σ' : zH) (b hi : Nat) (u : zUv) (c : Nat) (E : String) (l : List (String × Nat)) : Prop := zTu G σ' b hi u ∧ zFh σ σ' b hi ∧ (E, c) ∈ l
theorem znob_in {n i : Nat} (hn : n < 2 ^ 31) (h : i < n) : ¬ znob n (nI i) = true := by rw [znob_f.mpr (zis_in hn h)]; decide
theorem znob_no {n : Nat} {x : Int32} (h : x < 0 ∨ nI n ≤ x) : znob n x = true := znob_t.mpr (zis_no.mpr h)
theorem zk_node0 {n i : Nat} (hn : n < 2 ^ 31) (h : i < n) : zk_node n (nI i) = 0 := if_neg (znob_in hn h)
theorem zk_node1 {n : Nat} {x : Int32} (h : x < 0 ∨ nI n ≤ x) : zk_node n x = 1 := if_pos (znob_no h)
theorem zFh.of {σ σ' : zH} {b hi : Nat} (hb : b + 74 ≤ hi) (h : ∀ y, y < hi → (y < b ∨ b + 74 ≤ y) → σ' y = σ y) : zFh σ σ' b hi := fun x q => h x (by omega) (by omega)
theorem zTG.A224 {G : zG} {σ : zH} {b hi : Nat} {nt : zNT} {lim mem wk r tk sp cs : Nat} {slow : Nat → Nat} {L : zNS} {A : List zAE} (h : zTG G σ b hi nt lim mem wk slow r L A tk sp cs) : A.length ≤ 224 := by
  obtain ⟨f, -, -, -, q⟩ := h.lg
  exact q
theorem zTG.hb {G : zG} {σ : zH} {b hi : Nat} {nt : zNT} {lim mem wk r tk sp cs : Nat} {slow : Nat → Nat} {L : zNS} {A : List zAE} (h : zTG G σ b hi nt lim mem wk slow r L A tk sp cs) : b + 74 ≤ hi := h.2.2.2.2.2.2.2.2
theorem zTG.lok {G : zG} {σ : zH} {b hi : Nat} {nt : zNT} {lim mem wk r tk sp cs : Nat} {slow : Nat → Nat} {L : zNS} {A : List zAE} (h : zTG G σ b hi nt lim mem wk slow r L A tk sp cs) : zLok L := by
  obtain ⟨uf, sf, mm, c1, c2, c3, c4, c5, c6, c7⟩ := h.ca
  exact c6
theorem zno4 {x : Int32} {p n : Nat} (hx : x = nI p) (h1 : 1 ≤ p) (h2 : p ≤ n) (hn : n < 2 ^ 31) : ¬ (x < 1 ∨ nI n < x) := by
  subst hx
  rintro (h | h)
  · exact absurd h (Int32.not_lt.mpr (show nI 1 ≤ nI p from nI_le h1 (by omega)))
  · exact absurd h (Int32.not_lt.mpr (nI_le h2 hn))
theorem zno_4 {p : Nat} (h1 : 1 ≤ p) (h2 : p ≤ 4) : ¬ (nI p < 1 ∨ 4 < nI p) := zno4 (n := 4) rfl h1 h2 (by decide)
theorem zno_9 {p : Nat} (h1 : 1 ≤ p) (h2 : p ≤ 9) : ¬ (nI p < 1 ∨ 9 < nI p) := zno4 (n := 9) rfl h1 h2 (by decide)
theorem zno0 {x : Int32} {p n : Nat} (hx : x = nI p) (h2 : p ≤ n) (hn : n < 2 ^ 31) : ¬ (x < 0 ∨ nI n < x) := by
  subst hx
  rintro (h | h)
  · exact nI_pos (by omega) h
  · exact absurd h (Int32.not_lt.mpr (nI_le h2 hn))
theorem zcn_le14 (s : Nat → Bool) : ∀ n, zcn s n ≤ n
  | 0 => Nat.le_refl _
  | n + 1 => by
    have := zcn_le14 s n
    show zcn s n + (if s n = true then 1 else 0) ≤ n + 1
    split <;> omega
theorem zct_8 {lim : Nat} {nt : zNT} (hw : zWf nt) (hl : nt.length ≤ 14) {i : Nat} (hi : i < nt.length) : (zct lim nt i).length ≤ 8 := by
  have hg : nt[i]? = some (nt[i]'hi) := List.getElem?_eq_getElem _
  generalize nt[i]'hi = e at hg
  obtain ⟨f, s, p, k6, ⟨b1, b2, w1, w2, w3⟩, -⟩ := hw i e hg
  have h := (zcon_len hw hl false lim i e hg).2.2
  simp only [Bool.false_eq_true, if_false] at h
  exact Nat.le_trans h w3
theorem zct_300 {lim : Nat} {nt : zNT} (hw : zWf nt) (hl : nt.length ≤ 14) {i : Nat} (hi : i < nt.length) : (zct lim nt i).flatten.length ≤ 300 := by
  have hg : nt[i]? = some (nt[i]'hi) := List.getElem?_eq_getElem _
  generalize nt[i]'hi = e at hg
  obtain ⟨f, s, p, k6, ⟨b1, b2, w1, w2, w3⟩, -⟩ := hw i e hg
  exact Nat.le_trans (zcon_len hw hl false lim i e hg).1 b2
theorem zbaduni_iff {nt : zNT} {i j : Nat} {f g : zNX} (hw : zWf nt) (hf : nt[i]? = some f) (hg : nt[j]? = some g) : zbaduni f g ↔ (300 < zb f + zb g ∨ 8 < zw f + zw g) := by
  obtain ⟨_, _, _, _, ⟨b1, b2, w1, w2, w3⟩, _⟩ := hw i f hf
  obtain ⟨_, _, _, _, ⟨c1, c2, v1, v2, v3⟩, _⟩ := hw j g hg
  unfold zbaduni
  rw [b1, c1, w1, v1, nI_add, nI_add]
  exact or_congr (nI_ltI (a := 300) (by decide) (by omega)) (nI_ltI (a := 8) (by decide) (by omega))
theorem zbadjoi_iff {nt : zNT} {i j : Nat} {f g : zNX} (hw : zWf nt) (hf : nt[i]? = some f) (hg : nt[j]? = some g) : zbadjoi f g ↔ 300 < zb f * zb g := by
  obtain ⟨_, _, _, _, ⟨b1, b2, w1, w2, w3⟩, _⟩ := hw i f hf
  obtain ⟨_, _, _, _, ⟨c1, c2, v1, v2, v3⟩, _⟩ := hw j g hg
  have : zb f * zb g ≤ 300 * 300 := Nat.mul_le_mul b2 c2
  unfold zbadjoi
  rw [b1, c1, pk_mul]
  exact nI_ltI (a := 300) (by decide) (by omega)
section
variable {G : zG} {σ : zH} {b hi nx : Nat} {nt : zNT} {lim mem wk r tk sp cs : Nat} {slow : Nat → Nat} {L : zNS} {A : List zAE} {x y z : Int32}
theorem a_partitions (hG : zKap G) (hnx : hi ≤ nx) (ok : zOk (nt, lim, mem, wk, slow, r, L, A, tk, sp, cs)) (h : zTG G σ b hi nt lim mem wk slow r L A tk sp cs) : zMX G yX11_partitions kX11_partitions [.ref b, .int x] σ nx (fun v σ' nx' => zA1 G σ σ' b hi (zPq (nt, lim, mem, wk, slow, r, L, A, tk, sp, cs) (nI (zct lim nt x.toNatClampNeg).length)) (zk_node nt.length x) v) (fun E σ' nx' => zA2 G σ σ' b hi (nt, lim, mem, wk, slow, r, L, A, tk, sp, cs) (zk_node nt.length x) E [(zEI, 1)]) := by
  obtain ⟨hw, hh, h14, hlim, hmem, hwk, hslow, hr, hL, hsz, htk, hcs, h01⟩ := ok
  have hb := h.hb
  refine zMX.mono (c_partitions hG hw hlim h) (fun v σ' nx' hq => ?_) (fun E σ' nx' hq => ?_)
  · obtain ⟨⟨i, hi0, rfl, rfl⟩, h1, h2, -⟩ := hq
    rw [nI_clamp (show i < 2 ^ 31 by omega)]
    exact ⟨zk_node0 (by omega) hi0, _, _, rfl, ⟨rfl, rfl⟩, h1, h2⟩
  · obtain ⟨rfl, rfl, hx⟩ := hq
    exact ⟨h, zFh.rf _ _ _, List.mem_singleton.mpr (by rw [zk_node1 hx])⟩
theorem a_rows (hG : zKap G) (hnx : hi ≤ nx) (ok : zOk (nt, lim, mem, wk, slow, r, L, A, tk, sp, cs)) (h : zTG G σ b hi nt lim mem wk slow r L A tk sp cs) : zMX G yX11_rows kX11_rows [.ref b, .int x] σ nx (fun v σ' nx' => zA1 G σ σ' b hi (zPq (nt, lim, mem, wk, slow, r, L, A, tk, sp, cs) (nI (zct lim nt x.toNatClampNeg).flatten.length)) (zk_node nt.length x) v) (fun E σ' nx' => zA2 G σ σ' b hi (nt, lim, mem, wk, slow, r, L, A, tk, sp, cs) (zk_node nt.length x) E [(zEI, 1)]) := by
  obtain ⟨hw, hh, h14, hlim, hmem, hwk, hslow, hr, hL, hsz, htk, hcs, h01⟩ := ok
  have hb := h.hb
  refine zMX.mono (c_rows hG hw hlim h) (fun v σ' nx' hq => ?_) (fun E σ' nx' hq => ?_)
  · obtain ⟨⟨i, hi0, rfl, rfl⟩, h1, h2, -⟩ := hq
    rw [nI_clamp (show i < 2 ^ 31 by omega)]
    exact ⟨zk_node0 (by omega) hi0, _, _, rfl, ⟨rfl, rfl⟩, h1, h2⟩
  · obtain ⟨rfl, rfl, hx⟩ := hq
    exact ⟨h, zFh.rf _ _ _, List.mem_singleton.mpr (by rw [zk_node1 hx])⟩
theorem a_digest (hG : zKap G) (hnx : hi ≤ nx) (ok : zOk (nt, lim, mem, wk, slow, r, L, A, tk, sp, cs)) (h : zTG G σ b hi nt lim mem wk slow r L A tk sp cs) : zMX G yX11_digest kX11_digest [.ref b, .int x] σ nx (fun v σ' nx' => zA1 G σ σ' b hi (zPq (nt, lim, mem, wk, slow, r, L, A, tk, sp, cs) (zsq (zct lim nt x.toNatClampNeg).flatten)) (zk_node nt.length x) v) (fun E σ' nx' => zA2 G σ σ' b hi (nt, lim, mem, wk, slow, r, L, A, tk, sp, cs) (zk_node nt.length x) E [(zEI, 1)]) := by
  obtain ⟨hw, hh, h14, hlim, hmem, hwk, hslow, hr, hL, hsz, htk, hcs, h01⟩ := ok
  have hb := h.hb
  refine zMX.mono (c_digest hG hw hlim h) (fun v σ' nx' hq => ?_) (fun E σ' nx' hq => ?_)
  · obtain ⟨⟨i, hi0, rfl, rfl⟩, h1, h2, -⟩ := hq
    rw [nI_clamp (show i < 2 ^ 31 by omega)]
    exact ⟨zk_node0 (by omega) hi0, _, _, rfl, ⟨rfl, rfl⟩, h1, h2⟩
  · obtain ⟨rfl, rfl, hx⟩ := hq
    exact ⟨h, zFh.rf _ _ _, List.mem_singleton.mpr (by rw [zk_node1 hx])⟩
theorem a_digestInPlace (hG : zKap G) (hnx : hi ≤ nx) (ok : zOk (nt, lim, mem, wk, slow, r, L, A, tk, sp, cs)) (h : zTG G σ b hi nt lim mem wk slow r L A tk sp cs) : zMX G yX11_digestInPlace kX11_digestInPlace [.ref b, .int x] σ nx (fun v σ' nx' => zA1 G σ σ' b hi (zPq (nt, lim, mem, wk, slow, r, L, A, tk, sp, cs) (zsq (zct lim nt x.toNatClampNeg).flatten)) (zk_node nt.length x) v) (fun E σ' nx' => zA2 G σ σ' b hi (nt, lim, mem, wk, slow, r, L, A, tk, sp, cs) (zk_node nt.length x) E [(zEI, 1)]) := by
  obtain ⟨hw, hh, h14, hlim, hmem, hwk, hslow, hr, hL, hsz, htk, hcs, h01⟩ := ok
  have hb := h.hb
  refine zMX.mono (c_digestInPlace hG hw hlim h) (fun v σ' nx' hq => ?_) (fun E σ' nx' hq => ?_)
  · obtain ⟨⟨i, hi0, rfl, rfl⟩, h1, h2, -⟩ := hq
    rw [nI_clamp (show i < 2 ^ 31 by omega)]
    exact ⟨zk_node0 (by omega) hi0, _, _, rfl, ⟨rfl, zcon_sq hw h14 hi0⟩, h1, h2⟩
  · obtain ⟨rfl, rfl, hx⟩ := hq
    exact ⟨h, zFh.rf _ _ _, List.mem_singleton.mpr (by rw [zk_node1 hx])⟩
theorem a_stages (hG : zKap G) (hnx : hi ≤ nx) (ok : zOk (nt, lim, mem, wk, slow, r, L, A, tk, sp, cs)) (h : zTG G σ b hi nt lim mem wk slow r L A tk sp cs) : zMX G yX11_stages kX11_stages [.ref b, .int x] σ nx (fun v σ' nx' => zA1 G σ σ' b hi (zPq (nt, lim, mem, wk, slow, r, L, A, tk, sp, cs) (nI (zcn (zdraw lim nt (zcd L) x.toNatClampNeg).2.1 14))) (zk_node nt.length x) v) (fun E σ' nx' => zA2 G σ σ' b hi (nt, lim, mem, wk, slow, r, L, A, tk, sp, cs) (zk_node nt.length x) E [(zEI, 1)]) := by
  obtain ⟨hw, hh, h14, hlim, hmem, hwk, hslow, hr, hL, hsz, htk, hcs, h01⟩ := ok
  have hb := h.hb
  refine zMX.mono (c_stages hG hw hlim h) (fun v σ' nx' hq => ?_) (fun E σ' nx' hq => ?_)
  · obtain ⟨⟨i, hi0, rfl, rfl⟩, h1, h2, -⟩ := hq
    rw [nI_clamp (show i < 2 ^ 31 by omega)]
    exact ⟨zk_node0 (by omega) hi0, _, _, rfl, ⟨rfl, rfl⟩, h1, h2⟩
  · obtain ⟨rfl, rfl, hx⟩ := hq
    exact ⟨h, zFh.rf _ _ _, List.mem_singleton.mpr (by rw [zk_node1 hx])⟩
theorem a_isCached (hG : zKap G) (hnx : hi ≤ nx) (ok : zOk (nt, lim, mem, wk, slow, r, L, A, tk, sp, cs)) (h : zTG G σ b hi nt lim mem wk slow r L A tk sp cs) : zMX G yX11_isCached kX11_isCached [.ref b, .int x] σ nx (fun v σ' nx' => zA1 G σ σ' b hi (zPq (nt, lim, mem, wk, slow, r, L, A, tk, sp, cs) (if zcd L x.toNatClampNeg = true then 1 else 0)) (zk_node nt.length x) v) (fun E σ' nx' => zA2 G σ σ' b hi (nt, lim, mem, wk, slow, r, L, A, tk, sp, cs) (zk_node nt.length x) E [(zEI, 1)]) := by
  obtain ⟨hw, hh, h14, hlim, hmem, hwk, hslow, hr, hL, hsz, htk, hcs, h01⟩ := ok
  have hb := h.hb
  refine zMX.mono (c_isCached h) (fun v σ' nx' hq => ?_) (fun E σ' nx' hq => ?_)
  · obtain ⟨⟨i, hi0, rfl, rfl⟩, rfl, -⟩ := hq
    rw [nI_clamp (show i < 2 ^ 31 by omega)]
    exact ⟨zk_node0 (by omega) hi0, _, _, rfl, ⟨rfl, rfl⟩, h, zFh.rf _ _ _⟩
  · obtain ⟨rfl, rfl, hx⟩ := hq
    exact ⟨h, zFh.rf _ _ _, List.mem_singleton.mpr (by rw [zk_node1 hx])⟩
theorem a_nodeOf (hG : zKap G) (hnx : hi ≤ nx) (ok : zOk (nt, lim, mem, wk, slow, r, L, A, tk, sp, cs)) (h : zTG G σ b hi nt lim mem wk slow r L A tk sp cs) : zMX G yX11_nodeOf kX11_nodeOf [.ref b, .int x] σ nx (fun v σ' nx' => zA1 G σ σ' b hi (zPq (nt, lim, mem, wk, slow, r, L, A, tk, sp, cs) (zAc (A.getD x.toNatClampNeg (0, 0, 0, 0, 0, false)) 0)) (zk_node A.length x) v) (fun E σ' nx' => zA2 G σ σ' b hi (nt, lim, mem, wk, slow, r, L, A, tk, sp, cs) (zk_node A.length x) E [(zEI, 1)]) := by
  obtain ⟨hw, hh, h14, hlim, hmem, hwk, hslow, hr, hL, hsz, htk, hcs, h01⟩ := ok
  have hb := h.hb
  have hA := h.A224
  refine zMX.mono (c_nodeOf h) (fun v σ' nx' hq => ?_) (fun E σ' nx' hq => ?_)
  · obtain ⟨⟨i, a, ha, rfl, rfl⟩, rfl, -⟩ := hq
    have hi0 := zR_lt ha
    rw [nI_clamp (show i < 2 ^ 31 by omega), List.getD_eq_getElem?_getD, ha]
    exact ⟨zk_node0 (by omega) hi0, _, _, rfl, ⟨rfl, rfl⟩, h, zFh.rf _ _ _⟩
  · obtain ⟨rfl, rfl, hx⟩ := hq
    exact ⟨h, zFh.rf _ _ _, List.mem_singleton.mpr (by rw [zk_node1 hx])⟩
theorem a_partitionOf (hG : zKap G) (hnx : hi ≤ nx) (ok : zOk (nt, lim, mem, wk, slow, r, L, A, tk, sp, cs)) (h : zTG G σ b hi nt lim mem wk slow r L A tk sp cs) : zMX G yX11_partitionOf kX11_partitionOf [.ref b, .int x] σ nx (fun v σ' nx' => zA1 G σ σ' b hi (zPq (nt, lim, mem, wk, slow, r, L, A, tk, sp, cs) (zAc (A.getD x.toNatClampNeg (0, 0, 0, 0, 0, false)) 1)) (zk_node A.length x) v) (fun E σ' nx' => zA2 G σ σ' b hi (nt, lim, mem, wk, slow, r, L, A, tk, sp, cs) (zk_node A.length x) E [(zEI, 1)]) := by
  obtain ⟨hw, hh, h14, hlim, hmem, hwk, hslow, hr, hL, hsz, htk, hcs, h01⟩ := ok
  have hb := h.hb
  have hA := h.A224
  refine zMX.mono (c_partitionOf h) (fun v σ' nx' hq => ?_) (fun E σ' nx' hq => ?_)
  · obtain ⟨⟨i, a, ha, rfl, rfl⟩, rfl, -⟩ := hq
    have hi0 := zR_lt ha
    rw [nI_clamp (show i < 2 ^ 31 by omega), List.getD_eq_getElem?_getD, ha]
    exact ⟨zk_node0 (by omega) hi0, _, _, rfl, ⟨rfl, rfl⟩, h, zFh.rf _ _ _⟩
  · obtain ⟨rfl, rfl, hx⟩ := hq
    exact ⟨h, zFh.rf _ _ _, List.mem_singleton.mpr (by rw [zk_node1 hx])⟩
theorem a_workerOf (hG : zKap G) (hnx : hi ≤ nx) (ok : zOk (nt, lim, mem, wk, slow, r, L, A, tk, sp, cs)) (h : zTG G σ b hi nt lim mem wk slow r L A tk sp cs) : zMX G yX11_workerOf kX11_workerOf [.ref b, .int x] σ nx (fun v σ' nx' => zA1 G σ σ' b hi (zPq (nt, lim, mem, wk, slow, r, L, A, tk, sp, cs) (zAc (A.getD x.toNatClampNeg (0, 0, 0, 0, 0, false)) 2)) (zk_node A.length x) v) (fun E σ' nx' => zA2 G σ σ' b hi (nt, lim, mem, wk, slow, r, L, A, tk, sp, cs) (zk_node A.length x) E [(zEI, 1)]) := by
  obtain ⟨hw, hh, h14, hlim, hmem, hwk, hslow, hr, hL, hsz, htk, hcs, h01⟩ := ok
  have hb := h.hb
  have hA := h.A224
  refine zMX.mono (c_workerOf h) (fun v σ' nx' hq => ?_) (fun E σ' nx' hq => ?_)
  · obtain ⟨⟨i, a, ha, rfl, rfl⟩, rfl, -⟩ := hq
    have hi0 := zR_lt ha
    rw [nI_clamp (show i < 2 ^ 31 by omega), List.getD_eq_getElem?_getD, ha]
    exact ⟨zk_node0 (by omega) hi0, _, _, rfl, ⟨rfl, rfl⟩, h, zFh.rf _ _ _⟩
  · obtain ⟨rfl, rfl, hx⟩ := hq
    exact ⟨h, zFh.rf _ _ _, List.mem_singleton.mpr (by rw [zk_node1 hx])⟩
theorem a_startOf (hG : zKap G) (hnx : hi ≤ nx) (ok : zOk (nt, lim, mem, wk, slow, r, L, A, tk, sp, cs)) (h : zTG G σ b hi nt lim mem wk slow r L A tk sp cs) : zMX G yX11_startOf kX11_startOf [.ref b, .int x] σ nx (fun v σ' nx' => zA1 G σ σ' b hi (zPq (nt, lim, mem, wk, slow, r, L, A, tk, sp, cs) (zAc (A.getD x.toNatClampNeg (0, 0, 0, 0, 0, false)) 3)) (zk_node A.length x) v) (fun E σ' nx' => zA2 G σ σ' b hi (nt, lim, mem, wk, slow, r, L, A, tk, sp, cs) (zk_node A.length x) E [(zEI, 1)]) := by
  obtain ⟨hw, hh, h14, hlim, hmem, hwk, hslow, hr, hL, hsz, htk, hcs, h01⟩ := ok
  have hb := h.hb
  have hA := h.A224
  refine zMX.mono (c_startOf h) (fun v σ' nx' hq => ?_) (fun E σ' nx' hq => ?_)
  · obtain ⟨⟨i, a, ha, rfl, rfl⟩, rfl, -⟩ := hq
    have hi0 := zR_lt ha
    rw [nI_clamp (show i < 2 ^ 31 by omega), List.getD_eq_getElem?_getD, ha]
    exact ⟨zk_node0 (by omega) hi0, _, _, rfl, ⟨rfl, rfl⟩, h, zFh.rf _ _ _⟩
  · obtain ⟨rfl, rfl, hx⟩ := hq
    exact ⟨h, zFh.rf _ _ _, List.mem_singleton.mpr (by rw [zk_node1 hx])⟩
theorem a_endOf (hG : zKap G) (hnx : hi ≤ nx) (ok : zOk (nt, lim, mem, wk, slow, r, L, A, tk, sp, cs)) (h : zTG G σ b hi nt lim mem wk slow r L A tk sp cs) : zMX G yX11_endOf kX11_endOf [.ref b, .int x] σ nx (fun v σ' nx' => zA1 G σ σ' b hi (zPq (nt, lim, mem, wk, slow, r, L, A, tk, sp, cs) (zAc (A.getD x.toNatClampNeg (0, 0, 0, 0, 0, false)) 4)) (zk_node A.length x) v) (fun E σ' nx' => zA2 G σ σ' b hi (nt, lim, mem, wk, slow, r, L, A, tk, sp, cs) (zk_node A.length x) E [(zEI, 1)]) := by
  obtain ⟨hw, hh, h14, hlim, hmem, hwk, hslow, hr, hL, hsz, htk, hcs, h01⟩ := ok
  have hb := h.hb
  have hA := h.A224
  refine zMX.mono (c_endOf h) (fun v σ' nx' hq => ?_) (fun E σ' nx' hq => ?_)
  · obtain ⟨⟨i, a, ha, rfl, rfl⟩, rfl, -⟩ := hq
    have hi0 := zR_lt ha
    rw [nI_clamp (show i < 2 ^ 31 by omega), List.getD_eq_getElem?_getD, ha]
    exact ⟨zk_node0 (by omega) hi0, _, _, rfl, ⟨rfl, rfl⟩, h, zFh.rf _ _ _⟩
  · obtain ⟨rfl, rfl, hx⟩ := hq
    exact ⟨h, zFh.rf _ _ _, List.mem_singleton.mpr (by rw [zk_node1 hx])⟩
theorem a_isCopy (hG : zKap G) (hnx : hi ≤ nx) (ok : zOk (nt, lim, mem, wk, slow, r, L, A, tk, sp, cs)) (h : zTG G σ b hi nt lim mem wk slow r L A tk sp cs) : zMX G yX11_isCopy kX11_isCopy [.ref b, .int x] σ nx (fun v σ' nx' => zA1 G σ σ' b hi (zPq (nt, lim, mem, wk, slow, r, L, A, tk, sp, cs) (zAc (A.getD x.toNatClampNeg (0, 0, 0, 0, 0, false)) 5)) (zk_node A.length x) v) (fun E σ' nx' => zA2 G σ σ' b hi (nt, lim, mem, wk, slow, r, L, A, tk, sp, cs) (zk_node A.length x) E [(zEI, 1)]) := by
  obtain ⟨hw, hh, h14, hlim, hmem, hwk, hslow, hr, hL, hsz, htk, hcs, h01⟩ := ok
  have hb := h.hb
  have hA := h.A224
  refine zMX.mono (c_isCopy h) (fun v σ' nx' hq => ?_) (fun E σ' nx' hq => ?_)
  · obtain ⟨⟨i, a, ha, rfl, rfl⟩, rfl, -⟩ := hq
    have hi0 := zR_lt ha
    rw [nI_clamp (show i < 2 ^ 31 by omega), List.getD_eq_getElem?_getD, ha]
    exact ⟨zk_node0 (by omega) hi0, _, _, rfl, ⟨rfl, rfl⟩, h, zFh.rf _ _ _⟩
  · obtain ⟨rfl, rfl, hx⟩ := hq
    exact ⟨h, zFh.rf _ _ _, List.mem_singleton.mpr (by rw [zk_node1 hx])⟩
theorem a_mark (hG : zKap G) (hnx : hi ≤ nx) (hy : y = 0 ∨ y = 1) (ok : zOk (nt, lim, mem, wk, slow, r, L, A, tk, sp, cs)) (h : zTG G σ b hi nt lim mem wk slow r L A tk sp cs) : zMX G yX11_mark kX11_mark [.ref b, .int x, .int y] σ nx (fun v σ' nx' => zA1 G σ σ' b hi (zPq (zmark nt x.toNatClampNeg y, lim, mem, wk, slow, r, L, A, tk, sp, cs) ((nt.getD x.toNatClampNeg zdf).2.2.1 11)) (zk_node nt.length x) v) (fun E σ' nx' => zA2 G σ σ' b hi (nt, lim, mem, wk, slow, r, L, A, tk, sp, cs) (zk_node nt.length x) E [(zEI, 1)]) := by
  obtain ⟨hw, hh, h14, hlim, hmem, hwk, hslow, hr, hL, hsz, htk, hcs, h01⟩ := ok
  have hb := h.hb
  refine zMX.mono (c_mark hy h01 h) (fun v σ' nx' hq => ?_) (fun E σ' nx' hq => ?_)
  · obtain ⟨⟨i, hi0, rfl, rfl, h1⟩, h2, -⟩ := hq
    rw [nI_clamp (show i < 2 ^ 31 by omega)]
    exact ⟨zk_node0 (by omega) hi0, _, _, rfl, ⟨rfl, rfl⟩, h1, h2⟩
  · obtain ⟨rfl, rfl, hx⟩ := hq
    exact ⟨h, zFh.rf _ _ _, List.mem_singleton.mpr (by rw [zk_node1 hx])⟩
theorem a_run (hG : zKap G) (hnx : hi ≤ nx) (ok : zOk (nt, lim, mem, wk, slow, r, L, A, tk, sp, cs)) (h : zTG G σ b hi nt lim mem wk slow r L A tk sp cs) : zMX G yX11_run kX11_run [.ref b, .int x] σ nx (fun v σ' nx' => zA1 G σ σ' b hi (zPq (nt, lim, mem, wk, slow, r, zren2 lim nt (zdraw lim nt (zcd L) x.toNatClampNeg).2.2 r (zren1 (zdraw lim nt (zcd L) x.toNatClampNeg).1 L 14) 14, (zrn lim nt (zcd L) mem slow wk (zdraw lim nt (zcd L) x.toNatClampNeg).2.1 14).2.1, (zrn lim nt (zcd L) mem slow wk (zdraw lim nt (zcd L) x.toNatClampNeg).2.1 14).1, (zrn lim nt (zcd L) mem slow wk (zdraw lim nt (zcd L) x.toNatClampNeg).2.1 14).2.2, wk) (nI (zrn lim nt (zcd L) mem slow wk (zdraw lim nt (zcd L) x.toNatClampNeg).2.1 14).1)) (zk_node nt.length x) v) (fun E σ' nx' => zA2 G σ σ' b hi (nt, lim, mem, wk, slow, r, L, A, tk, sp, cs) (zk_node nt.length x) E [(zEI, 1)]) := by
  obtain ⟨hw, hh, h14, hlim, hmem, hwk, hslow, hr, hL, hsz, htk, hcs, h01⟩ := ok
  have hb := h.hb
  refine zMX.mono (c_run hG hw hlim hmem (fun k hk => (hslow k hk).2) hwk.2 h) (fun v σ' nx' hq => ?_) (fun E σ' nx' hq => ?_)
  · obtain ⟨⟨i, hi0, rfl, rfl, h1⟩, h2, -⟩ := hq
    rw [nI_clamp (show i < 2 ^ 31 by omega)]
    exact ⟨zk_node0 (by omega) hi0, _, _, rfl, ⟨rfl, rfl⟩, h1, h2⟩
  · obtain ⟨rfl, rfl, hx⟩ := hq
    exact ⟨h, zFh.rf _ _ _, List.mem_singleton.mpr (by rw [zk_node1 hx])⟩
theorem a_rowsIn (hG : zKap G) (hnx : hi ≤ nx) (ok : zOk (nt, lim, mem, wk, slow, r, L, A, tk, sp, cs)) (h : zTG G σ b hi nt lim mem wk slow r L A tk sp cs) : zMX G yX11_rowsIn kX11_rowsIn [.ref b, .int x, .int y] σ nx (fun v σ' nx' => zA1 G σ σ' b hi (zPq (nt, lim, mem, wk, slow, r, L, A, tk, sp, cs) (nI (zsz (zct lim nt x.toNatClampNeg) y.toNatClampNeg))) (zk_part lim nt x y) v) (fun E σ' nx' => zA2 G σ σ' b hi (nt, lim, mem, wk, slow, r, L, A, tk, sp, cs) (zk_part lim nt x y) E [(zEI, 1)]) := by
  obtain ⟨hw, hh, h14, hlim, hmem, hwk, hslow, hr, hL, hsz, htk, hcs, h01⟩ := ok
  have hb := h.hb
  refine zMX.mono (c_rowsIn hG hw hlim h) (fun v σ' nx' hq => ?_) (fun E σ' nx' hq => ?_)
  · obtain ⟨⟨i, j, hi0, rfl, hj0, rfl, rfl⟩, h1, h2, -⟩ := hq
    have hl8 := zct_8 (lim := lim) hw h14 hi0
    rw [nI_clamp (show i < 2 ^ 31 by omega), nI_clamp (show j < 2 ^ 31 by omega)]
    refine ⟨?_, _, _, rfl, ⟨rfl, rfl⟩, h1, h2⟩
    rw [zk_part, nI_clamp (show i < 2 ^ 31 by omega)]
    exact if_neg fun w => w.elim (znob_in (by omega) hi0) (znob_in (by omega) hj0)
  · obtain ⟨rfl, hx, h1, h2⟩ := hq
    refine ⟨h1, h2, List.mem_singleton.mpr (Prod.ext rfl ?_)⟩
    show zk_part lim nt x y = 1
    rcases hx with hx | ⟨i, hi0, rfl, hy⟩
    · exact if_pos (Or.inl (znob_no hx))
    · rw [zk_part, nI_clamp (show i < 2 ^ 31 by omega)]
      exact if_pos (Or.inr (znob_no hy))
theorem a_keyAt (hG : zKap G) (hnx : hi ≤ nx) (ok : zOk (nt, lim, mem, wk, slow, r, L, A, tk, sp, cs)) (h : zTG G σ b hi nt lim mem wk slow r L A tk sp cs) : zMX G yX11_keyAt kX11_keyAt [.ref b, .int x, .int y, .int z] σ nx (fun v σ' nx' => zA1 G σ σ' b hi (zPq (nt, lim, mem, wk, slow, r, L, A, tk, sp, cs) ((zrw (zct lim nt x.toNatClampNeg) y.toNatClampNeg z.toNatClampNeg).1)) (zk_place lim nt x y z) v) (fun E σ' nx' => zA2 G σ σ' b hi (nt, lim, mem, wk, slow, r, L, A, tk, sp, cs) (zk_place lim nt x y z) E [(zEI, 1)]) := by
  obtain ⟨hw, hh, h14, hlim, hmem, hwk, hslow, hr, hL, hsz, htk, hcs, h01⟩ := ok
  have hb := h.hb
  refine zMX.mono (c_keyAt hG hw hlim h) (fun v σ' nx' hq => ?_) (fun E σ' nx' hq => ?_)
  · obtain ⟨⟨i, j, q, hi0, rfl, hj0, rfl, hq0, rfl, rfl⟩, h1, h2, -⟩ := hq
    have hl8 := zct_8 (lim := lim) hw h14 hi0
    have hl3 := zct_300 (lim := lim) hw h14 hi0
    have hs := zsz_le (P := zct lim nt i) (j := j)
    rw [nI_clamp (show i < 2 ^ 31 by omega), nI_clamp (show j < 2 ^ 31 by omega), nI_clamp (show q < 2 ^ 31 by omega)]
    refine ⟨?_, _, _, rfl, ⟨rfl, rfl⟩, h1, h2⟩
    rw [zk_place, nI_clamp (show i < 2 ^ 31 by omega), nI_clamp (show j < 2 ^ 31 by omega)]
    exact if_neg fun w => w.elim (fun w => w.elim (znob_in (by omega) hi0) (znob_in (by omega) hj0)) (znob_in (by omega) hq0)
  · obtain ⟨rfl, hx, h1, h2⟩ := hq
    refine ⟨h1, h2, List.mem_singleton.mpr (Prod.ext rfl ?_)⟩
    show zk_place lim nt x y z = 1
    rcases hx with hx | ⟨i, hi0, rfl, hy⟩
    · exact if_pos (Or.inl (Or.inl (znob_no hx)))
    · have hl8 := zct_8 (lim := lim) hw h14 hi0
      rw [zk_place, nI_clamp (show i < 2 ^ 31 by omega)]
      rcases hy with hy | ⟨j, hj0, rfl, hz⟩
      · exact if_pos (Or.inl (Or.inr (znob_no hy)))
      · rw [nI_clamp (show j < 2 ^ 31 by omega)]
        exact if_pos (Or.inr (znob_no hz))
theorem a_valueAt (hG : zKap G) (hnx : hi ≤ nx) (ok : zOk (nt, lim, mem, wk, slow, r, L, A, tk, sp, cs)) (h : zTG G σ b hi nt lim mem wk slow r L A tk sp cs) : zMX G yX11_valueAt kX11_valueAt [.ref b, .int x, .int y, .int z] σ nx (fun v σ' nx' => zA1 G σ σ' b hi (zPq (nt, lim, mem, wk, slow, r, L, A, tk, sp, cs) ((zrw (zct lim nt x.toNatClampNeg) y.toNatClampNeg z.toNatClampNeg).2)) (zk_place lim nt x y z) v) (fun E σ' nx' => zA2 G σ σ' b hi (nt, lim, mem, wk, slow, r, L, A, tk, sp, cs) (zk_place lim nt x y z) E [(zEI, 1)]) := by
  obtain ⟨hw, hh, h14, hlim, hmem, hwk, hslow, hr, hL, hsz, htk, hcs, h01⟩ := ok
  have hb := h.hb
  refine zMX.mono (c_valueAt hG hw hlim h) (fun v σ' nx' hq => ?_) (fun E σ' nx' hq => ?_)
  · obtain ⟨⟨i, j, q, hi0, rfl, hj0, rfl, hq0, rfl, rfl⟩, h1, h2, -⟩ := hq
    have hl8 := zct_8 (lim := lim) hw h14 hi0
    have hl3 := zct_300 (lim := lim) hw h14 hi0
    have hs := zsz_le (P := zct lim nt i) (j := j)
    rw [nI_clamp (show i < 2 ^ 31 by omega), nI_clamp (show j < 2 ^ 31 by omega), nI_clamp (show q < 2 ^ 31 by omega)]
    refine ⟨?_, _, _, rfl, ⟨rfl, rfl⟩, h1, h2⟩
    rw [zk_place, nI_clamp (show i < 2 ^ 31 by omega), nI_clamp (show j < 2 ^ 31 by omega)]
    exact if_neg fun w => w.elim (fun w => w.elim (znob_in (by omega) hi0) (znob_in (by omega) hj0)) (znob_in (by omega) hq0)
  · obtain ⟨rfl, hx, h1, h2⟩ := hq
    refine ⟨h1, h2, List.mem_singleton.mpr (Prod.ext rfl ?_)⟩
    show zk_place lim nt x y z = 1
    rcases hx with hx | ⟨i, hi0, rfl, hy⟩
    · exact if_pos (Or.inl (Or.inl (znob_no hx)))
    · have hl8 := zct_8 (lim := lim) hw h14 hi0
      rw [zk_place, nI_clamp (show i < 2 ^ 31 by omega)]
      rcases hy with hy | ⟨j, hj0, rfl, hz⟩
      · exact if_pos (Or.inl (Or.inr (znob_no hy)))
      · rw [nI_clamp (show j < 2 ^ 31 by omega)]
        exact if_pos (Or.inr (znob_no hz))
theorem a_isBroad (hG : zKap G) (hnx : hi ≤ nx) (ok : zOk (nt, lim, mem, wk, slow, r, L, A, tk, sp, cs)) (h : zTG G σ b hi nt lim mem wk slow r L A tk sp cs) : zMX G yX11_isBroad kX11_isBroad [.ref b, .int x] σ nx (fun v σ' nx' => zA1 G σ σ' b hi (zPq (nt, lim, mem, wk, slow, r, L, A, tk, sp, cs) (if zbr lim nt x.toNatClampNeg = true then 1 else 0)) (zk_join5 nt x) v) (fun E σ' nx' => zA2 G σ σ' b hi (nt, lim, mem, wk, slow, r, L, A, tk, sp, cs) (zk_join5 nt x) E [(zEI, 1), (zES, 2)]) := by
  obtain ⟨hw, hh, h14, hlim, hmem, hwk, hslow, hr, hL, hsz, htk, hcs, h01⟩ := ok
  have hb := h.hb
  refine zMX.mono (c_isBroad hG hw hlim h) (fun v σ' nx' hq => ?_) (fun E σ' nx' hq => ?_)
  · obtain ⟨⟨i, hi0, rfl, hk, rfl⟩, h1, h2, -⟩ := hq
    rw [nI_clamp (show i < 2 ^ 31 by omega)]
    refine ⟨?_, _, _, rfl, ⟨rfl, rfl⟩, h1, h2⟩
    rw [zk_join5, if_neg (znob_in (by omega) hi0), nI_clamp (show i < 2 ^ 31 by omega), if_neg (fun w => w hk)]
  · obtain ⟨rfl, hx⟩ := hq
    refine ⟨h, zFh.rf _ _ _, ?_⟩
    rcases hx with ⟨rfl, hx⟩ | ⟨rfl, i, hi0, rfl, hk⟩
    · rw [zk_join5, if_pos (znob_no hx)]; exact List.mem_cons_self
    · rw [zk_join5, if_neg (znob_in (by omega) hi0), nI_clamp (show i < 2 ^ 31 by omega), if_pos hk]; exact List.mem_cons_of_mem _ List.mem_cons_self
theorem a_outputOf (hG : zKap G) (hnx : hi ≤ nx) (ok : zOk (nt, lim, mem, wk, slow, r, L, A, tk, sp, cs)) (h : zTG G σ b hi nt lim mem wk slow r L A tk sp cs) : zMX G yX11_outputOf kX11_outputOf [.ref b, .int x, .int y] σ nx (fun v σ' nx' => zA1 G σ σ' b hi (zPq (nt, lim, mem, wk, slow, r, L, A, tk, sp, cs) (nI (znu (zdraw lim nt (zcd L) x.toNatClampNeg).2.1 y.toNatClampNeg))) (zk_out lim nt (zcd L) x y) v) (fun E σ' nx' => zA2 G σ σ' b hi (nt, lim, mem, wk, slow, r, L, A, tk, sp, cs) (zk_out lim nt (zcd L) x y) E [(zEI, 1)]) := by
  obtain ⟨hw, hh, h14, hlim, hmem, hwk, hslow, hr, hL, hsz, htk, hcs, h01⟩ := ok
  have hb := h.hb
  refine zMX.mono (c_outputOf hG hw hlim h) (fun v σ' nx' hq => ?_) (fun E σ' nx' hq => ?_)
  · obtain ⟨⟨i, n, j, hi0, rfl, hn0, rfl, j1, j2, j3, rfl⟩, h1, h2, -⟩ := hq
    have c14 := zcn_le14 (zdraw lim nt (zcd L) i).2.1 14
    rw [nI_clamp (show i < 2 ^ 31 by omega), nI_clamp (show n < 2 ^ 31 by omega), znu_of j1 j2 j3]
    refine ⟨?_, _, _, rfl, ⟨rfl, rfl⟩, h1, h2⟩
    rw [zk_out, nI_clamp (show i < 2 ^ 31 by omega)]
    exact if_neg fun w => w.elim (znob_in (by omega) hi0) (znob_in (by omega) hn0)
  · obtain ⟨rfl, hx, h1, h2⟩ := hq
    refine ⟨h1, h2, List.mem_singleton.mpr (Prod.ext rfl ?_)⟩
    show zk_out lim nt (zcd L) x y = 1
    rcases hx with hx | ⟨i, hi0, rfl, hy⟩
    · exact if_pos (Or.inl (znob_no hx))
    · rw [zk_out, nI_clamp (show i < 2 ^ 31 by omega)]
      exact if_pos (Or.inr (znob_no hy))
theorem a_setWorkers (hG : zKap G) (hnx : hi ≤ nx) (ok : zOk (nt, lim, mem, wk, slow, r, L, A, tk, sp, cs)) (h : zTG G σ b hi nt lim mem wk slow r L A tk sp cs) : zMX G yX11_setWorkers kX11_setWorkers [.ref b, .int x] σ nx (fun v σ' nx' => zA1 G σ σ' b hi (zPq (nt, lim, mem, x.toNatClampNeg, slow, r, L, A, tk, sp, cs) (nI wk)) (zk_work x) v) (fun E σ' nx' => zA2 G σ σ' b hi (nt, lim, mem, wk, slow, r, L, A, tk, sp, cs) (zk_work x) E [(zEA, 1)]) := by
  obtain ⟨hw, hh, h14, hlim, hmem, hwk, hslow, hr, hL, hsz, htk, hcs, h01⟩ := ok
  have hb := h.hb
  refine zMX.mono (c_setWorkers h) (fun v σ' nx' hq => ?_) (fun E σ' nx' hq => ?_)
  · obtain ⟨rfl, ⟨p, p1, p2, rfl, h1⟩, h2, -⟩ := hq
    rw [nI_clamp (show p < 2 ^ 31 by omega)]
    exact ⟨if_neg (zno_4 p1 p2), _, _, rfl, ⟨rfl, rfl⟩, h1, h2⟩
  · obtain ⟨rfl, rfl, hx⟩ := hq
    exact ⟨h, zFh.rf _ _ _, List.mem_singleton.mpr (Prod.ext rfl (if_pos hx))⟩
theorem a_setSlowness (hG : zKap G) (hnx : hi ≤ nx) (ok : zOk (nt, lim, mem, wk, slow, r, L, A, tk, sp, cs)) (h : zTG G σ b hi nt lim mem wk slow r L A tk sp cs) : zMX G yX11_setSlowness kX11_setSlowness [.ref b, .int x, .int y] σ nx (fun v σ' nx' => zA1 G σ σ' b hi (zPq (nt, lim, mem, wk, zun slow x.toNatClampNeg y.toNatClampNeg, r, L, A, tk, sp, cs) (nI (slow x.toNatClampNeg))) (zk_slow x y) v) (fun E σ' nx' => zA2 G σ σ' b hi (nt, lim, mem, wk, slow, r, L, A, tk, sp, cs) (zk_slow x y) E [(zEI, 1), (zEA, 2)]) := by
  obtain ⟨hw, hh, h14, hlim, hmem, hwk, hslow, hr, hL, hsz, htk, hcs, h01⟩ := ok
  have hb := h.hb
  refine zMX.mono (c_setSlowness h) (fun v σ' nx' hq => ?_) (fun E σ' nx' hq => ?_)
  · obtain ⟨⟨k, p, k4, rfl, p1, p2, rfl, rfl, h1⟩, h2, -⟩ := hq
    rw [nI_clamp (show p < 2 ^ 31 by omega), nI_clamp (show k < 2 ^ 31 by omega)]
    refine ⟨?_, _, _, rfl, ⟨rfl, rfl⟩, h1, h2⟩
    rw [zk_slow, if_neg (fun w => w.elim (nI_pos (by omega)) (fun w => absurd w (Int32.not_le.mpr (show nI k < nI 4 from nI_lt k4 (by decide))))), if_neg (zno_9 p1 p2)]
  · obtain ⟨rfl, hx⟩ := hq
    refine ⟨h, zFh.rf _ _ _, ?_⟩
    rcases hx with ⟨rfl, hx⟩ | ⟨rfl, h0, h4, hy⟩
    · rw [zk_slow, if_pos hx]; exact List.mem_cons_self
    · rw [zk_slow, if_neg (fun w => w.elim h0 (Int32.not_le.mpr h4)), if_pos hy]; exact List.mem_cons_of_mem _ List.mem_cons_self
theorem a_setMemory (hG : zKap G) (hnx : hi ≤ nx) (ok : zOk (nt, lim, mem, wk, slow, r, L, A, tk, sp, cs)) (h : zTG G σ b hi nt lim mem wk slow r L A tk sp cs) : zMX G yX11_setMemory kX11_setMemory [.ref b, .int x] σ nx (fun v σ' nx' => zA1 G σ σ' b hi (zPq (nt, lim, x.toNatClampNeg, wk, slow, r, L, A, tk, sp, cs) (nI mem)) (zk_1000 x) v) (fun E σ' nx' => zA2 G σ σ' b hi (nt, lim, mem, wk, slow, r, L, A, tk, sp, cs) (zk_1000 x) E [(zEA, 1)]) := by
  obtain ⟨hw, hh, h14, hlim, hmem, hwk, hslow, hr, hL, hsz, htk, hcs, h01⟩ := ok
  have hb := h.hb
  refine zMX.mono (c_setMemory h) (fun v σ' nx' hq => ?_) (fun E σ' nx' hq => ?_)
  · obtain ⟨rfl, ⟨p, p2, rfl, h1⟩, h2, -⟩ := hq
    rw [nI_clamp (show p < 2 ^ 31 by omega)]
    exact ⟨if_neg (zno0 (n := 1000) rfl p2 (by decide)), _, _, rfl, ⟨rfl, rfl⟩, h1, h2⟩
  · obtain ⟨rfl, rfl, hx⟩ := hq
    exact ⟨h, zFh.rf _ _ _, List.mem_singleton.mpr (Prod.ext rfl (if_pos hx))⟩
theorem a_setLimit (hG : zKap G) (hnx : hi ≤ nx) (ok : zOk (nt, lim, mem, wk, slow, r, L, A, tk, sp, cs)) (h : zTG G σ b hi nt lim mem wk slow r L A tk sp cs) : zMX G yX11_setLimit kX11_setLimit [.ref b, .int x] σ nx (fun v σ' nx' => zA1 G σ σ' b hi (zPq (nt, x.toNatClampNeg, mem, wk, slow, r, [], A, tk, sp, cs) (nI lim)) (zk_1000 x) v) (fun E σ' nx' => zA2 G σ σ' b hi (nt, lim, mem, wk, slow, r, L, A, tk, sp, cs) (zk_1000 x) E [(zEA, 1)]) := by
  obtain ⟨hw, hh, h14, hlim, hmem, hwk, hslow, hr, hL, hsz, htk, hcs, h01⟩ := ok
  have hb := h.hb
  refine zMX.mono (c_setLimit h) (fun v σ' nx' hq => ?_) (fun E σ' nx' hq => ?_)
  · obtain ⟨rfl, ⟨p, p2, rfl, h1⟩, h2, -⟩ := hq
    rw [nI_clamp (show p < 2 ^ 31 by omega)]
    exact ⟨if_neg (zno0 (n := 1000) rfl p2 (by decide)), _, _, rfl, ⟨rfl, rfl⟩, h1, h2⟩
  · obtain ⟨rfl, rfl, hx⟩ := hq
    exact ⟨h, zFh.rf _ _ _, List.mem_singleton.mpr (Prod.ext rfl (if_pos hx))⟩
theorem a_setRoom (hG : zKap G) (hnx : hi ≤ nx) (ok : zOk (nt, lim, mem, wk, slow, r, L, A, tk, sp, cs)) (h : zTG G σ b hi nt lim mem wk slow r L A tk sp cs) : zMX G yX11_setRoom kX11_setRoom [.ref b, .int x] σ nx (fun v σ' nx' => zA1 G σ σ' b hi (zPq (nt, lim, mem, wk, slow, x.toNatClampNeg, zmkr x.toNatClampNeg 0 L, A, tk, sp, cs) (nI (L.length - (zmkr x.toNatClampNeg 0 L).length))) (zk_1000 x) v) (fun E σ' nx' => zA2 G σ σ' b hi (nt, lim, mem, wk, slow, r, L, A, tk, sp, cs) (zk_1000 x) E [(zEA, 1)]) := by
  obtain ⟨hw, hh, h14, hlim, hmem, hwk, hslow, hr, hL, hsz, htk, hcs, h01⟩ := ok
  have hb := h.hb
  refine zMX.mono (c_setRoom h) (fun v σ' nx' hq => ?_) (fun E σ' nx' hq => ?_)
  · obtain ⟨⟨p, p2, rfl, rfl, h1⟩, h2, -⟩ := hq
    rw [nI_clamp (show p < 2 ^ 31 by omega)]
    exact ⟨if_neg (zno0 (n := 1000) rfl p2 (by decide)), _, _, rfl, ⟨rfl, rfl⟩, h1, h2⟩
  · obtain ⟨rfl, rfl, hx⟩ := hq
    exact ⟨h, zFh.rf _ _ _, List.mem_singleton.mpr (Prod.ext rfl (if_pos hx))⟩
theorem a_put (hG : zKap G) (hnx : hi ≤ nx) (ok : zOk (nt, lim, mem, wk, slow, r, L, A, tk, sp, cs)) (h : zTG G σ b hi nt lim mem wk slow r L A tk sp cs) : zMX G yX11_put kX11_put [.ref b, .int x, .int y, .int z] σ nx (fun v σ' nx' => zA1 G σ σ' b hi (zPq (zput nt x.toNatClampNeg (y, z), lim, mem, wk, slow, r, [], A, tk, sp, cs) (nI ((nt.getD x.toNatClampNeg zdf).2.2.2.length + 1))) (zk_put nt x) v) (fun E σ' nx' => zA2 G σ σ' b hi (nt, lim, mem, wk, slow, r, L, A, tk, sp, cs) (zk_put nt x) E [(zEI, 1), (zES, 2)]) := by
  obtain ⟨hw, hh, h14, hlim, hmem, hwk, hslow, hr, hL, hsz, htk, hcs, h01⟩ := ok
  have hb := h.hb
  refine zMX.mono (c_put hG hw h) (fun v σ' nx' hq => ?_) (fun E σ' nx' hq => ?_)
  · obtain ⟨⟨i, hi0, rfl, hk, h12, rfl, h1⟩, h2, -⟩ := hq
    rw [nI_clamp (show i < 2 ^ 31 by omega)]
    refine ⟨?_, _, _, rfl, ⟨rfl, rfl⟩, h1, h2⟩
    rw [zk_put, if_neg (znob_in (by omega) hi0), nI_clamp (show i < 2 ^ 31 by omega), if_neg (fun w => w.elim (fun w => w hk) (fun w => by omega))]
  · obtain ⟨rfl, hx⟩ := hq
    refine ⟨h, zFh.rf _ _ _, ?_⟩
    rcases hx with ⟨rfl, hx⟩ | ⟨rfl, i, hi0, rfl, hk⟩
    · rw [zk_put, if_pos (znob_no hx)]; exact List.mem_cons_self
    · rw [zk_put, if_neg (znob_in (by omega) hi0), nI_clamp (show i < 2 ^ 31 by omega), if_pos (show (nt.getD i zdf).2.1 ≠ 0 ∨ 12 ≤ (nt.getD i zdf).2.2.2.length from hk)]; exact List.mem_cons_of_mem _ List.mem_cons_self
theorem a_source (hG : zKap G) (hnx : hi ≤ nx) (ok : zOk (nt, lim, mem, wk, slow, r, L, A, tk, sp, cs)) (h : zTG G σ b hi nt lim mem wk slow r L A tk sp cs) : zMX G yX11_source kX11_source [.ref b, .int x] σ nx (fun v σ' nx' => zA1 G σ σ' b hi (zPn nt lim mem wk slow r L A tk sp cs 0 (upd (upd (zD0 (-1) (-1) 12 x) 6 x) 12 (zLW nt b (-1) (-1)))) (zk_source nt.length x) v) (fun E σ' nx' => zA2 G σ σ' b hi (nt, lim, mem, wk, slow, r, L, A, tk, sp, cs) (zk_source nt.length x) E [(zEA, 1), (zES, 2)]) := by
  obtain ⟨hw, hh, h14, hlim, hmem, hwk, hslow, hr, hL, hsz, htk, hcs, h01⟩ := ok
  have hb := h.hb
  refine zMX.mono (c_source hG hnx h) (fun v σ' nx' hq => ?_) (fun E σ' nx' hq => ?_)
  · obtain ⟨rfl, ⟨p, p1, p2, rfl⟩, hl, ⟨e, e1, e2, e3, h1⟩, h2⟩ := hq
    exact ⟨by rw [zk_source, if_neg (zno_4 p1 p2), if_neg (by omega)], _, _, rfl, ⟨rfl, e, e1, e2, e3, rfl⟩, h1, zFh.of hb h2⟩
  · obtain ⟨rfl, hx⟩ := hq
    refine ⟨h, zFh.rf _ _ _, ?_⟩
    rcases hx with ⟨rfl, hx⟩ | ⟨rfl, hl, p, p1, p2, rfl⟩
    · rw [zk_source, if_pos hx]; exact List.mem_cons_self
    · rw [zk_source, if_neg (zno_4 p1 p2), if_pos hl]; exact List.mem_cons_of_mem _ List.mem_cons_self
theorem a_map (hG : zKap G) (hnx : hi ≤ nx) (ok : zOk (nt, lim, mem, wk, slow, r, L, A, tk, sp, cs)) (h : zTG G σ b hi nt lim mem wk slow r L A tk sp cs) : zMX G yX11_map kX11_map [.ref b, .int x, .int y, .int z] σ nx (fun v σ' nx' => zA1 G σ σ' b hi (zPn nt lim mem wk slow r L A tk sp cs 1 (upd (upd (upd (zD0 x (-1) ((nt.getD x.toNatClampNeg zdf).2.2.1 3) ((nt.getD x.toNatClampNeg zdf).2.2.1 4)) 7 y) 8 z) 12 (zLW nt b x (-1)))) (zk_map nt.length x y z) v) (fun E σ' nx' => zA2 G σ σ' b hi (nt, lim, mem, wk, slow, r, L, A, tk, sp, cs) (zk_map nt.length x y z) E [(zEI, 1), (zEA, 2), (zES, 3)]) := by
  obtain ⟨hw, hh, h14, hlim, hmem, hwk, hslow, hr, hL, hsz, htk, hcs, h01⟩ := ok
  have hb := h.hb
  refine zMX.mono (c_map hG hw hnx h) (fun v σ' nx' hq => ?_) (fun E σ' nx' hq => ?_)
  · obtain ⟨rfl, hl, cb, ⟨i, f, e, rfl, hf, e1, e2, e3, h1⟩, h2⟩ := hq
    have hi0 := zR_lt hf
    rw [nI_clamp (show i < 2 ^ 31 by omega), zgetD_at hf]
    exact ⟨by rw [zk_map, if_neg (znob_in (by omega) hi0), if_neg (show ¬ (y < 0 ∨ 4 < y ∨ (y = 3 ∧ z < 1)) from cb), if_neg (by omega)], _, _, rfl, ⟨rfl, e, e1, e2, e3, rfl⟩, h1, zFh.of hb h2⟩
  · obtain ⟨rfl, hx⟩ := hq
    refine ⟨h, zFh.rf _ _ _, ?_⟩
    rcases hx with ⟨rfl, hx⟩ | ⟨⟨i, hi0, rfl⟩, ⟨rfl, hc⟩ | ⟨rfl, hc, hl⟩⟩
    · rw [zk_map, if_pos (znob_no hx)]; exact List.mem_cons_self
    · rw [zk_map, if_neg (znob_in (by omega) hi0), if_pos (show (y < 0 ∨ 4 < y ∨ (y = 3 ∧ z < 1)) from hc)]; exact List.mem_cons_of_mem _ List.mem_cons_self
    · rw [zk_map, if_neg (znob_in (by omega) hi0), if_neg (show ¬ (y < 0 ∨ 4 < y ∨ (y = 3 ∧ z < 1)) from hc), if_pos hl]; exact List.mem_cons_of_mem _ (List.mem_cons_of_mem _ List.mem_cons_self)
theorem a_filter (hG : zKap G) (hnx : hi ≤ nx) (ok : zOk (nt, lim, mem, wk, slow, r, L, A, tk, sp, cs)) (h : zTG G σ b hi nt lim mem wk slow r L A tk sp cs) : zMX G yX11_filter kX11_filter [.ref b, .int x, .int y, .int z] σ nx (fun v σ' nx' => zA1 G σ σ' b hi (zPn nt lim mem wk slow r L A tk sp cs 2 (upd (upd (upd (zD0 x (-1) ((nt.getD x.toNatClampNeg zdf).2.2.1 3) ((nt.getD x.toNatClampNeg zdf).2.2.1 4)) 9 y) 10 z) 12 (zLW nt b x (-1)))) (zk_filter nt.length x) v) (fun E σ' nx' => zA2 G σ σ' b hi (nt, lim, mem, wk, slow, r, L, A, tk, sp, cs) (zk_filter nt.length x) E [(zEI, 1), (zES, 2)]) := by
  obtain ⟨hw, hh, h14, hlim, hmem, hwk, hslow, hr, hL, hsz, htk, hcs, h01⟩ := ok
  have hb := h.hb
  refine zMX.mono (c_filter hG hw hnx h) (fun v σ' nx' hq => ?_) (fun E σ' nx' hq => ?_)
  · obtain ⟨rfl, hl, ⟨i, f, e, rfl, hf, e1, e2, e3, h1⟩, h2⟩ := hq
    have hi0 := zR_lt hf
    rw [nI_clamp (show i < 2 ^ 31 by omega), zgetD_at hf]
    exact ⟨by rw [zk_filter, if_neg (znob_in (by omega) hi0), if_neg (by omega)], _, _, rfl, ⟨rfl, e, e1, e2, e3, rfl⟩, h1, zFh.of hb h2⟩
  · obtain ⟨rfl, hx⟩ := hq
    refine ⟨h, zFh.rf _ _ _, ?_⟩
    rcases hx with ⟨rfl, hx⟩ | ⟨rfl, hl, i, hi0, rfl⟩
    · rw [zk_filter, if_pos (znob_no hx)]; exact List.mem_cons_self
    · rw [zk_filter, if_neg (znob_in (by omega) hi0), if_pos hl]; exact List.mem_cons_of_mem _ List.mem_cons_self
theorem a_group (hG : zKap G) (hnx : hi ≤ nx) (ok : zOk (nt, lim, mem, wk, slow, r, L, A, tk, sp, cs)) (h : zTG G σ b hi nt lim mem wk slow r L A tk sp cs) : zMX G yX11_group kX11_group [.ref b, .int x, .int y, .int z] σ nx (fun v σ' nx' => zA1 G σ σ' b hi (zPn nt lim mem wk slow r L A tk sp cs 4 (upd (upd (upd (zD0 x (-1) ((nt.getD x.toNatClampNeg zdf).2.2.1 3) z) 7 y) 6 z) 12 (zLW nt b x (-1)))) (zk_group nt.length x y z) v) (fun E σ' nx' => zA2 G σ σ' b hi (nt, lim, mem, wk, slow, r, L, A, tk, sp, cs) (zk_group nt.length x y z) E [(zEI, 1), (zEA, 2), (zES, 3)]) := by
  obtain ⟨hw, hh, h14, hlim, hmem, hwk, hslow, hr, hL, hsz, htk, hcs, h01⟩ := ok
  have hb := h.hb
  refine zMX.mono (c_group hG hw hnx h) (fun v σ' nx' hq => ?_) (fun E σ' nx' hq => ?_)
  · obtain ⟨rfl, hl, cb, ⟨p, p1, p2, rfl⟩, ⟨i, f, e, rfl, hf, e1, e2, e3, h1⟩, h2⟩ := hq
    have hi0 := zR_lt hf
    rw [nI_clamp (show i < 2 ^ 31 by omega), zgetD_at hf]
    exact ⟨by rw [zk_group, if_neg (znob_in (by omega) hi0), if_neg (fun w => w.elim cb (zno_4 p1 p2)), if_neg (by omega)], _, _, rfl, ⟨rfl, e, e1, e2, e3, rfl⟩, h1, zFh.of hb h2⟩
  · obtain ⟨rfl, hx⟩ := hq
    refine ⟨h, zFh.rf _ _ _, ?_⟩
    rcases hx with ⟨rfl, hx⟩ | ⟨⟨i, hi0, rfl⟩, ⟨rfl, hc⟩ | ⟨rfl, hc, ⟨p, p1, p2, rfl⟩, hl⟩⟩
    · rw [zk_group, if_pos (znob_no hx)]; exact List.mem_cons_self
    · rw [zk_group, if_neg (znob_in (by omega) hi0), if_pos hc]; exact List.mem_cons_of_mem _ List.mem_cons_self
    · rw [zk_group, if_neg (znob_in (by omega) hi0), if_neg (fun w => w.elim hc (zno_4 p1 p2)), if_pos hl]; exact List.mem_cons_of_mem _ (List.mem_cons_of_mem _ List.mem_cons_self)
theorem a_union (hG : zKap G) (hnx : hi ≤ nx) (ok : zOk (nt, lim, mem, wk, slow, r, L, A, tk, sp, cs)) (h : zTG G σ b hi nt lim mem wk slow r L A tk sp cs) : zMX G yX11_union kX11_union [.ref b, .int x, .int y] σ nx (fun v σ' nx' => zA1 G σ σ' b hi (zPn nt lim mem wk slow r L A tk sp cs 3 (upd (zD0 x y ((nt.getD x.toNatClampNeg zdf).2.2.1 3 + (nt.getD y.toNatClampNeg zdf).2.2.1 3) ((nt.getD x.toNatClampNeg zdf).2.2.1 4 + (nt.getD y.toNatClampNeg zdf).2.2.1 4)) 12 (zLW nt b x y))) (zk_union nt x y) v) (fun E σ' nx' => zA2 G σ σ' b hi (nt, lim, mem, wk, slow, r, L, A, tk, sp, cs) (zk_union nt x y) E [(zEI, 1), (zES, 2)]) := by
  obtain ⟨hw, hh, h14, hlim, hmem, hwk, hslow, hr, hL, hsz, htk, hcs, h01⟩ := ok
  have hb := h.hb
  refine zMX.mono (c_union hG hw hnx h) (fun v σ' nx' hq => ?_) (fun E σ' nx' hq => ?_)
  · obtain ⟨rfl, hl, ⟨i, j, f, g, e, rfl, hf, rfl, hg, cb, e1, e2, e3, h1⟩, h2⟩ := hq
    have hi0 := zR_lt hf
    have hj0 := zR_lt hg
    have ub := zbaduni_iff hw hf hg
    rw [nI_clamp (show i < 2 ^ 31 by omega), nI_clamp (show j < 2 ^ 31 by omega), zgetD_at hf, zgetD_at hg]
    refine ⟨?_, _, _, rfl, ⟨rfl, e, e1, e2, e3, rfl⟩, h1, zFh.of hb h2⟩
    rw [zk_union, if_neg (fun w => w.elim (znob_in (by omega) hi0) (znob_in (by omega) hj0)), nI_clamp (show i < 2 ^ 31 by omega), nI_clamp (show j < 2 ^ 31 by omega), zgetD_at hf, zgetD_at hg]
    exact if_neg fun w => w.elim (fun w => by omega) fun w => cb (ub.mpr w)
  · obtain ⟨rfl, hx⟩ := hq
    refine ⟨h, zFh.rf _ _ _, ?_⟩
    rcases hx with ⟨rfl, hx⟩ | ⟨i, j, f, g, rfl, hf, rfl, hg, rfl, hc⟩
    · have : znob nt.length x = true ∨ znob nt.length y = true := hx.imp znob_no fun w => znob_no w.2
      rw [zk_union, if_pos this]; exact List.mem_cons_self
    · have hi0 := zR_lt hf
      have hj0 := zR_lt hg
      rw [zk_union, if_neg (fun w => w.elim (znob_in (by omega) hi0) (znob_in (by omega) hj0)), nI_clamp (show i < 2 ^ 31 by omega), nI_clamp (show j < 2 ^ 31 by omega), zgetD_at hf, zgetD_at hg, if_pos (hc.imp id (zbaduni_iff hw hf hg).mp)]
      exact List.mem_cons_of_mem _ List.mem_cons_self
theorem a_join (hG : zKap G) (hnx : hi ≤ nx) (ok : zOk (nt, lim, mem, wk, slow, r, L, A, tk, sp, cs)) (h : zTG G σ b hi nt lim mem wk slow r L A tk sp cs) : zMX G yX11_join kX11_join [.ref b, .int x, .int y, .int z] σ nx (fun v σ' nx' => zA1 G σ σ' b hi (zPn nt lim mem wk slow r L A tk sp cs 5 (upd (upd (zD0 x y ((nt.getD x.toNatClampNeg zdf).2.2.1 3 * (nt.getD y.toNatClampNeg zdf).2.2.1 3) (if z < (nt.getD x.toNatClampNeg zdf).2.2.1 4 then (nt.getD x.toNatClampNeg zdf).2.2.1 4 else z)) 6 z) 12 (zLW nt b x y))) (zk_join nt x y z) v) (fun E σ' nx' => zA2 G σ σ' b hi (nt, lim, mem, wk, slow, r, L, A, tk, sp, cs) (zk_join nt x y z) E [(zEI, 1), (zEA, 2), (zES, 3)]) := by
  obtain ⟨hw, hh, h14, hlim, hmem, hwk, hslow, hr, hL, hsz, htk, hcs, h01⟩ := ok
  have hb := h.hb
  refine zMX.mono (c_join hG hw hnx h) (fun v σ' nx' hq => ?_) (fun E σ' nx' hq => ?_)
  · obtain ⟨rfl, hl, ⟨p, p1, p2, rfl⟩, ⟨i, j, f, g, e, rfl, hf, rfl, hg, cb, e1, e2, e3, h1⟩, h2⟩ := hq
    have hi0 := zR_lt hf
    have hj0 := zR_lt hg
    have ub := zbadjoi_iff hw hf hg
    rw [nI_clamp (show i < 2 ^ 31 by omega), nI_clamp (show j < 2 ^ 31 by omega), zgetD_at hf, zgetD_at hg]
    refine ⟨?_, _, _, rfl, ⟨rfl, e, e1, e2, e3, rfl⟩, h1, zFh.of hb h2⟩
    rw [zk_join, if_neg (fun w => w.elim (znob_in (by omega) hi0) (znob_in (by omega) hj0)), if_neg (zno_4 p1 p2), nI_clamp (show i < 2 ^ 31 by omega), nI_clamp (show j < 2 ^ 31 by omega), zgetD_at hf, zgetD_at hg]
    exact if_neg fun w => w.elim (fun w => by omega) fun w => cb (ub.mpr w)
  · obtain ⟨rfl, hx⟩ := hq
    refine ⟨h, zFh.rf _ _ _, ?_⟩
    rcases hx with ⟨rfl, hx⟩ | ⟨i, j, f, g, rfl, hf, rfl, hg, ⟨rfl, hc⟩ | ⟨rfl, ⟨p, p1, p2, rfl⟩, hc⟩⟩
    · have : znob nt.length x = true ∨ znob nt.length y = true := hx.imp znob_no fun w => znob_no w.2
      rw [zk_join, if_pos this]; exact List.mem_cons_self
    · have hi0 := zR_lt hf
      have hj0 := zR_lt hg
      rw [zk_join, if_neg (fun w => w.elim (znob_in (by omega) hi0) (znob_in (by omega) hj0)), if_pos hc]
      exact List.mem_cons_of_mem _ List.mem_cons_self
    · have hi0 := zR_lt hf
      have hj0 := zR_lt hg
      rw [zk_join, if_neg (fun w => w.elim (znob_in (by omega) hi0) (znob_in (by omega) hj0)), if_neg (zno_4 p1 p2), nI_clamp (show i < 2 ^ 31 by omega), nI_clamp (show j < 2 ^ 31 by omega), zgetD_at hf, zgetD_at hg, if_pos (hc.imp id (zbadjoi_iff hw hf hg).mp)]
      exact List.mem_cons_of_mem _ (List.mem_cons_of_mem _ List.mem_cons_self)
end
