/-! what is so of every state stays so -/
theorem zis_of {n : Nat} {x : Int32} (hn : n < 2 ^ 31) (h : zis n x) : ∃ i, i < n ∧ x = nI i := by
  obtain ⟨i, hi, rfl⟩ := nI_of h.1
  exact ⟨i, (nI_ltI hi hn).mp h.2, rfl⟩
theorem zget_of {nt : zNT} {i : Nat} (h : i < nt.length) : nt[i]? = some (nt.getD i zdf) := by rw [List.getD_eq_getElem?_getD, List.getElem?_eq_getElem h]; rfl
theorem zmx9 {a b : Nat} (ha : a < 2 ^ 31) (hb : b < 2 ^ 31) : (if nI a < nI b then nI b else nI a) = nI (max a b) := by
  by_cases c : a < b
  · rw [if_pos (nI_lt c hb), Nat.max_eq_right (by omega)]
  · rw [if_neg (fun w => c ((nI_ltI ha hb).mp w)), Nat.max_eq_left (by omega)]
theorem znob_at {n : Nat} {x : Int32} (hn : n < 2 ^ 31) (h : ¬ znob n x = true) : ∃ i, i < n ∧ x = nI i := by
  refine zis_of hn (znob_f.mp ?_)
  cases q : znob n x with
  | true => exact absurd q h
  | false => rfl
theorem zk_node_at {n : Nat} {x : Int32} (hn : n < 2 ^ 31) (h : zk_node n x = 0) : ∃ i, i < n ∧ x = nI i := znob_at hn fun q => by rw [zk_node, if_pos q] at h; exact nomatch h
theorem zOk_new {G : zG} {σ : zH} {b hi : Nat} {nt : zNT} {lim mem wk r tk sp cs : Nat} {slow : Nat → Nat} {L : zNS} {A : List zAE} {e : zNX} (ok : zOk (nt, lim, mem, wk, slow, r, L, A, tk, sp, cs)) (hT : zTu G σ b hi (nt ++ [e], lim, mem, wk, slow, r, L, A, tk, sp, cs)) (hl : nt.length < 14) (hw : zWf (nt ++ [e])) (hh : zHow (nt ++ [e])) (h11 : e.2.2.1 11 = 0) : zOk (nt ++ [e], lim, mem, wk, slow, r, L, A, tk, sp, cs) := by
  obtain ⟨-, -, h14, hlim, hmem, hwk, hslow, hr, hL, hsz, htk, hcs, h01⟩ := ok
  refine ⟨hw, hh, by rw [List.length_append, List.length_singleton]; omega, hlim, hmem, hwk, hslow, hr, hL, fun i q hq => ?_, htk, hcs, fun i x hx => ?_⟩
  · obtain ⟨q1, q2⟩ := hsz i q hq
    refine ⟨by rw [List.length_append]; omega, ?_⟩
    rw [q2, zct, zct, zcon_snoc q1]
  · have hi := zR_lt hx
    rw [List.length_append, List.length_singleton] at hi
    by_cases c : i < nt.length
    · rw [List.getElem?_append_left c] at hx
      exact h01 i x hx
    · have ei : i = nt.length := by omega
      subst ei
      rw [List.getElem?_append_right (Nat.le_refl _), Nat.sub_self] at hx
      cases hx
      exact Or.inl h11
theorem zLok_nil : zLok [] := zLok_iff.mpr ⟨fun q hq => by simp at hq, List.Pairwise.nil, Nat.zero_le _⟩
theorem zren1_mem {U : Nat → Bool} {L : zNS} {q : Nat × Nat} : ∀ n, q ∈ zren1 U L n → q ∈ L
  | 0 => id
  | n + 1 => fun h => by
    rw [zren1] at h
    split at h
    · exact zren1_mem n (zlat_mem.mp h)
    · exact zren1_mem n h
theorem zren2_mem {lim : Nat} {nt : zNT} {W : Nat → Bool} {r : Nat} {L : zNS} {q : Nat × Nat} : ∀ n, q ∈ zren2 lim nt W r L n → q ∈ L ∨ (W q.1 = true ∧ q.2 = (zct lim nt q.1).flatten.length)
  | 0 => Or.inl
  | n + 1 => fun h => by
    rw [zren2] at h
    split at h
    · rename_i c
      rcases zent_mem h with h | rfl
      · exact zren2_mem n h
      · exact Or.inr ⟨c.1, rfl⟩
    · exact zren2_mem n h
section
variable {G : zG} {σ : zH} {b hi : Nat} {nt : zNT} {lim mem wk r tk sp cs : Nat} {slow : Nat → Nat} {L : zNS} {A : List zAE} {x y z w : Int32} {u' : zUv}
theorem o_partitions (ok : zOk (nt, lim, mem, wk, slow, r, L, A, tk, sp, cs)) (hc : (zk_node nt.length x) = 0) (hP : (zPq (nt, lim, mem, wk, slow, r, L, A, tk, sp, cs) (nI (zct lim nt x.toNatClampNeg).length)) u' w) (hT : zTu G σ b hi u') : zOk u' := by
  rw [hP.1]; exact ok
theorem o_rowsIn (ok : zOk (nt, lim, mem, wk, slow, r, L, A, tk, sp, cs)) (hc : (zk_part lim nt x y) = 0) (hP : (zPq (nt, lim, mem, wk, slow, r, L, A, tk, sp, cs) (nI (zsz (zct lim nt x.toNatClampNeg) y.toNatClampNeg))) u' w) (hT : zTu G σ b hi u') : zOk u' := by
  rw [hP.1]; exact ok
theorem o_rows (ok : zOk (nt, lim, mem, wk, slow, r, L, A, tk, sp, cs)) (hc : (zk_node nt.length x) = 0) (hP : (zPq (nt, lim, mem, wk, slow, r, L, A, tk, sp, cs) (nI (zct lim nt x.toNatClampNeg).flatten.length)) u' w) (hT : zTu G σ b hi u') : zOk u' := by
  rw [hP.1]; exact ok
theorem o_keyAt (ok : zOk (nt, lim, mem, wk, slow, r, L, A, tk, sp, cs)) (hc : (zk_place lim nt x y z) = 0) (hP : (zPq (nt, lim, mem, wk, slow, r, L, A, tk, sp, cs) ((zrw (zct lim nt x.toNatClampNeg) y.toNatClampNeg z.toNatClampNeg).1)) u' w) (hT : zTu G σ b hi u') : zOk u' := by
  rw [hP.1]; exact ok
theorem o_valueAt (ok : zOk (nt, lim, mem, wk, slow, r, L, A, tk, sp, cs)) (hc : (zk_place lim nt x y z) = 0) (hP : (zPq (nt, lim, mem, wk, slow, r, L, A, tk, sp, cs) ((zrw (zct lim nt x.toNatClampNeg) y.toNatClampNeg z.toNatClampNeg).2)) u' w) (hT : zTu G σ b hi u') : zOk u' := by
  rw [hP.1]; exact ok
theorem o_isBroad (ok : zOk (nt, lim, mem, wk, slow, r, L, A, tk, sp, cs)) (hc : (zk_join5 nt x) = 0) (hP : (zPq (nt, lim, mem, wk, slow, r, L, A, tk, sp, cs) (if zbr lim nt x.toNatClampNeg = true then 1 else 0)) u' w) (hT : zTu G σ b hi u') : zOk u' := by
  rw [hP.1]; exact ok
theorem o_digest (ok : zOk (nt, lim, mem, wk, slow, r, L, A, tk, sp, cs)) (hc : (zk_node nt.length x) = 0) (hP : (zPq (nt, lim, mem, wk, slow, r, L, A, tk, sp, cs) (zsq (zct lim nt x.toNatClampNeg).flatten)) u' w) (hT : zTu G σ b hi u') : zOk u' := by
  rw [hP.1]; exact ok
theorem o_digestInPlace (ok : zOk (nt, lim, mem, wk, slow, r, L, A, tk, sp, cs)) (hc : (zk_node nt.length x) = 0) (hP : (zPq (nt, lim, mem, wk, slow, r, L, A, tk, sp, cs) (zsq (zct lim nt x.toNatClampNeg).flatten)) u' w) (hT : zTu G σ b hi u') : zOk u' := by
  rw [hP.1]; exact ok
theorem o_isCached (ok : zOk (nt, lim, mem, wk, slow, r, L, A, tk, sp, cs)) (hc : (zk_node nt.length x) = 0) (hP : (zPq (nt, lim, mem, wk, slow, r, L, A, tk, sp, cs) (if zcd L x.toNatClampNeg = true then 1 else 0)) u' w) (hT : zTu G σ b hi u') : zOk u' := by
  rw [hP.1]; exact ok
theorem o_stages (ok : zOk (nt, lim, mem, wk, slow, r, L, A, tk, sp, cs)) (hc : (zk_node nt.length x) = 0) (hP : (zPq (nt, lim, mem, wk, slow, r, L, A, tk, sp, cs) (nI (zcn (zdraw lim nt (zcd L) x.toNatClampNeg).2.1 14))) u' w) (hT : zTu G σ b hi u') : zOk u' := by
  rw [hP.1]; exact ok
theorem o_outputOf (ok : zOk (nt, lim, mem, wk, slow, r, L, A, tk, sp, cs)) (hc : (zk_out lim nt (zcd L) x y) = 0) (hP : (zPq (nt, lim, mem, wk, slow, r, L, A, tk, sp, cs) (nI (znu (zdraw lim nt (zcd L) x.toNatClampNeg).2.1 y.toNatClampNeg))) u' w) (hT : zTu G σ b hi u') : zOk u' := by
  rw [hP.1]; exact ok
theorem o_nodeOf (ok : zOk (nt, lim, mem, wk, slow, r, L, A, tk, sp, cs)) (hc : (zk_node A.length x) = 0) (hP : (zPq (nt, lim, mem, wk, slow, r, L, A, tk, sp, cs) (zAc (A.getD x.toNatClampNeg (0, 0, 0, 0, 0, false)) 0)) u' w) (hT : zTu G σ b hi u') : zOk u' := by
  rw [hP.1]; exact ok
theorem o_partitionOf (ok : zOk (nt, lim, mem, wk, slow, r, L, A, tk, sp, cs)) (hc : (zk_node A.length x) = 0) (hP : (zPq (nt, lim, mem, wk, slow, r, L, A, tk, sp, cs) (zAc (A.getD x.toNatClampNeg (0, 0, 0, 0, 0, false)) 1)) u' w) (hT : zTu G σ b hi u') : zOk u' := by
  rw [hP.1]; exact ok
theorem o_workerOf (ok : zOk (nt, lim, mem, wk, slow, r, L, A, tk, sp, cs)) (hc : (zk_node A.length x) = 0) (hP : (zPq (nt, lim, mem, wk, slow, r, L, A, tk, sp, cs) (zAc (A.getD x.toNatClampNeg (0, 0, 0, 0, 0, false)) 2)) u' w) (hT : zTu G σ b hi u') : zOk u' := by
  rw [hP.1]; exact ok
theorem o_startOf (ok : zOk (nt, lim, mem, wk, slow, r, L, A, tk, sp, cs)) (hc : (zk_node A.length x) = 0) (hP : (zPq (nt, lim, mem, wk, slow, r, L, A, tk, sp, cs) (zAc (A.getD x.toNatClampNeg (0, 0, 0, 0, 0, false)) 3)) u' w) (hT : zTu G σ b hi u') : zOk u' := by
  rw [hP.1]; exact ok
theorem o_endOf (ok : zOk (nt, lim, mem, wk, slow, r, L, A, tk, sp, cs)) (hc : (zk_node A.length x) = 0) (hP : (zPq (nt, lim, mem, wk, slow, r, L, A, tk, sp, cs) (zAc (A.getD x.toNatClampNeg (0, 0, 0, 0, 0, false)) 4)) u' w) (hT : zTu G σ b hi u') : zOk u' := by
  rw [hP.1]; exact ok
theorem o_isCopy (ok : zOk (nt, lim, mem, wk, slow, r, L, A, tk, sp, cs)) (hc : (zk_node A.length x) = 0) (hP : (zPq (nt, lim, mem, wk, slow, r, L, A, tk, sp, cs) (zAc (A.getD x.toNatClampNeg (0, 0, 0, 0, 0, false)) 5)) u' w) (hT : zTu G σ b hi u') : zOk u' := by
  rw [hP.1]; exact ok
theorem o_put (ok : zOk (nt, lim, mem, wk, slow, r, L, A, tk, sp, cs)) (hc : (zk_put nt x) = 0) (hP : (zPq (zput nt x.toNatClampNeg (y, z), lim, mem, wk, slow, r, [], A, tk, sp, cs) (nI ((nt.getD x.toNatClampNeg zdf).2.2.2.length + 1))) u' w) (hT : zTu G σ b hi u') : zOk u' := by
  obtain ⟨hw, hh, h14, hlim, hmem, hwk, hslow, hr, hL, hsz, htk, hcs, h01⟩ := id ok
  obtain ⟨rfl, rfl⟩ := hP
  have nb : ¬ znob nt.length x = true := fun w => by rw [zk_put, if_pos w] at hc; exact nomatch hc
  obtain ⟨i, hi0, rfl⟩ := znob_at (by omega) nb
  rw [zk_put, if_neg nb, nI_clamp (show i < 2 ^ 31 by omega)] at hc
  rw [nI_clamp (show i < 2 ^ 31 by omega)]
  have c2 : ¬ ((nt.getD i zdf).2.1 ≠ 0 ∨ 12 ≤ (nt.getD i zdf).2.2.2.length) := fun w => by rw [if_pos w] at hc; exact nomatch hc
  have hk : zkd nt i = 0 := by
    by_cases e : (nt.getD i zdf).2.1 = 0
    · exact e
    · exact absurd (Or.inl e) c2
  refine ⟨zWf_put hw hi0 hk (by omega), zHow_put hh hi0, by rw [zput, List.length_set]; exact h14, hlim, hmem, hwk, hslow, hr, zLok_nil, fun i q hq => by simp at hq, htk, hcs, fun j e he => ?_⟩
  rcases zset_get he hi0 with ⟨-, rfl⟩ | ⟨-, he⟩
  · exact (h01 i (nt.getD i zdf) (zget_of hi0) :)
  · exact h01 j e he
theorem o_mark (hy : y = 0 ∨ y = 1) (ok : zOk (nt, lim, mem, wk, slow, r, L, A, tk, sp, cs)) (hc : (zk_node nt.length x) = 0) (hP : (zPq (zmark nt x.toNatClampNeg y, lim, mem, wk, slow, r, L, A, tk, sp, cs) ((nt.getD x.toNatClampNeg zdf).2.2.1 11)) u' w) (hT : zTu G σ b hi u') : zOk u' := by
  obtain ⟨hw, hh, h14, hlim, hmem, hwk, hslow, hr, hL, hsz, htk, hcs, h01⟩ := id ok
  obtain ⟨rfl, rfl⟩ := hP
  obtain ⟨i, hi0, rfl⟩ := zk_node_at (by omega) hc
  rw [nI_clamp (show i < 2 ^ 31 by omega)]
  refine ⟨zWf_mark hw hi0, zHow_mark hh hi0, by rw [zmark, List.length_set]; exact h14, hlim, hmem, hwk, hslow, hr, hL, fun j q hq => ?_, htk, hcs, fun j e he => ?_⟩
  · obtain ⟨q1, q2⟩ := hsz j q hq
    exact ⟨by rw [zmark, List.length_set]; exact q1, by rw [zct_mark]; exact q2⟩
  · rcases zset_get he hi0 with ⟨-, rfl⟩ | ⟨-, he⟩
    · exact hy
    · exact h01 j e he
theorem o_setWorkers (ok : zOk (nt, lim, mem, wk, slow, r, L, A, tk, sp, cs)) (hc : (zk_work x) = 0) (hP : (zPq (nt, lim, mem, x.toNatClampNeg, slow, r, L, A, tk, sp, cs) (nI wk)) u' w) (hT : zTu G σ b hi u') : zOk u' := by
  obtain ⟨hw, hh, h14, hlim, hmem, hwk, hslow, hr, hL, hsz, htk, hcs, h01⟩ := id ok
  obtain ⟨rfl, rfl⟩ := hP
  have c2 : ¬ (x < 1 ∨ 4 < x) := fun w => by rw [zk_work, if_pos w] at hc; exact nomatch hc
  obtain ⟨p, p1, p2, rfl⟩ := nI_four (n := 4) (by decide) (fun w => c2 (Or.inl w)) (Int32.not_lt.mp fun w => c2 (Or.inr w))
  rw [nI_clamp (show p < 2 ^ 31 by omega)]
  exact ⟨hw, hh, h14, hlim, hmem, ⟨p1, p2⟩, hslow, hr, hL, hsz, htk, hcs, h01⟩
theorem o_setSlowness (ok : zOk (nt, lim, mem, wk, slow, r, L, A, tk, sp, cs)) (hc : (zk_slow x y) = 0) (hP : (zPq (nt, lim, mem, wk, zun slow x.toNatClampNeg y.toNatClampNeg, r, L, A, tk, sp, cs) (nI (slow x.toNatClampNeg))) u' w) (hT : zTu G σ b hi u') : zOk u' := by
  obtain ⟨hw, hh, h14, hlim, hmem, hwk, hslow, hr, hL, hsz, htk, hcs, h01⟩ := id ok
  obtain ⟨rfl, rfl⟩ := hP
  have c1 : ¬ (x < 0 ∨ 4 ≤ x) := fun w => by rw [zk_slow, if_pos w] at hc; exact nomatch hc
  have c2 : ¬ (y < 1 ∨ 9 < y) := fun w => by rw [zk_slow, if_neg c1, if_pos w] at hc; exact nomatch hc
  obtain ⟨p, p1, p2, rfl⟩ := nI_four (n := 9) (by decide) (fun w => c2 (Or.inl w)) (Int32.not_lt.mp fun w => c2 (Or.inr w))
  rw [nI_clamp (show p < 2 ^ 31 by omega)]
  refine ⟨hw, hh, h14, hlim, hmem, hwk, fun k hk => ?_, hr, hL, hsz, htk, hcs, h01⟩
  unfold zun
  split
  · exact ⟨p1, p2⟩
  · exact hslow k hk
theorem o_setMemory (ok : zOk (nt, lim, mem, wk, slow, r, L, A, tk, sp, cs)) (hc : (zk_1000 x) = 0) (hP : (zPq (nt, lim, x.toNatClampNeg, wk, slow, r, L, A, tk, sp, cs) (nI mem)) u' w) (hT : zTu G σ b hi u') : zOk u' := by
  obtain ⟨hw, hh, h14, hlim, hmem, hwk, hslow, hr, hL, hsz, htk, hcs, h01⟩ := id ok
  obtain ⟨rfl, rfl⟩ := hP
  have c2 : ¬ (x < 0 ∨ 1000 < x) := fun w => by rw [zk_1000, if_pos w] at hc; exact nomatch hc
  obtain ⟨p, hp, rfl⟩ := nI_of (x := x) fun w => c2 (Or.inl w)
  have p2 : p ≤ 1000 := (nI_leI (b := 1000) hp (by decide)).mp (Int32.not_lt.mp fun w => c2 (Or.inr w))
  rw [nI_clamp (show p < 2 ^ 31 by omega)]
  exact ⟨hw, hh, h14, hlim, p2, hwk, hslow, hr, hL, hsz, htk, hcs, h01⟩
theorem o_setLimit (ok : zOk (nt, lim, mem, wk, slow, r, L, A, tk, sp, cs)) (hc : (zk_1000 x) = 0) (hP : (zPq (nt, x.toNatClampNeg, mem, wk, slow, r, [], A, tk, sp, cs) (nI lim)) u' w) (hT : zTu G σ b hi u') : zOk u' := by
  obtain ⟨hw, hh, h14, hlim, hmem, hwk, hslow, hr, hL, hsz, htk, hcs, h01⟩ := id ok
  obtain ⟨rfl, rfl⟩ := hP
  have c2 : ¬ (x < 0 ∨ 1000 < x) := fun w => by rw [zk_1000, if_pos w] at hc; exact nomatch hc
  obtain ⟨p, hp, rfl⟩ := nI_of (x := x) fun w => c2 (Or.inl w)
  have p2 : p ≤ 1000 := (nI_leI (b := 1000) hp (by decide)).mp (Int32.not_lt.mp fun w => c2 (Or.inr w))
  rw [nI_clamp (show p < 2 ^ 31 by omega)]
  exact ⟨hw, hh, h14, p2, hmem, hwk, hslow, hr, zLok_nil, fun i q hq => by simp at hq, htk, hcs, h01⟩
theorem o_setRoom (ok : zOk (nt, lim, mem, wk, slow, r, L, A, tk, sp, cs)) (hc : (zk_1000 x) = 0) (hP : (zPq (nt, lim, mem, wk, slow, x.toNatClampNeg, zmkr x.toNatClampNeg 0 L, A, tk, sp, cs) (nI (L.length - (zmkr x.toNatClampNeg 0 L).length))) u' w) (hT : zTu G σ b hi u') : zOk u' := by
  obtain ⟨hw, hh, h14, hlim, hmem, hwk, hslow, hr, hL, hsz, htk, hcs, h01⟩ := id ok
  obtain ⟨rfl, rfl⟩ := hP
  have c2 : ¬ (x < 0 ∨ 1000 < x) := fun w => by rw [zk_1000, if_pos w] at hc; exact nomatch hc
  obtain ⟨p, hp, rfl⟩ := nI_of (x := x) fun w => c2 (Or.inl w)
  have p2 : p ≤ 1000 := (nI_leI (b := 1000) hp (by decide)).mp (Int32.not_lt.mp fun w => c2 (Or.inr w))
  rw [nI_clamp (show p < 2 ^ 31 by omega)]
  exact ⟨hw, hh, h14, hlim, hmem, hwk, hslow, p2, zLok_mkr hL, zall_iff.mpr fun q hq => zall_iff.mp hsz q (zmkr_mem hq), htk, hcs, h01⟩
theorem o_run (ok : zOk (nt, lim, mem, wk, slow, r, L, A, tk, sp, cs)) (hc : (zk_node nt.length x) = 0) (hP : (zPq (nt, lim, mem, wk, slow, r, zren2 lim nt (zdraw lim nt (zcd L) x.toNatClampNeg).2.2 r (zren1 (zdraw lim nt (zcd L) x.toNatClampNeg).1 L 14) 14, (zrn lim nt (zcd L) mem slow wk (zdraw lim nt (zcd L) x.toNatClampNeg).2.1 14).2.1, (zrn lim nt (zcd L) mem slow wk (zdraw lim nt (zcd L) x.toNatClampNeg).2.1 14).1, (zrn lim nt (zcd L) mem slow wk (zdraw lim nt (zcd L) x.toNatClampNeg).2.1 14).2.2, wk) (nI (zrn lim nt (zcd L) mem slow wk (zdraw lim nt (zcd L) x.toNatClampNeg).2.1 14).1)) u' w) (hT : zTu G σ b hi u') : zOk u' := by
  obtain ⟨hw, hh, h14, hlim, hmem, hwk, hslow, hr, hL, hsz, htk, hcs, h01⟩ := id ok
  obtain ⟨rfl, rfl⟩ := hP
  obtain ⟨i, hi0, rfl⟩ := zk_node_at (by omega) hc
  rw [nI_clamp (show i < 2 ^ 31 by omega)] at hT ⊢
  have hD := zDI_draw (lim := lim) (C := zcd L) hw h14 hi0
  have rle := zrn_le (lim := lim) (C := zcd L) (mem := mem) (O := (zdraw lim nt (zcd L) i).2.1) hw h14 (fun k hk => (hslow k hk).2) hwk.2 (fun k hk => (hD.2.1 k hk).2.2) 14
  refine ⟨hw, hh, h14, hlim, hmem, hwk, hslow, hr, zTG.lok hT, zall_iff.mpr fun q hq => ?_, by omega, fun _ => hwk, h01⟩
  rcases zren2_mem 14 hq with h | ⟨h1, h2⟩
  · exact zall_iff.mp hsz q (zren1_mem 14 h)
  · exact ⟨(hD.2.2 _ h1).2, h2⟩
theorem o_source (ok : zOk (nt, lim, mem, wk, slow, r, L, A, tk, sp, cs)) (hc : (zk_source nt.length x) = 0) (hP : (zPn nt lim mem wk slow r L A tk sp cs 0 (upd (upd (zD0 (-1) (-1) 12 x) 6 x) 12 (zLW nt b (-1) (-1)))) u' w) (hT : zTu G σ b hi u') : zOk u' := by
  obtain ⟨hw, hh, h14, -⟩ := id ok
  obtain ⟨rfl, e, e1, e2, e3, rfl⟩ := hP
  have c2 : ¬ (x < 1 ∨ 4 < x) := fun w => by rw [zk_source, if_pos w] at hc; exact nomatch hc
  have hl : nt.length < 14 := by
    rw [zk_source, if_neg c2] at hc
    by_cases w : nt.length = 14
    · rw [if_pos w] at hc; exact nomatch hc
    · omega
  obtain ⟨p, p1, p2, rfl⟩ := nI_four (n := 4) (by decide) (fun w => c2 (Or.inl w)) (Int32.not_lt.mp fun w => c2 (Or.inr w))
  have zbe : zb e = 12 := by rw [zb, e2]; rfl
  have zwe : zw e = p := by rw [zw, e2]; exact nI_clamp (by omega)
  refine zOk_new ok hT hl (zWf_add (b := b) (f := 0) (s := 0) (p := p) hw hl (by omega) ⟨by rw [zbe, e2]; rfl, by omega, by rw [zwe, e2]; rfl, by omega, by omega⟩ (fun w => by omega) (fun _ => by rw [e2]; rfl) (fun w => by omega) (fun _ => by rw [e2]; rfl) (fun _ => ⟨p1, p2, by rw [e2]; rfl⟩) e3 (fun w => by omega) (fun _ => ⟨zbe, zwe⟩) (fun w => by omega) (fun w => by omega) (fun w => by omega) (fun w => by omega) (by rw [e2]; rfl)) (zHow_snoc hh (fun w => by omega) fun w => by omega) (by rw [e2]; rfl)
theorem o_map (ok : zOk (nt, lim, mem, wk, slow, r, L, A, tk, sp, cs)) (hc : (zk_map nt.length x y z) = 0) (hP : (zPn nt lim mem wk slow r L A tk sp cs 1 (upd (upd (upd (zD0 x (-1) ((nt.getD x.toNatClampNeg zdf).2.2.1 3) ((nt.getD x.toNatClampNeg zdf).2.2.1 4)) 7 y) 8 z) 12 (zLW nt b x (-1)))) u' w) (hT : zTu G σ b hi u') : zOk u' := by
  obtain ⟨hw, hh, h14, -⟩ := id ok
  obtain ⟨rfl, e, e1, e2, e3, rfl⟩ := hP
  have nb : ¬ znob nt.length x = true := fun w => by rw [zk_map, if_pos w] at hc; exact nomatch hc
  rw [zk_map, if_neg nb] at hc
  have c2 : ¬ (y < 0 ∨ 4 < y ∨ (y = 3 ∧ z < 1)) := fun w => by rw [if_pos w] at hc; exact nomatch hc
  rw [if_neg c2] at hc
  have hl : nt.length < 14 := by
    by_cases w : nt.length = 14
    · rw [if_pos w] at hc; exact nomatch hc
    · omega
  obtain ⟨i, hi0, rfl⟩ := znob_at (by omega) nb
  rw [nI_clamp (show i < 2 ^ 31 by omega)] at e2
  obtain ⟨_, _, _, _, ⟨b1, b2, w1, w2, w3⟩, -⟩ := hw i _ (zget_of hi0)
  obtain ⟨p, hp, rfl⟩ := nI_of (x := y) fun w => c2 (Or.inl w)
  have p2 : p ≤ 4 := (nI_leI (b := 4) hp (by decide)).mp (Int32.not_lt.mp fun w => c2 (Or.inr (Or.inl w)))
  have e23 : e.2.2.1 3 = (nt.getD i zdf).2.2.1 3 := by rw [e2]; rfl
  have e24 : e.2.2.1 4 = (nt.getD i zdf).2.2.1 4 := by rw [e2]; rfl
  have e27 : e.2.2.1 7 = nI p := by rw [e2]; rfl
  have zbe : zb e = zb (nt.getD i zdf) := by rw [zb, e23]; rfl
  have zwe : zw e = zw (nt.getD i zdf) := by rw [zw, e24]; rfl
  refine zOk_new ok hT hl (zWf_add (b := b) (f := i) (s := 0) (p := 0) hw hl (by omega) ⟨by rw [zbe, e23]; exact b1, by omega, by rw [zwe, e24]; exact w1, by omega, by omega⟩ (fun _ => ⟨hi0, by rw [e2]; rfl⟩) (fun w => by omega) (fun w => by omega) (fun _ => by rw [e2]; rfl) (fun w => by omega) e3 (fun _ w => ?_) (fun w => by omega) (fun _ => ⟨zbe, zwe⟩) (fun w => by omega) (fun w => by omega) (fun w => by omega) (by rw [e2]; rfl)) (zHow_snoc hh (fun _ => ⟨p, p2, e27⟩) fun w => by omega) (by rw [e2]; rfl)
  have e28 : e.2.2.1 8 = z := by rw [e2]; rfl
  rw [e28]
  exact Int32.not_le.mp fun h0 => c2 (Or.inr (Or.inr ⟨e27.symm.trans w, Int32.lt_of_le_of_lt h0 (by decide)⟩))
theorem o_filter (ok : zOk (nt, lim, mem, wk, slow, r, L, A, tk, sp, cs)) (hc : (zk_filter nt.length x) = 0) (hP : (zPn nt lim mem wk slow r L A tk sp cs 2 (upd (upd (upd (zD0 x (-1) ((nt.getD x.toNatClampNeg zdf).2.2.1 3) ((nt.getD x.toNatClampNeg zdf).2.2.1 4)) 9 y) 10 z) 12 (zLW nt b x (-1)))) u' w) (hT : zTu G σ b hi u') : zOk u' := by
  obtain ⟨hw, hh, h14, -⟩ := id ok
  obtain ⟨rfl, e, e1, e2, e3, rfl⟩ := hP
  have nb : ¬ znob nt.length x = true := fun w => by rw [zk_filter, if_pos w] at hc; exact nomatch hc
  rw [zk_filter, if_neg nb] at hc
  have hl : nt.length < 14 := by
    by_cases w : nt.length = 14
    · rw [if_pos w] at hc; exact nomatch hc
    · omega
  obtain ⟨i, hi0, rfl⟩ := znob_at (by omega) nb
  rw [nI_clamp (show i < 2 ^ 31 by omega)] at e2
  obtain ⟨_, _, _, _, ⟨b1, b2, w1, w2, w3⟩, -⟩ := hw i _ (zget_of hi0)
  have e23 : e.2.2.1 3 = (nt.getD i zdf).2.2.1 3 := by rw [e2]; rfl
  have e24 : e.2.2.1 4 = (nt.getD i zdf).2.2.1 4 := by rw [e2]; rfl
  have zbe : zb e = zb (nt.getD i zdf) := by rw [zb, e23]; rfl
  have zwe : zw e = zw (nt.getD i zdf) := by rw [zw, e24]; rfl
  exact zOk_new ok hT hl (zWf_add (b := b) (f := i) (s := 0) (p := 0) hw hl (by omega) ⟨by rw [zbe, e23]; exact b1, by omega, by rw [zwe, e24]; exact w1, by omega, by omega⟩ (fun _ => ⟨hi0, by rw [e2]; rfl⟩) (fun w => by omega) (fun w => by omega) (fun _ => by rw [e2]; rfl) (fun w => by omega) e3 (fun w => by omega) (fun w => by omega) (fun _ => ⟨zbe, zwe⟩) (fun w => by omega) (fun w => by omega) (fun w => by omega) (by rw [e2]; rfl)) (zHow_snoc hh (fun w => by omega) fun w => by omega) (by rw [e2]; rfl)
theorem o_group (ok : zOk (nt, lim, mem, wk, slow, r, L, A, tk, sp, cs)) (hc : (zk_group nt.length x y z) = 0) (hP : (zPn nt lim mem wk slow r L A tk sp cs 4 (upd (upd (upd (zD0 x (-1) ((nt.getD x.toNatClampNeg zdf).2.2.1 3) z) 7 y) 6 z) 12 (zLW nt b x (-1)))) u' w) (hT : zTu G σ b hi u') : zOk u' := by
  obtain ⟨hw, hh, h14, -⟩ := id ok
  obtain ⟨rfl, e, e1, e2, e3, rfl⟩ := hP
  have nb : ¬ znob nt.length x = true := fun w => by rw [zk_group, if_pos w] at hc; exact nomatch hc
  rw [zk_group, if_neg nb] at hc
  have c2 : ¬ ((y < 0 ∨ 3 < y) ∨ (z < 1 ∨ 4 < z)) := fun w => by rw [if_pos w] at hc; exact nomatch hc
  rw [if_neg c2] at hc
  have hl : nt.length < 14 := by
    by_cases w : nt.length = 14
    · rw [if_pos w] at hc; exact nomatch hc
    · omega
  obtain ⟨i, hi0, rfl⟩ := znob_at (by omega) nb
  rw [nI_clamp (show i < 2 ^ 31 by omega)] at e2
  obtain ⟨_, _, _, _, ⟨b1, b2, w1, w2, w3⟩, -⟩ := hw i _ (zget_of hi0)
  obtain ⟨h, hp, rfl⟩ := nI_of (x := y) fun w => c2 (Or.inl (Or.inl w))
  have h2 : h ≤ 3 := (nI_leI (b := 3) hp (by decide)).mp (Int32.not_lt.mp fun w => c2 (Or.inl (Or.inr w)))
  obtain ⟨p, p1, p2, rfl⟩ := nI_four (n := 4) (by decide) (fun w => c2 (Or.inr (Or.inl w))) (Int32.not_lt.mp fun w => c2 (Or.inr (Or.inr w)))
  have e23 : e.2.2.1 3 = (nt.getD i zdf).2.2.1 3 := by rw [e2]; rfl
  have e24 : e.2.2.1 4 = nI p := by rw [e2]; rfl
  have zbe : zb e = zb (nt.getD i zdf) := by rw [zb, e23]; rfl
  have zwe : zw e = p := by rw [zw, e24]; exact nI_clamp (by omega)
  exact zOk_new ok hT hl (zWf_add (b := b) (f := i) (s := 0) (p := p) hw hl (by omega) ⟨by rw [zbe, e23]; exact b1, by omega, by rw [zwe, e24], by omega, by omega⟩ (fun _ => ⟨hi0, by rw [e2]; rfl⟩) (fun w => by omega) (fun w => by omega) (fun _ => by rw [e2]; rfl) (fun _ => ⟨p1, p2, by rw [e2]; rfl⟩) e3 (fun w => by omega) (fun w => by omega) (fun w => by omega) (fun w => by omega) (fun _ => ⟨zbe, zwe⟩) (fun w => by omega) (by rw [e2]; rfl)) (zHow_snoc hh (fun w => by omega) fun _ => ⟨h, h2, by rw [e2]; rfl⟩) (by rw [e2]; rfl)
theorem o_union (ok : zOk (nt, lim, mem, wk, slow, r, L, A, tk, sp, cs)) (hc : (zk_union nt x y) = 0) (hP : (zPn nt lim mem wk slow r L A tk sp cs 3 (upd (zD0 x y ((nt.getD x.toNatClampNeg zdf).2.2.1 3 + (nt.getD y.toNatClampNeg zdf).2.2.1 3) ((nt.getD x.toNatClampNeg zdf).2.2.1 4 + (nt.getD y.toNatClampNeg zdf).2.2.1 4)) 12 (zLW nt b x y))) u' w) (hT : zTu G σ b hi u') : zOk u' := by
  obtain ⟨hw, hh, h14, -⟩ := id ok
  obtain ⟨rfl, e, e1, e2, e3, rfl⟩ := hP
  have nb : ¬ (znob nt.length x = true ∨ znob nt.length y = true) := fun w => by rw [zk_union, if_pos w] at hc; exact nomatch hc
  obtain ⟨i, hi0, rfl⟩ := znob_at (by omega) fun w => nb (Or.inl w)
  obtain ⟨j, hj0, rfl⟩ := znob_at (by omega) fun w => nb (Or.inr w)
  rw [zk_union, if_neg nb, nI_clamp (show i < 2 ^ 31 by omega), nI_clamp (show j < 2 ^ 31 by omega)] at hc
  have c2 : ¬ (nt.length = 14 ∨ 300 < zb (nt.getD i zdf) + zb (nt.getD j zdf) ∨ 8 < zw (nt.getD i zdf) + zw (nt.getD j zdf)) := fun w => by rw [if_pos w] at hc; exact nomatch hc
  have hl : nt.length < 14 := by omega
  rw [nI_clamp (show i < 2 ^ 31 by omega), nI_clamp (show j < 2 ^ 31 by omega)] at e2
  obtain ⟨_, _, _, _, ⟨b1, b2, w1, w2, w3⟩, -⟩ := hw i _ (zget_of hi0)
  obtain ⟨_, _, _, _, ⟨c1, c3, v1, v2, v3⟩, -⟩ := hw j _ (zget_of hj0)
  have e23 : e.2.2.1 3 = nI (zb (nt.getD i zdf) + zb (nt.getD j zdf)) := by rw [e2]; show (nt.getD i zdf).2.2.1 3 + (nt.getD j zdf).2.2.1 3 = _; rw [b1, c1, nI_add]
  have e24 : e.2.2.1 4 = nI (zw (nt.getD i zdf) + zw (nt.getD j zdf)) := by rw [e2]; show (nt.getD i zdf).2.2.1 4 + (nt.getD j zdf).2.2.1 4 = _; rw [w1, v1, nI_add]
  have zbe : zb e = zb (nt.getD i zdf) + zb (nt.getD j zdf) := by rw [zb, e23]; exact nI_clamp (by omega)
  have zwe : zw e = zw (nt.getD i zdf) + zw (nt.getD j zdf) := by rw [zw, e24]; exact nI_clamp (by omega)
  exact zOk_new ok hT hl (zWf_add (b := b) (f := i) (s := j) (p := 0) hw hl (by omega) ⟨by rw [zbe, e23], by omega, by rw [zwe, e24], by omega, by omega⟩ (fun _ => ⟨hi0, by rw [e2]; rfl⟩) (fun w => by omega) (fun _ => ⟨hj0, by rw [e2]; rfl⟩) (fun w => by omega) (fun w => by omega) e3 (fun w => by omega) (fun w => by omega) (fun w => by omega) (fun _ => ⟨zbe, zwe⟩) (fun w => by omega) (fun w => by omega) (by rw [e2]; rfl)) (zHow_snoc hh (fun w => by omega) fun w => by omega) (by rw [e2]; rfl)
theorem o_join (ok : zOk (nt, lim, mem, wk, slow, r, L, A, tk, sp, cs)) (hc : (zk_join nt x y z) = 0) (hP : (zPn nt lim mem wk slow r L A tk sp cs 5 (upd (upd (zD0 x y ((nt.getD x.toNatClampNeg zdf).2.2.1 3 * (nt.getD y.toNatClampNeg zdf).2.2.1 3) (if z < (nt.getD x.toNatClampNeg zdf).2.2.1 4 then (nt.getD x.toNatClampNeg zdf).2.2.1 4 else z)) 6 z) 12 (zLW nt b x y))) u' w) (hT : zTu G σ b hi u') : zOk u' := by
  obtain ⟨hw, hh, h14, -⟩ := id ok
  obtain ⟨rfl, e, e1, e2, e3, rfl⟩ := hP
  have nb : ¬ (znob nt.length x = true ∨ znob nt.length y = true) := fun w => by rw [zk_join, if_pos w] at hc; exact nomatch hc
  have nz : ¬ (z < 1 ∨ 4 < z) := fun w => by rw [zk_join, if_neg nb, if_pos w] at hc; exact nomatch hc
  obtain ⟨i, hi0, rfl⟩ := znob_at (by omega) fun w => nb (Or.inl w)
  obtain ⟨j, hj0, rfl⟩ := znob_at (by omega) fun w => nb (Or.inr w)
  obtain ⟨p, p1, p2, rfl⟩ := nI_four (n := 4) (by decide) (fun w => nz (Or.inl w)) (Int32.not_lt.mp fun w => nz (Or.inr w))
  rw [zk_join, if_neg nb, if_neg nz, nI_clamp (show i < 2 ^ 31 by omega), nI_clamp (show j < 2 ^ 31 by omega)] at hc
  have c2 : ¬ (nt.length = 14 ∨ 300 < zb (nt.getD i zdf) * zb (nt.getD j zdf)) := fun w => by rw [if_pos w] at hc; exact nomatch hc
  have hl : nt.length < 14 := by omega
  rw [nI_clamp (show i < 2 ^ 31 by omega), nI_clamp (show j < 2 ^ 31 by omega)] at e2
  obtain ⟨_, _, _, _, ⟨b1, b2, w1, w2, w3⟩, -⟩ := hw i _ (zget_of hi0)
  obtain ⟨_, _, _, _, ⟨c1, -⟩, -⟩ := hw j _ (zget_of hj0)
  rw [b1, c1, w1, pk_mul, zmx9 (by omega) (by omega)] at e2
  generalize hm : zb (nt.getD i zdf) * zb (nt.getD j zdf) = mm at *
  have e23 : e.2.2.1 3 = nI mm := by rw [e2]; rfl
  have e24 : e.2.2.1 4 = nI (max p (zw (nt.getD i zdf))) := by rw [e2]; rfl
  have zbe : zb e = mm := by rw [zb, e23]; exact nI_clamp (by omega)
  have zwe : zw e = max p (zw (nt.getD i zdf)) := by rw [zw, e24]; exact nI_clamp (by omega)
  exact zOk_new ok hT hl (zWf_add (b := b) (f := i) (s := j) (p := p) hw hl (by omega) ⟨by rw [zbe, e23], by omega, by rw [zwe, e24], by omega, by omega⟩ (fun _ => ⟨hi0, by rw [e2]; rfl⟩) (fun w => by omega) (fun _ => ⟨hj0, by rw [e2]; rfl⟩) (fun w => by omega) (fun _ => ⟨p1, p2, by rw [e2]; rfl⟩) e3 (fun w => by omega) (fun w => by omega) (fun w => by omega) (fun w => by omega) (fun w => by omega) (fun _ => ⟨by rw [zbe, hm], zwe⟩) (by rw [e2]; rfl)) (zHow_snoc hh (fun w => by omega) fun w => by omega) (by rw [e2]; rfl)
end
