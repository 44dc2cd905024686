/-! the calls, in one form for both sides: the reference -/
theorem zM.mono {G : zG} {y : MethodName} {k : zK} {as : List Value} {σ : zH} {nx : Nat} {Q Q2 : Option Value → zH → Nat → Prop} (h : zM G y k as σ nx Q) (hQ : ∀ v σ' nx', Q v σ' nx' → Q2 v σ' nx') : zM G y k as σ nx Q2 := by
  intro l hl
  refine MetFree.mono (h l hl) (fun _ _ q => q) (fun _ _ _ _ _ q => q) (fun a s o t _ q => ?_)
  obtain ⟨⟨⟨v, σ', nx', e, q1, q2⟩, q3⟩, q4⟩ := q
  exact ⟨⟨⟨v, σ', nx', e, hQ _ _ _ q1, q2⟩, q3⟩, q4⟩
theorem zMN.mono {G : zG} {y : MethodName} {k : zK} {m : Nat} {As : List Value} {S : zMS} {Q Q2 : Option Value → zMS → Prop} (h : zMN G y k m As S Q) (hQ : ∀ v S', Q v S' → Q2 v S') : zMN G y k m As S Q2 := fun σ nx hm => zM.mono (h σ nx hm) fun _ _ _ ⟨q1, q2, S', q3, q4⟩ => ⟨q1, q2, S', q3, hQ _ _ q4⟩
theorem zQm.mono {v : Option Value} {S' : zMS} {c : Nat} {ok bad ok' bad' : Prop} (h : zQm v S' c ok bad) (h1 : c = 0 → ok → ok') (h2 : bad → bad') : zQm v S' c ok' bad' := ⟨h.1, h.2.1, fun q => h1 q (h.2.2.1 q), fun q => h2 (h.2.2.2 q)⟩
/-- what the reference's side says of a call -/
def zB1 (un : Nat) (P : zUv → Int32 → Prop) (c : Nat) (u : zUv) (v : Option Value) (S' : zMS) : Prop := zQm v S' c (∀ u' w, P u' w → v = some (.int w) ∧ ∃ un', un' ≤ un + 28 ∧ zMu S' u' un') (zMu S' u un)
theorem znob_at {n : Nat} {x : Int32} (hn : n < 2 ^ 31) (h : ¬ znob n x = true) : ∃ i, i < n ∧ x = nI i := by
  refine zis_of hn (znob_f.mp ?_)
  cases q : znob n x with
  | true => exact absurd q h
  | false => rfl
theorem zk_node_at {n : Nat} {x : Int32} (hn : n < 2 ^ 31) (h : zk_node n x = 0) : ∃ i, i < n ∧ x = nI i := znob_at hn fun q => by rw [zk_node, if_pos q] at h; exact nomatch h
theorem zget_of {nt : zNT} {i : Nat} (h : i < nt.length) : nt[i]? = some (nt.getD i zdf) := by rw [List.getD_eq_getElem?_getD, List.getElem?_eq_getElem h]; rfl
theorem zmx9 {a b : Nat} (ha : a < 2 ^ 31) (hb : b < 2 ^ 31) : (if nI a < nI b then nI b else nI a) = nI (max a b) := by
  by_cases c : a < b
  · rw [if_pos (nI_lt c hb), Nat.max_eq_right (by omega)]
  · rw [if_neg (fun w => c ((nI_ltI ha hb).mp w)), Nat.max_eq_left (by omega)]
section
variable {G : zG} {b m un : Nat} {nt : zNT} {lim mem wk r tk sp cs : Nat} {slow : Nat → Nat} {L : zNS} {A : List zAE} {x y z : Int32} {S : zMS}
theorem m_partitions (hun : un < 2 ^ 29) (ok : zOk (nt, lim, mem, wk, slow, r, L, A, tk, sp, cs)) (h : zrM S nt lim mem wk slow r L A tk sp cs un) : zMN G yX12_partitions kX12_partitions m [.int x] S (fun v S' => zB1 un (zPq (nt, lim, mem, wk, slow, r, L, A, tk, sp, cs) (nI (zct lim nt x.toNatClampNeg).length)) (zk_node nt.length x) (nt, lim, mem, wk, slow, r, L, A, tk, sp, cs) v S') := by
  obtain ⟨hw, hh, h14, hlim, hmem, hwk, hslow, hr, hL, hsz, htk, hcs, h01⟩ := ok
  refine zMN.mono (c_m_partitions hw hh hlim h) fun v S' q => q.mono (fun hc q => ?_) id
  rintro u' w ⟨rfl, rfl⟩
  exact ⟨q.1, un, by omega, q.2⟩
theorem m_rowsIn (hun : un < 2 ^ 29) (ok : zOk (nt, lim, mem, wk, slow, r, L, A, tk, sp, cs)) (h : zrM S nt lim mem wk slow r L A tk sp cs un) : zMN G yX12_rowsIn kX12_rowsIn m [.int x, .int y] S (fun v S' => zB1 un (zPq (nt, lim, mem, wk, slow, r, L, A, tk, sp, cs) (nI (zsz (zct lim nt x.toNatClampNeg) y.toNatClampNeg))) (zk_part lim nt x y) (nt, lim, mem, wk, slow, r, L, A, tk, sp, cs) v S') := by
  obtain ⟨hw, hh, h14, hlim, hmem, hwk, hslow, hr, hL, hsz, htk, hcs, h01⟩ := ok
  refine zMN.mono (c_m_rowsIn hw hh hlim h) fun v S' q => q.mono (fun hc q => ?_) id
  rintro u' w ⟨rfl, rfl⟩
  exact ⟨q.1, un, by omega, q.2⟩
theorem m_rows (hun : un < 2 ^ 29) (ok : zOk (nt, lim, mem, wk, slow, r, L, A, tk, sp, cs)) (h : zrM S nt lim mem wk slow r L A tk sp cs un) : zMN G yX12_rows kX12_rows m [.int x] S (fun v S' => zB1 un (zPq (nt, lim, mem, wk, slow, r, L, A, tk, sp, cs) (nI (zct lim nt x.toNatClampNeg).flatten.length)) (zk_node nt.length x) (nt, lim, mem, wk, slow, r, L, A, tk, sp, cs) v S') := by
  obtain ⟨hw, hh, h14, hlim, hmem, hwk, hslow, hr, hL, hsz, htk, hcs, h01⟩ := ok
  refine zMN.mono (c_m_rows hw hh hlim h) fun v S' q => q.mono (fun hc q => ?_) id
  rintro u' w ⟨rfl, rfl⟩
  exact ⟨q.1, un, by omega, q.2⟩
theorem m_keyAt (hun : un < 2 ^ 29) (ok : zOk (nt, lim, mem, wk, slow, r, L, A, tk, sp, cs)) (h : zrM S nt lim mem wk slow r L A tk sp cs un) : zMN G yX12_keyAt kX12_keyAt m [.int x, .int y, .int z] S (fun v S' => zB1 un (zPq (nt, lim, mem, wk, slow, r, L, A, tk, sp, cs) ((zrw (zct lim nt x.toNatClampNeg) y.toNatClampNeg z.toNatClampNeg).1)) (zk_place lim nt x y z) (nt, lim, mem, wk, slow, r, L, A, tk, sp, cs) v S') := by
  obtain ⟨hw, hh, h14, hlim, hmem, hwk, hslow, hr, hL, hsz, htk, hcs, h01⟩ := ok
  refine zMN.mono (c_m_keyAt hw hh hlim h) fun v S' q => q.mono (fun hc q => ?_) id
  rintro u' w ⟨rfl, rfl⟩
  exact ⟨q.1, un, by omega, q.2⟩
theorem m_valueAt (hun : un < 2 ^ 29) (ok : zOk (nt, lim, mem, wk, slow, r, L, A, tk, sp, cs)) (h : zrM S nt lim mem wk slow r L A tk sp cs un) : zMN G yX12_valueAt kX12_valueAt m [.int x, .int y, .int z] S (fun v S' => zB1 un (zPq (nt, lim, mem, wk, slow, r, L, A, tk, sp, cs) ((zrw (zct lim nt x.toNatClampNeg) y.toNatClampNeg z.toNatClampNeg).2)) (zk_place lim nt x y z) (nt, lim, mem, wk, slow, r, L, A, tk, sp, cs) v S') := by
  obtain ⟨hw, hh, h14, hlim, hmem, hwk, hslow, hr, hL, hsz, htk, hcs, h01⟩ := ok
  refine zMN.mono (c_m_valueAt hw hh hlim h) fun v S' q => q.mono (fun hc q => ?_) id
  rintro u' w ⟨rfl, rfl⟩
  exact ⟨q.1, un, by omega, q.2⟩
theorem m_isBroad (hun : un < 2 ^ 29) (ok : zOk (nt, lim, mem, wk, slow, r, L, A, tk, sp, cs)) (h : zrM S nt lim mem wk slow r L A tk sp cs un) : zMN G yX12_isBroad kX12_isBroad m [.int x] S (fun v S' => zB1 un (zPq (nt, lim, mem, wk, slow, r, L, A, tk, sp, cs) (if zbr lim nt x.toNatClampNeg = true then 1 else 0)) (zk_join5 nt x) (nt, lim, mem, wk, slow, r, L, A, tk, sp, cs) v S') := by
  obtain ⟨hw, hh, h14, hlim, hmem, hwk, hslow, hr, hL, hsz, htk, hcs, h01⟩ := ok
  refine zMN.mono (c_m_isBroad hw hh hlim h) fun v S' q => q.mono (fun hc q => ?_) id
  rintro u' w ⟨rfl, rfl⟩
  exact ⟨q.1, un, by omega, q.2⟩
theorem m_digest (hun : un < 2 ^ 29) (ok : zOk (nt, lim, mem, wk, slow, r, L, A, tk, sp, cs)) (h : zrM S nt lim mem wk slow r L A tk sp cs un) : zMN G yX12_digest kX12_digest m [.int x] S (fun v S' => zB1 un (zPq (nt, lim, mem, wk, slow, r, L, A, tk, sp, cs) (zsq (zct lim nt x.toNatClampNeg).flatten)) (zk_node nt.length x) (nt, lim, mem, wk, slow, r, L, A, tk, sp, cs) v S') := by
  obtain ⟨hw, hh, h14, hlim, hmem, hwk, hslow, hr, hL, hsz, htk, hcs, h01⟩ := ok
  refine zMN.mono (c_m_digest hw hh hlim h) fun v S' q => q.mono (fun hc q => ?_) id
  rintro u' w ⟨rfl, rfl⟩
  exact ⟨q.1, un, by omega, q.2⟩
theorem m_stages (hun : un < 2 ^ 29) (ok : zOk (nt, lim, mem, wk, slow, r, L, A, tk, sp, cs)) (h : zrM S nt lim mem wk slow r L A tk sp cs un) : zMN G yX12_stages kX12_stages m [.int x] S (fun v S' => zB1 un (zPq (nt, lim, mem, wk, slow, r, L, A, tk, sp, cs) (nI (zcn (zdraw lim nt (zcd L) x.toNatClampNeg).2.1 14))) (zk_node nt.length x) (nt, lim, mem, wk, slow, r, L, A, tk, sp, cs) v S') := by
  obtain ⟨hw, hh, h14, hlim, hmem, hwk, hslow, hr, hL, hsz, htk, hcs, h01⟩ := ok
  refine zMN.mono (c_m_stages hw hh hlim h) fun v S' q => q.mono (fun hc q => ?_) id
  rintro u' w ⟨rfl, rfl⟩
  exact ⟨q.1, un, by omega, q.2⟩
theorem m_outputOf (hun : un < 2 ^ 29) (ok : zOk (nt, lim, mem, wk, slow, r, L, A, tk, sp, cs)) (h : zrM S nt lim mem wk slow r L A tk sp cs un) : zMN G yX12_outputOf kX12_outputOf m [.int x, .int y] S (fun v S' => zB1 un (zPq (nt, lim, mem, wk, slow, r, L, A, tk, sp, cs) (nI (znu (zdraw lim nt (zcd L) x.toNatClampNeg).2.1 y.toNatClampNeg))) (zk_out lim nt (zcd L) x y) (nt, lim, mem, wk, slow, r, L, A, tk, sp, cs) v S') := by
  obtain ⟨hw, hh, h14, hlim, hmem, hwk, hslow, hr, hL, hsz, htk, hcs, h01⟩ := ok
  refine zMN.mono (c_m_outputOf hw hh hlim h) fun v S' q => q.mono (fun hc q => ?_) id
  rintro u' w ⟨rfl, rfl⟩
  exact ⟨q.1, un, by omega, q.2⟩
theorem m_digestInPlace (hun : un < 2 ^ 29) (ok : zOk (nt, lim, mem, wk, slow, r, L, A, tk, sp, cs)) (h : zrM S nt lim mem wk slow r L A tk sp cs un) : zMN G yX12_digestInPlace kX12_digestInPlace m [.int x] S (fun v S' => zB1 un (zPq (nt, lim, mem, wk, slow, r, L, A, tk, sp, cs) (zsq (zct lim nt x.toNatClampNeg).flatten)) (zk_node nt.length x) (nt, lim, mem, wk, slow, r, L, A, tk, sp, cs) v S') := by
  obtain ⟨hw, hh, h14, hlim, hmem, hwk, hslow, hr, hL, hsz, htk, hcs, h01⟩ := ok
  refine zMN.mono (c_m_digestInPlace hw hh hlim h) fun v S' q => q.mono (fun hc q => ?_) id
  rintro u' w ⟨rfl, rfl⟩
  exact ⟨q.1, un, by omega, q.2⟩
theorem m_put (hun : un < 2 ^ 29) (ok : zOk (nt, lim, mem, wk, slow, r, L, A, tk, sp, cs)) (h : zrM S nt lim mem wk slow r L A tk sp cs un) : zMN G yX12_put kX12_put m [.int x, .int y, .int z] S (fun v S' => zB1 un (zPq (zput nt x.toNatClampNeg (y, z), lim, mem, wk, slow, r, [], A, tk, sp, cs) (nI ((nt.getD x.toNatClampNeg zdf).2.2.2.length + 1))) (zk_put nt x) (nt, lim, mem, wk, slow, r, L, A, tk, sp, cs) v S') := by
  obtain ⟨hw, hh, h14, hlim, hmem, hwk, hslow, hr, hL, hsz, htk, hcs, h01⟩ := ok
  refine zMN.mono (c_m_put hw h) fun v S' q => q.mono (fun hc q => ?_) id
  rintro u' w ⟨rfl, rfl⟩
  exact ⟨q.1, un, by omega, q.2⟩
theorem m_setWorkers (hun : un < 2 ^ 29) (ok : zOk (nt, lim, mem, wk, slow, r, L, A, tk, sp, cs)) (h : zrM S nt lim mem wk slow r L A tk sp cs un) : zMN G yX12_setWorkers kX12_setWorkers m [.int x] S (fun v S' => zB1 un (zPq (nt, lim, mem, x.toNatClampNeg, slow, r, L, A, tk, sp, cs) (nI wk)) (zk_work x) (nt, lim, mem, wk, slow, r, L, A, tk, sp, cs) v S') := by
  obtain ⟨hw, hh, h14, hlim, hmem, hwk, hslow, hr, hL, hsz, htk, hcs, h01⟩ := ok
  refine zMN.mono (c_m_setWorkers h) fun v S' q => q.mono (fun hc q => ?_) id
  rintro u' w ⟨rfl, rfl⟩
  exact ⟨q.1, un, by omega, q.2⟩
theorem m_setSlowness (hun : un < 2 ^ 29) (ok : zOk (nt, lim, mem, wk, slow, r, L, A, tk, sp, cs)) (h : zrM S nt lim mem wk slow r L A tk sp cs un) : zMN G yX12_setSlowness kX12_setSlowness m [.int x, .int y] S (fun v S' => zB1 un (zPq (nt, lim, mem, wk, zun slow x.toNatClampNeg y.toNatClampNeg, r, L, A, tk, sp, cs) (nI (slow x.toNatClampNeg))) (zk_slow x y) (nt, lim, mem, wk, slow, r, L, A, tk, sp, cs) v S') := by
  obtain ⟨hw, hh, h14, hlim, hmem, hwk, hslow, hr, hL, hsz, htk, hcs, h01⟩ := ok
  refine zMN.mono (c_m_setSlowness h) fun v S' q => q.mono (fun hc q => ?_) id
  rintro u' w ⟨rfl, rfl⟩
  exact ⟨q.1, un, by omega, q.2⟩
theorem m_setMemory (hun : un < 2 ^ 29) (ok : zOk (nt, lim, mem, wk, slow, r, L, A, tk, sp, cs)) (h : zrM S nt lim mem wk slow r L A tk sp cs un) : zMN G yX12_setMemory kX12_setMemory m [.int x] S (fun v S' => zB1 un (zPq (nt, lim, x.toNatClampNeg, wk, slow, r, L, A, tk, sp, cs) (nI mem)) (zk_1000 x) (nt, lim, mem, wk, slow, r, L, A, tk, sp, cs) v S') := by
  obtain ⟨hw, hh, h14, hlim, hmem, hwk, hslow, hr, hL, hsz, htk, hcs, h01⟩ := ok
  refine zMN.mono (c_m_setMemory h) fun v S' q => q.mono (fun hc q => ?_) id
  rintro u' w ⟨rfl, rfl⟩
  exact ⟨q.1, un, by omega, q.2⟩
theorem m_setLimit (hun : un < 2 ^ 29) (ok : zOk (nt, lim, mem, wk, slow, r, L, A, tk, sp, cs)) (h : zrM S nt lim mem wk slow r L A tk sp cs un) : zMN G yX12_setLimit kX12_setLimit m [.int x] S (fun v S' => zB1 un (zPq (nt, x.toNatClampNeg, mem, wk, slow, r, [], A, tk, sp, cs) (nI lim)) (zk_1000 x) (nt, lim, mem, wk, slow, r, L, A, tk, sp, cs) v S') := by
  obtain ⟨hw, hh, h14, hlim, hmem, hwk, hslow, hr, hL, hsz, htk, hcs, h01⟩ := ok
  refine zMN.mono (c_m_setLimit h) fun v S' q => q.mono (fun hc q => ?_) id
  rintro u' w ⟨rfl, rfl⟩
  exact ⟨q.1, un, by omega, q.2⟩
theorem m_isCached (hun : un < 2 ^ 29) (ok : zOk (nt, lim, mem, wk, slow, r, L, A, tk, sp, cs)) (h : zrM S nt lim mem wk slow r L A tk sp cs un) : zMN G yX12_isCached kX12_isCached m [.int x] S (fun v S' => zB1 un (zPq (nt, lim, mem, wk, slow, r, L, A, tk, sp, cs) (if zcd L x.toNatClampNeg = true then 1 else 0)) (zk_node nt.length x) (nt, lim, mem, wk, slow, r, L, A, tk, sp, cs) v S') := by
  obtain ⟨hw, hh, h14, hlim, hmem, hwk, hslow, hr, hL, hsz, htk, hcs, h01⟩ := ok
  refine zMN.mono (c_m_isCached h) fun v S' q => q.mono (fun hc q => ?_) id
  rintro u' w ⟨rfl, rfl⟩
  exact ⟨q.1, un, by omega, q.2⟩
theorem m_nodeOf (hun : un < 2 ^ 29) (ok : zOk (nt, lim, mem, wk, slow, r, L, A, tk, sp, cs)) (h : zrM S nt lim mem wk slow r L A tk sp cs un) : zMN G yX12_nodeOf kX12_nodeOf m [.int x] S (fun v S' => zB1 un (zPq (nt, lim, mem, wk, slow, r, L, A, tk, sp, cs) (zAc (A.getD x.toNatClampNeg (0, 0, 0, 0, 0, false)) 0)) (zk_node A.length x) (nt, lim, mem, wk, slow, r, L, A, tk, sp, cs) v S') := by
  obtain ⟨hw, hh, h14, hlim, hmem, hwk, hslow, hr, hL, hsz, htk, hcs, h01⟩ := ok
  refine zMN.mono (c_m_nodeOf h) fun v S' q => q.mono (fun hc q => ?_) id
  rintro u' w ⟨rfl, rfl⟩
  exact ⟨q.1, un, by omega, q.2⟩
theorem m_partitionOf (hun : un < 2 ^ 29) (ok : zOk (nt, lim, mem, wk, slow, r, L, A, tk, sp, cs)) (h : zrM S nt lim mem wk slow r L A tk sp cs un) : zMN G yX12_partitionOf kX12_partitionOf m [.int x] S (fun v S' => zB1 un (zPq (nt, lim, mem, wk, slow, r, L, A, tk, sp, cs) (zAc (A.getD x.toNatClampNeg (0, 0, 0, 0, 0, false)) 1)) (zk_node A.length x) (nt, lim, mem, wk, slow, r, L, A, tk, sp, cs) v S') := by
  obtain ⟨hw, hh, h14, hlim, hmem, hwk, hslow, hr, hL, hsz, htk, hcs, h01⟩ := ok
  refine zMN.mono (c_m_partitionOf h) fun v S' q => q.mono (fun hc q => ?_) id
  rintro u' w ⟨rfl, rfl⟩
  exact ⟨q.1, un, by omega, q.2⟩
theorem m_workerOf (hun : un < 2 ^ 29) (ok : zOk (nt, lim, mem, wk, slow, r, L, A, tk, sp, cs)) (h : zrM S nt lim mem wk slow r L A tk sp cs un) : zMN G yX12_workerOf kX12_workerOf m [.int x] S (fun v S' => zB1 un (zPq (nt, lim, mem, wk, slow, r, L, A, tk, sp, cs) (zAc (A.getD x.toNatClampNeg (0, 0, 0, 0, 0, false)) 2)) (zk_node A.length x) (nt, lim, mem, wk, slow, r, L, A, tk, sp, cs) v S') := by
  obtain ⟨hw, hh, h14, hlim, hmem, hwk, hslow, hr, hL, hsz, htk, hcs, h01⟩ := ok
  refine zMN.mono (c_m_workerOf h) fun v S' q => q.mono (fun hc q => ?_) id
  rintro u' w ⟨rfl, rfl⟩
  exact ⟨q.1, un, by omega, q.2⟩
theorem m_startOf (hun : un < 2 ^ 29) (ok : zOk (nt, lim, mem, wk, slow, r, L, A, tk, sp, cs)) (h : zrM S nt lim mem wk slow r L A tk sp cs un) : zMN G yX12_startOf kX12_startOf m [.int x] S (fun v S' => zB1 un (zPq (nt, lim, mem, wk, slow, r, L, A, tk, sp, cs) (zAc (A.getD x.toNatClampNeg (0, 0, 0, 0, 0, false)) 3)) (zk_node A.length x) (nt, lim, mem, wk, slow, r, L, A, tk, sp, cs) v S') := by
  obtain ⟨hw, hh, h14, hlim, hmem, hwk, hslow, hr, hL, hsz, htk, hcs, h01⟩ := ok
  refine zMN.mono (c_m_startOf h) fun v S' q => q.mono (fun hc q => ?_) id
  rintro u' w ⟨rfl, rfl⟩
  exact ⟨q.1, un, by omega, q.2⟩
theorem m_endOf (hun : un < 2 ^ 29) (ok : zOk (nt, lim, mem, wk, slow, r, L, A, tk, sp, cs)) (h : zrM S nt lim mem wk slow r L A tk sp cs un) : zMN G yX12_endOf kX12_endOf m [.int x] S (fun v S' => zB1 un (zPq (nt, lim, mem, wk, slow, r, L, A, tk, sp, cs) (zAc (A.getD x.toNatClampNeg (0, 0, 0, 0, 0, false)) 4)) (zk_node A.length x) (nt, lim, mem, wk, slow, r, L, A, tk, sp, cs) v S') := by
  obtain ⟨hw, hh, h14, hlim, hmem, hwk, hslow, hr, hL, hsz, htk, hcs, h01⟩ := ok
  refine zMN.mono (c_m_endOf h) fun v S' q => q.mono (fun hc q => ?_) id
  rintro u' w ⟨rfl, rfl⟩
  exact ⟨q.1, un, by omega, q.2⟩
theorem m_isCopy (hun : un < 2 ^ 29) (ok : zOk (nt, lim, mem, wk, slow, r, L, A, tk, sp, cs)) (h : zrM S nt lim mem wk slow r L A tk sp cs un) : zMN G yX12_isCopy kX12_isCopy m [.int x] S (fun v S' => zB1 un (zPq (nt, lim, mem, wk, slow, r, L, A, tk, sp, cs) (zAc (A.getD x.toNatClampNeg (0, 0, 0, 0, 0, false)) 5)) (zk_node A.length x) (nt, lim, mem, wk, slow, r, L, A, tk, sp, cs) v S') := by
  obtain ⟨hw, hh, h14, hlim, hmem, hwk, hslow, hr, hL, hsz, htk, hcs, h01⟩ := ok
  refine zMN.mono (c_m_isCopy h) fun v S' q => q.mono (fun hc q => ?_) id
  rintro u' w ⟨rfl, rfl⟩
  exact ⟨q.1, un, by omega, q.2⟩
theorem m_mark (hy : y = 0 ∨ y = 1) (hun : un < 2 ^ 29) (ok : zOk (nt, lim, mem, wk, slow, r, L, A, tk, sp, cs)) (h : zrM S nt lim mem wk slow r L A tk sp cs un) : zMN G yX12_mark kX12_mark m [.int x, .int y] S (fun v S' => zB1 un (zPq (zmark nt x.toNatClampNeg y, lim, mem, wk, slow, r, L, A, tk, sp, cs) ((nt.getD x.toNatClampNeg zdf).2.2.1 11)) (zk_node nt.length x) (nt, lim, mem, wk, slow, r, L, A, tk, sp, cs) v S') := by
  obtain ⟨hw, hh, h14, hlim, hmem, hwk, hslow, hr, hL, hsz, htk, hcs, h01⟩ := ok
  refine zMN.mono (c_m_mark hy h) fun v S' q => q.mono (fun hc q => ?_) id
  rintro u' w ⟨rfl, rfl⟩
  exact ⟨q.1, un, by omega, q.2⟩
theorem m_setRoom (hun : un < 2 ^ 29) (ok : zOk (nt, lim, mem, wk, slow, r, L, A, tk, sp, cs)) (h : zrM S nt lim mem wk slow r L A tk sp cs un) : zMN G yX12_setRoom kX12_setRoom m [.int x] S (fun v S' => zB1 un (zPq (nt, lim, mem, wk, slow, x.toNatClampNeg, zmkr x.toNatClampNeg 0 L, A, tk, sp, cs) (nI (L.length - (zmkr x.toNatClampNeg 0 L).length))) (zk_1000 x) (nt, lim, mem, wk, slow, r, L, A, tk, sp, cs) v S') := by
  obtain ⟨hw, hh, h14, hlim, hmem, hwk, hslow, hr, hL, hsz, htk, hcs, h01⟩ := ok
  refine zMN.mono (c_m_setRoom hw hh hlim (by omega) hL hsz h) fun v S' q => q.mono (fun hc q => ?_) id
  rintro u' w ⟨rfl, rfl⟩
  exact ⟨q.1, un, by omega, q.2⟩
theorem m_run (hun : un < 2 ^ 29) (ok : zOk (nt, lim, mem, wk, slow, r, L, A, tk, sp, cs)) (h : zrM S nt lim mem wk slow r L A tk sp cs un) : zMN G yX12_run kX12_run m [.int x] S (fun v S' => zB1 un (zPq (nt, lim, mem, wk, slow, r, zren2 lim nt (zdraw lim nt (zcd L) x.toNatClampNeg).2.2 r (zren1 (zdraw lim nt (zcd L) x.toNatClampNeg).1 L 14) 14, (zrn lim nt (zcd L) mem slow wk (zdraw lim nt (zcd L) x.toNatClampNeg).2.1 14).2.1, (zrn lim nt (zcd L) mem slow wk (zdraw lim nt (zcd L) x.toNatClampNeg).2.1 14).1, (zrn lim nt (zcd L) mem slow wk (zdraw lim nt (zcd L) x.toNatClampNeg).2.1 14).2.2, wk) (nI (zrn lim nt (zcd L) mem slow wk (zdraw lim nt (zcd L) x.toNatClampNeg).2.1 14).1)) (zk_node nt.length x) (nt, lim, mem, wk, slow, r, L, A, tk, sp, cs) v S') := by
  obtain ⟨hw, hh, h14, hlim, hmem, hwk, hslow, hr, hL, hsz, htk, hcs, h01⟩ := ok
  refine zMN.mono (c_m_run hw hh hlim hmem hslow hwk hr hun hL hsz h) fun v S' q => q.mono (fun hc q => ?_) id
  rintro u' w ⟨rfl, rfl⟩
  exact q
theorem m_source (hun : un < 2 ^ 29) (ok : zOk (nt, lim, mem, wk, slow, r, L, A, tk, sp, cs)) (h : zrM S nt lim mem wk slow r L A tk sp cs un) : zMN G yX12_source kX12_source m [.int x] S (fun v S' => zB1 un (zPn nt lim mem wk slow r L A tk sp cs 0 (upd (upd (zD0 (-1) (-1) 12 x) 6 x) 12 (zLW nt b (-1) (-1)))) (zk_source nt.length x) (nt, lim, mem, wk, slow, r, L, A, tk, sp, cs) v S') := by
  obtain ⟨hw, hh, h14, hlim, hmem, hwk, hslow, hr, hL, hsz, htk, hcs, h01⟩ := ok
  refine zMN.mono (c_m_source h) fun v S' q => q.mono (fun hc q => ?_) id
  rintro u' w ⟨rfl, e, e1, e2, e3, rfl⟩
  exact ⟨q.1, un, by omega, q.2 e e1 e3 (by rw [e2]; rfl) (by rw [e2]; rfl) (by rw [e2]; rfl) (by rw [e2]; rfl)⟩
theorem m_map (hun : un < 2 ^ 29) (ok : zOk (nt, lim, mem, wk, slow, r, L, A, tk, sp, cs)) (h : zrM S nt lim mem wk slow r L A tk sp cs un) : zMN G yX12_map kX12_map m [.int x, .int y, .int z] S (fun v S' => zB1 un (zPn nt lim mem wk slow r L A tk sp cs 1 (upd (upd (upd (zD0 x (-1) ((nt.getD x.toNatClampNeg zdf).2.2.1 3) ((nt.getD x.toNatClampNeg zdf).2.2.1 4)) 7 y) 8 z) 12 (zLW nt b x (-1)))) (zk_map nt.length x y z) (nt, lim, mem, wk, slow, r, L, A, tk, sp, cs) v S') := by
  obtain ⟨hw, hh, h14, hlim, hmem, hwk, hslow, hr, hL, hsz, htk, hcs, h01⟩ := ok
  refine zMN.mono (c_m_map h) fun v S' q => q.mono (fun hc q => ?_) id
  rintro u' w ⟨rfl, e, e1, e2, e3, rfl⟩
  exact ⟨q.1, un, by omega, q.2 e e1 e3 (by rw [e2]; rfl) (by rw [e2]; rfl) (by rw [e2]; rfl) (by rw [e2]; rfl) (by rw [e2]; rfl) (by rw [e2]; rfl)⟩
theorem m_filter (hun : un < 2 ^ 29) (ok : zOk (nt, lim, mem, wk, slow, r, L, A, tk, sp, cs)) (h : zrM S nt lim mem wk slow r L A tk sp cs un) : zMN G yX12_filter kX12_filter m [.int x, .int y, .int z] S (fun v S' => zB1 un (zPn nt lim mem wk slow r L A tk sp cs 2 (upd (upd (upd (zD0 x (-1) ((nt.getD x.toNatClampNeg zdf).2.2.1 3) ((nt.getD x.toNatClampNeg zdf).2.2.1 4)) 9 y) 10 z) 12 (zLW nt b x (-1)))) (zk_filter nt.length x) (nt, lim, mem, wk, slow, r, L, A, tk, sp, cs) v S') := by
  obtain ⟨hw, hh, h14, hlim, hmem, hwk, hslow, hr, hL, hsz, htk, hcs, h01⟩ := ok
  refine zMN.mono (c_m_filter h) fun v S' q => q.mono (fun hc q => ?_) id
  rintro u' w ⟨rfl, e, e1, e2, e3, rfl⟩
  exact ⟨q.1, un, by omega, q.2 e e1 e3 (by rw [e2]; rfl) (by rw [e2]; rfl) (by rw [e2]; rfl) (by rw [e2]; rfl) (by rw [e2]; rfl) (by rw [e2]; rfl)⟩
theorem m_group (hun : un < 2 ^ 29) (ok : zOk (nt, lim, mem, wk, slow, r, L, A, tk, sp, cs)) (h : zrM S nt lim mem wk slow r L A tk sp cs un) : zMN G yX12_group kX12_group m [.int x, .int y, .int z] S (fun v S' => zB1 un (zPn nt lim mem wk slow r L A tk sp cs 4 (upd (upd (upd (zD0 x (-1) ((nt.getD x.toNatClampNeg zdf).2.2.1 3) z) 7 y) 6 z) 12 (zLW nt b x (-1)))) (zk_group nt.length x y z) (nt, lim, mem, wk, slow, r, L, A, tk, sp, cs) v S') := by
  obtain ⟨hw, hh, h14, hlim, hmem, hwk, hslow, hr, hL, hsz, htk, hcs, h01⟩ := ok
  refine zMN.mono (c_m_group h) fun v S' q => q.mono (fun hc q => ?_) id
  rintro u' w ⟨rfl, e, e1, e2, e3, rfl⟩
  exact ⟨q.1, un, by omega, q.2 e e1 e3 (by rw [e2]; rfl) (by rw [e2]; rfl) (by rw [e2]; rfl) (by rw [e2]; rfl) (by rw [e2]; rfl) (by rw [e2]; rfl)⟩
theorem m_union (hun : un < 2 ^ 29) (ok : zOk (nt, lim, mem, wk, slow, r, L, A, tk, sp, cs)) (h : zrM S nt lim mem wk slow r L A tk sp cs un) : zMN G yX12_union kX12_union m [.int x, .int y] S (fun v S' => zB1 un (zPn nt lim mem wk slow r L A tk sp cs 3 (upd (zD0 x y ((nt.getD x.toNatClampNeg zdf).2.2.1 3 + (nt.getD y.toNatClampNeg zdf).2.2.1 3) ((nt.getD x.toNatClampNeg zdf).2.2.1 4 + (nt.getD y.toNatClampNeg zdf).2.2.1 4)) 12 (zLW nt b x y))) (zk_union nt x y) (nt, lim, mem, wk, slow, r, L, A, tk, sp, cs) v S') := by
  obtain ⟨hw, hh, h14, hlim, hmem, hwk, hslow, hr, hL, hsz, htk, hcs, h01⟩ := ok
  refine zMN.mono (c_m_union hw h) fun v S' q => q.mono (fun hc q => ?_) id
  rintro u' w ⟨rfl, e, e1, e2, e3, rfl⟩
  have nb : ¬ (znob nt.length x = true ∨ znob nt.length y = true) := fun w => by rw [zk_union, if_pos w] at hc; exact nomatch hc
  obtain ⟨i, hi0, rfl⟩ := znob_at (by omega) fun w => nb (Or.inl w)
  obtain ⟨j, hj0, rfl⟩ := znob_at (by omega) fun w => nb (Or.inr w)
  rw [nI_clamp (show i < 2 ^ 31 by omega), nI_clamp (show j < 2 ^ 31 by omega)] at q e2
  obtain ⟨_, _, _, _, ⟨b1, -, w1, -⟩, -⟩ := hw i _ (zget_of hi0)
  obtain ⟨_, _, _, _, ⟨c1, -, v1, -⟩, -⟩ := hw j _ (zget_of hj0)
  rw [b1, c1, w1, v1, nI_add, nI_add] at e2
  exact ⟨q.1, un, by omega, q.2 e e1 e3 (by rw [e2]; rfl) (by rw [e2]; rfl) (by rw [e2]; rfl) (by rw [e2]; rfl) (by rw [e2]; rfl)⟩
theorem m_join (hun : un < 2 ^ 29) (ok : zOk (nt, lim, mem, wk, slow, r, L, A, tk, sp, cs)) (h : zrM S nt lim mem wk slow r L A tk sp cs un) : zMN G yX12_join kX12_join m [.int x, .int y, .int z] S (fun v S' => zB1 un (zPn nt lim mem wk slow r L A tk sp cs 5 (upd (upd (zD0 x y ((nt.getD x.toNatClampNeg zdf).2.2.1 3 * (nt.getD y.toNatClampNeg zdf).2.2.1 3) (if z < (nt.getD x.toNatClampNeg zdf).2.2.1 4 then (nt.getD x.toNatClampNeg zdf).2.2.1 4 else z)) 6 z) 12 (zLW nt b x y))) (zk_join nt x y z) (nt, lim, mem, wk, slow, r, L, A, tk, sp, cs) v S') := by
  obtain ⟨hw, hh, h14, hlim, hmem, hwk, hslow, hr, hL, hsz, htk, hcs, h01⟩ := ok
  refine zMN.mono (c_m_join hw h) fun v S' q => q.mono (fun hc q => ?_) id
  rintro u' w ⟨rfl, e, e1, e2, e3, rfl⟩
  have nb : ¬ (znob nt.length x = true ∨ znob nt.length y = true) := fun w => by rw [zk_join, if_pos w] at hc; exact nomatch hc
  have nz : ¬ (z < 1 ∨ 4 < z) := fun w => by rw [zk_join, if_neg nb, if_pos w] at hc; exact nomatch hc
  obtain ⟨i, hi0, rfl⟩ := znob_at (by omega) fun w => nb (Or.inl w)
  obtain ⟨j, hj0, rfl⟩ := znob_at (by omega) fun w => nb (Or.inr w)
  obtain ⟨p, p1, p2, rfl⟩ := nI_four (n := 4) (by decide) (fun w => nz (Or.inl w)) (Int32.not_lt.mp fun w => nz (Or.inr w))
  rw [nI_clamp (show i < 2 ^ 31 by omega), nI_clamp (show j < 2 ^ 31 by omega)] at q e2
  rw [nI_clamp (show p < 2 ^ 31 by omega)] at q
  obtain ⟨_, _, _, _, ⟨b1, -, w1, -, w3⟩, -⟩ := hw i _ (zget_of hi0)
  obtain ⟨_, _, _, _, ⟨c1, -⟩, -⟩ := hw j _ (zget_of hj0)
  rw [b1, c1, w1, pk_mul, zmx9 (by omega) (by omega)] at e2
  exact ⟨q.1, un, by omega, q.2 e e1 e3 (by rw [e2]; rfl) (by rw [e2]; rfl) (by rw [e2]; rfl) (by rw [e2]; rfl) (by rw [e2]; rfl) (by rw [e2]; rfl)⟩
end
