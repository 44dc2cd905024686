/-! rows that hold small things: ints in fixed places, numbers -/
section
variable {G : zG} {k : zK} {F : zF} {pc nx ca sl : Nat} {ls : zL} {st : List Value} {σ : zH}
theorem z_inc1 {i : Nat} {x : Int32} (d : decode k.2.1 pc = .ok (.iinc i 1, 3)) (hi : ls[i]? = some (some (.int x))) (hn : i < k.2.2.1)
    (kk : zWP G k F (pc + 3) (zset ls i (.int (x + 1))) st σ nx ca sl) : zWP G k F pc ls st σ nx ca sl := z_iinc d hi rfl hn kk
theorem z_dec1 {i : Nat} {x : Int32} (d : decode k.2.1 pc = .ok (.iinc i (-1), 3)) (hi : ls[i]? = some (some (.int x))) (hn : i < k.2.2.1)
    (kk : zWP G k F (pc + 3) (zset ls i (.int (x + (-1)))) st σ nx ca sl) : zWP G k F pc ls st σ nx ca sl := z_iinc d hi rfl hn kk
end
/-! ===== Int32 by its bits: bt x i ===== -/
def bt (x : Int32) (i : Nat) : Bool := x.toBitVec.getLsbD i
theorem b_ext {x y : Int32} (h : ∀ i, i < 32 → bt x i = bt y i) : x = y := Int32.toBitVec_inj.mp (BitVec.eq_of_getLsbD_eq (fun i hi => h i hi))
theorem b_or (x y : Int32) (i : Nat) : bt (x ||| y) i = (bt x i || bt y i) := by unfold bt; rw [Int32.toBitVec_or, BitVec.getLsbD_or]
theorem b_and (x y : Int32) (i : Nat) : bt (x &&& y) i = (bt x i && bt y i) := by unfold bt; rw [Int32.toBitVec_and, BitVec.getLsbD_and]
theorem b_xor (x y : Int32) (i : Nat) : bt (x ^^^ y) i = (bt x i ^^ bt y i) := by unfold bt; rw [Int32.toBitVec_xor, BitVec.getLsbD_xor]
theorem b_big {x : Int32} {i : Nat} (h : 32 ≤ i) : bt x i = false := BitVec.getLsbD_of_ge _ _ h
theorem b_255 (i : Nat) : bt 255 i = decide (i < 8) := by
  rcases Nat.lt_or_ge i 32 with h | h
  · exact (by decide +kernel : ∀ i, i < 32 → bt 255 i = decide (i < 8)) i h
  · rw [b_big h, decide_eq_false (by omega)]
theorem b_65535 (i : Nat) : bt 65535 i = decide (i < 16) := by
  rcases Nat.lt_or_ge i 32 with h | h
  · exact (by decide +kernel : ∀ i, i < 32 → bt 65535 i = decide (i < 16)) i h
  · rw [b_big h, decide_eq_false (by omega)]
theorem b_m1 : ∀ i, i < 32 → bt (-1) i = true := by decide +kernel
theorem b_0 (i : Nat) : bt 0 i = false := BitVec.getLsbD_zero
theorem s_l : ∀ n, n < 32 → ((nI n &&& 31).toBitVec.smod 32).toNat = n := by decide +kernel
theorem s_u : ∀ n, n < 32 → (((nI n).toUInt32 &&& Int32.toUInt32 31).toBitVec % 32).toNat = n := by decide +kernel
theorem b_shl (n : Nat) (hn : n < 32) (x : Int32) {i : Nat} (hi : i < 32) : bt (x <<< (nI n &&& 31)) i = (decide (n ≤ i) && bt x (i - n)) := by
  unfold bt
  rw [Int32.toBitVec_shiftLeft]
  show (x.toBitVec <<< ((nI n &&& 31).toBitVec.smod 32).toNat).getLsbD i = _
  rw [s_l n hn, BitVec.getLsbD_shiftLeft]
  rcases Nat.lt_or_ge i n with h | h
  · simp [h, Nat.not_le.mpr h]
  · simp [hi, h, Nat.not_lt.mpr h]
theorem b_ushr (n : Nat) (hn : n < 32) (x : Int32) (i : Nat) : bt ((x.toUInt32 >>> ((nI n).toUInt32 &&& Int32.toUInt32 31)).toInt32) i = bt x (n + i) := by
  show (x.toUInt32 >>> ((nI n).toUInt32 &&& Int32.toUInt32 31)).toBitVec.getLsbD i = x.toUInt32.toBitVec.getLsbD (n + i)
  rw [UInt32.toBitVec_shiftRight]
  show (x.toUInt32.toBitVec >>> (((nI n).toUInt32 &&& Int32.toUInt32 31).toBitVec % 32).toNat).getLsbD i = _
  rw [s_u n hn, BitVec.getLsbD_ushiftRight]
theorem b_sshr (n : Nat) (hn : n < 32) (x : Int32) {i : Nat} (hi : i < 32) : bt (x >>> (nI n &&& 31)) i = if n + i < 32 then bt x (n + i) else bt x 31 := by
  unfold bt
  rw [Int32.toBitVec_shiftRight]
  show (x.toBitVec.sshiftRight ((nI n &&& 31).toBitVec.smod 32).toNat).getLsbD i = _
  rw [s_l n hn, BitVec.getLsbD_sshiftRight, BitVec.msb_eq_getLsbD_last]
  simp [hi]
theorem b_shl8 (x : Int32) {i : Nat} (hi : i < 32) : bt (x <<< ((8 : Int32) &&& 31)) i = (decide (8 ≤ i) && bt x (i - 8)) := b_shl 8 (by omega) x hi
theorem b_shl16 (x : Int32) {i : Nat} (hi : i < 32) : bt (x <<< ((16 : Int32) &&& 31)) i = (decide (16 ≤ i) && bt x (i - 16)) := b_shl 16 (by omega) x hi
theorem b_shl24 (x : Int32) {i : Nat} (hi : i < 32) : bt (x <<< ((24 : Int32) &&& 31)) i = (decide (24 ≤ i) && bt x (i - 24)) := b_shl 24 (by omega) x hi
theorem b_sshr8 (x : Int32) {i : Nat} (hi : i < 32) : bt (x >>> ((8 : Int32) &&& 31)) i = if 8 + i < 32 then bt x (8 + i) else bt x 31 := b_sshr 8 (by omega) x hi
/-! ===== nI under and, xor, >>>, one bit, 65535 ===== -/
-- arrays behind Ints
set_option maxRecDepth 100000 in
theorem zWint : Cond.arrayClass (newarray.typeOf .int) ∈ zW := (zW_in (zTp1 (i := 98) rfl) rfl)
def zrd (f : Nat → Int32) (n : Nat) (i : Int32) : Int32 := if i < 0 ∨ n ≤ i.toNatClampNeg then 0 else f i.toNatClampNeg
def zwr (f : Nat → Int32) (n : Nat) (i x : Int32) : Nat → Int32 := if i < 0 ∨ n ≤ i.toNatClampNeg then f else upd f i.toNatClampNeg x
theorem zrd_nI {f : Nat → Int32} {n j : Nat} (h : j < n) (hj : j < 2 ^ 31) : zrd f n (nI j) = f j := by
  have h1 : ¬ nI j < 0 := nI_pos hj
  simp only [zrd, nI_clamp hj]
  rw [if_neg (by rintro (q | q); exact h1 q; omega)]
theorem zrd_out {f : Nat → Int32} {n j : Nat} (h : n ≤ j) (hj : j < 2 ^ 31) : zrd f n (nI j) = 0 := by
  simp only [zrd, nI_clamp hj]
  rw [if_pos (Or.inr h)]
theorem zrd_neg {f : Nat → Int32} {n : Nat} {i : Int32} (h : i < 0) : zrd f n i = 0 := by
  simp only [zrd]
  rw [if_pos (Or.inl h)]
theorem zwr_nI {f : Nat → Int32} {n j : Nat} {x : Int32} (h : j < n) (hj : j < 2 ^ 31) : zwr f n (nI j) x = upd f j x := by
  have h1 : ¬ nI j < 0 := nI_pos hj
  simp only [zwr, nI_clamp hj]
  rw [if_neg (by rintro (q | q); exact h1 q; omega)]
theorem zwr_out {f : Nat → Int32} {n j : Nat} {x : Int32} (h : n ≤ j) (hj : j < 2 ^ 31) : zwr f n (nI j) x = f := by
  simp only [zwr, nI_clamp hj]
  rw [if_pos (Or.inr h)]
theorem zin {i : Int32} {n : Nat} (hn : n < 2 ^ 31) (h1 : ¬ i < 0) (h2 : ¬ Int32.ofNat n ≤ i) : vp_in i n := by
  obtain ⟨j, hj, rfl⟩ := nI_of h1
  refine vp_in_nI ?_ hn
  rcases Nat.lt_or_ge j n with h | h
  · exact h
  · exact absurd (nI_le h hj) h2
theorem zout {i : Int32} {n : Nat} (hn : n < 2 ^ 31) (h1 : ¬ i < 0) (h2 : Int32.ofNat n ≤ i) : n ≤ i.toNatClampNeg := by
  obtain ⟨j, hj, rfl⟩ := nI_of h1
  rw [nI_clamp hj]
  exact (nI_leI hn hj).mp h2
theorem zrd_in {f : Nat → Int32} {i : Int32} {n : Nat} (h : vp_in i n) : zrd f n i = f i.toNatClampNeg := if_neg h
theorem zwr_in {f : Nat → Int32} {i x : Int32} {n : Nat} (h : vp_in i n) : zwr f n i x = upd f i.toNatClampNeg x := if_neg h
def zInts (G : zG) (σ : zH) (a n : Nat) (f : Nat → Int32) : Prop := σ a = some (.inr (5, [.ref (a + 1)])) ∧ σ (a + 1) = some (zI G n f)
theorem zInts.fr {G : zG} {σ σ' : zH} {a n : Nat} {f : Nat → Int32} (h : zInts G σ a n f) (hf : ∀ b, a ≤ b → b < a + 2 → σ' b = σ b) : zInts G σ' a n f := ⟨(hf a (by omega) (by omega)).trans h.1, (hf (a + 1) (by omega) (by omega)).trans h.2⟩
set_option maxRecDepth 100000 in
/-- Ints.at -/
theorem c_X4_at {G : zG} {σ : zH} {nx a n : Nat} {f : Nat → Int32} {i : Int32} (h : zInts G σ a n f) (hn : n < 2 ^ 31) : zM G yX4_at kX4_at [.ref a, .int i] σ nx (fun v σ' nx' => v = some (.int (zrd f n i)) ∧ σ' = σ ∧ nx' = nx) := by
  refine zM.of (ls := [some (.ref a), some (.int i)]) (by decide +kernel) ⟨rfl, rfl, rfl⟩ (Nat.le_of_ble_eq_true rfl) (fun _ h => h) ?_
  obtain ⟨h1, h2⟩ := h
  refine z_iload_n dX4_at_0 rfl ?_
  refine z_if_lt (tgt := 22) dX4_at_1 (by decide) (fun g1 => ?_) (fun g1 => ?_)
  · refine z_iconst (v := 0) dX4_at_22 (by decide) ?_
    exact z_iret dX4_at_23 rfl (Nat.le_of_ble_eq_true rfl) (Nat.le_of_ble_eq_true rfl) ⟨by rw [zrd_neg g1], rfl, rfl⟩
  · refine z_iload_n dX4_at_4 rfl ?_
    refine z_aload_n dX4_at_5 rfl ?_
    refine z_getf dX4_at_6 fl_X4_13 h1 rfl ?_
    refine z_alen (t0 := 0) dX4_at_9 h2 rfl rfl ?_
    refine z_icmp_ge (tgt := 22) dX4_at_10 (by decide) (fun h10 => ?_) (fun h10 => ?_)
    · refine z_iconst (v := 0) dX4_at_22 (by decide) ?_
      exact z_iret dX4_at_23 rfl (Nat.le_of_ble_eq_true rfl) (Nat.le_of_ble_eq_true rfl) ⟨by rw [zrd, if_pos (Or.inr (zout hn g1 h10))], rfl, rfl⟩
    · refine z_aload_n dX4_at_13 rfl ?_
      refine z_getf dX4_at_14 fl_X4_13 h1 rfl ?_
      refine z_iload_n dX4_at_17 rfl ?_
      refine z_iald dX4_at_18 h2 (zin hn g1 h10) ?_
      refine z_goto (tgt := 23) dX4_at_19 (by decide) ?_
      exact z_iret dX4_at_23 rfl (Nat.le_of_ble_eq_true rfl) (Nat.le_of_ble_eq_true rfl) ⟨by rw [zrd_in (zin hn g1 h10)], rfl, rfl⟩
set_option maxRecDepth 100000 in
/-- Ints.set -/
theorem c_X4_set {G : zG} {σ : zH} {nx a n : Nat} {f : Nat → Int32} {i x : Int32} (h : zInts G σ a n f) (hn : n < 2 ^ 31) : zM G yX4_set kX4_set [.ref a, .int i, .int x] σ nx (fun v σ' nx' => v = none ∧ zInts G σ' a n (zwr f n i x) ∧ (∀ b, b ≠ a + 1 → σ' b = σ b) ∧ nx' = nx) := by
  refine zM.of (ls := [some (.ref a), some (.int i), some (.int x)]) (by decide +kernel) ⟨rfl, rfl, rfl⟩ (Nat.le_of_ble_eq_true rfl) (fun _ h => h) ?_
  obtain ⟨h1, h2⟩ := h
  refine z_iload_n dX4_set_0 rfl ?_
  refine z_if_lt (tgt := 20) dX4_set_1 (by decide) (fun g1 => ?_) (fun g1 => ?_)
  · exact z_vret dX4_set_20 rfl (Nat.le_of_ble_eq_true rfl) (Nat.le_of_ble_eq_true rfl) ⟨rfl, by rw [zwr, if_pos (Or.inl g1)]; exact ⟨h1, h2⟩, fun _ _ => rfl, rfl⟩
  · refine z_iload_n dX4_set_4 rfl ?_
    refine z_aload_n dX4_set_5 rfl ?_
    refine z_getf dX4_set_6 fl_X4_13 h1 rfl ?_
    refine z_alen (t0 := 0) dX4_set_9 h2 rfl rfl ?_
    refine z_icmp_ge (tgt := 20) dX4_set_10 (by decide) (fun h10 => ?_) (fun h10 => ?_)
    · exact z_vret dX4_set_20 rfl (Nat.le_of_ble_eq_true rfl) (Nat.le_of_ble_eq_true rfl) ⟨rfl, by rw [zwr, if_pos (Or.inr (zout hn g1 h10))]; exact ⟨h1, h2⟩, fun _ _ => rfl, rfl⟩
    · refine z_aload_n dX4_set_13 rfl ?_
      refine z_getf dX4_set_14 fl_X4_13 h1 rfl ?_
      refine z_iload_n dX4_set_17 rfl ?_
      refine z_iload_n dX4_set_18 rfl ?_
      refine z_iast dX4_set_19 h2 (zin hn g1 h10) ?_
      exact z_vret dX4_set_20 rfl (Nat.le_of_ble_eq_true rfl) (Nat.le_of_ble_eq_true rfl) ⟨rfl, by rw [zwr_in (zin hn g1 h10)]; exact ⟨(zu_ne (by omega)).trans h1, zu_eq _ _ _⟩, fun b hb => zu_ne hb, rfl⟩
set_option maxRecDepth 100000 in
theorem c_max {G : zG} {σ : zH} {nx : Nat} {x y : Int32} : zM G yJ9_max_7cf53 kJ9_max_7cf53 [.int x, .int y] σ nx (fun v σ' nx' => v = some (.int (if x < y then y else x)) ∧ σ' = σ ∧ nx' = nx) := by
  refine zM.of (ls := [some (.int x), some (.int y)]) (by decide +kernel) ⟨rfl, rfl, rfl⟩ (Nat.le_of_ble_eq_true rfl) (fun _ h => h) ?_
  refine z_iload_n dJ9_max_7cf53_0 rfl ?_
  refine z_iload_n dJ9_max_7cf53_1 rfl ?_
  refine z_icmp_lt (tgt := 9) dJ9_max_7cf53_2 (by decide) (fun g => ?_) (fun g => ?_)
  · refine z_iload_n dJ9_max_7cf53_9 rfl ?_
    exact z_iret dJ9_max_7cf53_10 rfl (Nat.le_of_ble_eq_true rfl) (Nat.le_of_ble_eq_true rfl) ⟨by rw [if_pos g], rfl, rfl⟩
  · refine z_iload_n dJ9_max_7cf53_5 rfl ?_
    refine z_goto (tgt := 10) dJ9_max_7cf53_6 (by decide) ?_
    exact z_iret dJ9_max_7cf53_10 rfl (Nat.le_of_ble_eq_true rfl) (Nat.le_of_ble_eq_true rfl) ⟨by rw [if_neg g], rfl, rfl⟩
set_option maxRecDepth 100000 in
theorem c_min {G : zG} {σ : zH} {nx : Nat} {x y : Int32} : zM G yJ9_min_7cf53 kJ9_min_7cf53 [.int x, .int y] σ nx (fun v σ' nx' => v = some (.int (if y < x then y else x)) ∧ σ' = σ ∧ nx' = nx) := by
  refine zM.of (ls := [some (.int x), some (.int y)]) (by decide +kernel) ⟨rfl, rfl, rfl⟩ (Nat.le_of_ble_eq_true rfl) (fun _ h => h) ?_
  refine z_iload_n dJ9_min_7cf53_0 rfl ?_
  refine z_iload_n dJ9_min_7cf53_1 rfl ?_
  refine z_icmp_gt (tgt := 9) dJ9_min_7cf53_2 (by decide) (fun g => ?_) (fun g => ?_)
  · refine z_iload_n dJ9_min_7cf53_9 rfl ?_
    exact z_iret dJ9_min_7cf53_10 rfl (Nat.le_of_ble_eq_true rfl) (Nat.le_of_ble_eq_true rfl) ⟨by rw [if_pos g], rfl, rfl⟩
  · refine z_iload_n dJ9_min_7cf53_5 rfl ?_
    refine z_goto (tgt := 10) dJ9_min_7cf53_6 (by decide) ?_
    exact z_iret dJ9_min_7cf53_10 rfl (Nat.le_of_ble_eq_true rfl) (Nat.le_of_ble_eq_true rfl) ⟨by rw [if_neg g], rfl, rfl⟩
set_option maxRecDepth 100000 in
/-- Ints(n), n not negative -/
theorem c_X4_init {G : zG} {σ : zH} {a n : Nat} (h : σ a = some (.inr (5, [.null]))) (hn : n ≤ 300) : zM G yX4_init kX4_init [.ref a, .int (nI n)] σ (a + 1) (fun v σ' nx' => v = none ∧ zInts G σ' a n (fun _ => 0) ∧ (∀ b, b ≠ a → b ≠ a + 1 → σ' b = σ b) ∧ nx' = a + 2) := by
  refine zM.of (ls := [some (.ref a), some (.int (nI n))]) (by decide +kernel) ⟨rfl, rfl, rfl⟩ (Nat.le_of_ble_eq_true rfl) (fun _ h => h) ?_
  refine z_aload_n dX4_init_0 rfl ?_
  refine z_objInit dX4_init_1 cv_X4_1 (Nat.le_of_ble_eq_true rfl) (Nat.le_of_ble_eq_true rfl) ?_
  refine z_aload_n dX4_init_4 rfl ?_
  refine z_iconst (v := 0) dX4_init_5 (by decide) ?_
  refine z_iload_n dX4_init_6 rfl ?_
  refine z_callS dX4_init_7 cv_X4_7 c_max rfl rfl ⟨(Nat.le_of_ble_eq_true rfl), (Nat.le_of_ble_eq_true rfl)⟩ (Nat.le_of_ble_eq_true rfl) (Nat.le_of_ble_eq_true rfl) (Nat.le_of_ble_eq_true rfl) (fun v σ1 nx1 hx1 hq1 => ?_)
  obtain ⟨rfl, rfl, rfl⟩ := hq1
  have h0 : ¬ (0 : Int32) < nI n → nI n = 0 := fun q => by
    rcases Nat.eq_zero_or_pos n with e | e
    · rw [e]; rfl
    · exact absurd (by have := nI_lt e (show n < 2 ^ 31 by omega); rwa [nI_0] at this) q
  have e0 : (if (0 : Int32) < nI n then nI n else 0) = nI n := by
    by_cases q : (0 : Int32) < nI n
    · rw [if_pos q]
    · rw [if_neg q, h0 q]
  rw [e0]
  refine z_newa (at_ := .int) (t0 := 0) (N := n) (x := (n, .inl (fun _ => 0))) dX4_init_10 zWint rfl rfl (nI_pos (by omega)) (nI_clamp (by omega)) (by show n * 4 ≤ _; omega) (Nat.le_of_ble_eq_true rfl) (by show 0 + 0 + n ≤ 300; omega) ?_
  refine z_putF dX4_init_12 ff_X4_13 rfl ((zu_ne (by omega)).trans h) rfl rfl (Nat.le_of_ble_eq_true rfl) ?_
  refine z_vret dX4_init_15 rfl (Nat.le_of_ble_eq_true rfl) (by show 0 + 0 + n ≤ 300; omega) ⟨rfl, ⟨zu_eq _ _ _, (zu_ne (by omega)).trans (zu_eq _ _ _)⟩, fun b h1 h2 => (zu_ne h1).trans (zu_ne h2), rfl⟩
