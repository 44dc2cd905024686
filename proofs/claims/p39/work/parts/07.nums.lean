/-! numbers: the share of a key, sets of nodes -/
theorem zrem {x d : Int32} (hd : 0 < d) : (x - x / d * d).toInt = x.toInt.tmod d.toInt := by
  have hd0 : 0 < d.toInt := by have := Int32.lt_iff_toInt_lt.mp hd; simpa using this
  have h1 : (x - x / d * d).toInt = (x.toInt - x.toInt.tdiv d.toInt * d.toInt).bmod 4294967296 := by
    rw [Int32.toInt_sub, Int32.toInt_mul, Int32.toInt_div]
    simp
  have h2 : d.toInt * (x.toInt.tdiv d.toInt) + x.toInt.tmod d.toInt = x.toInt := Int.mul_tdiv_add_tmod _ _
  rw [Int.mul_comm] at h2
  have h3 : x.toInt - x.toInt.tdiv d.toInt * d.toInt = x.toInt.tmod d.toInt := by omega
  have h4 := Int32.le_toInt x
  have h5 := Int32.toInt_lt x
  have h7 := Int32.toInt_lt d
  have h8 : (x % d).toInt = x.toInt.tmod d.toInt := Int32.toInt_mod _ _
  have h9 := Int32.le_toInt (x % d)
  have h10 := Int32.toInt_lt (x % d)
  rw [h1, h3, ← h8]
  exact Int.bmod_eq_of_le (by omega) (by omega)
theorem ztm_pos {a b : Int} (ha : 0 ≤ a) (hb : 0 < b) : 0 ≤ a.tmod b ∧ a.tmod b < b := ⟨Int.tmod_nonneg b ha, Int.tmod_lt_of_pos a hb⟩
theorem ztm_neg {a b : Int} (ha : a < 0) (hb : 0 < b) : a.tmod b ≤ 0 ∧ -b < a.tmod b := by
  have h := Int.neg_tmod (-a) b
  have h2 := Int.tmod_lt_of_pos (-a) hb
  have h3 := Int.tmod_nonneg b (show 0 ≤ -a by omega)
  rw [Int.neg_neg] at h
  omega
/-- the share of a key: the key modulo d, 0 or more -/
def zmd (x d : Int32) : Int32 := if x - x / d * d < 0 then x - x / d * d + d else x - x / d * d
theorem zlt0 (x : Int32) : x < 0 ↔ x.toInt < 0 := by
  rw [Int32.lt_iff_toInt_lt]
  simp
theorem zmd_in {x d : Int32} (hd : 0 < d) : 0 ≤ (zmd x d).toInt ∧ (zmd x d).toInt < d.toInt := by
  have hd0 : 0 < d.toInt := by have := Int32.lt_iff_toInt_lt.mp hd; simpa using this
  have hr := zrem (x := x) hd
  have h7 := Int32.toInt_lt d
  unfold zmd
  by_cases h : x - x / d * d < 0
  · rw [if_pos h]
    have h0 := (zlt0 _).mp h
    have hx : x.toInt < 0 := by
      rcases Int.lt_or_le x.toInt 0 with q | q
      · exact q
      · have := ztm_pos q hd0; omega
    have h2 := ztm_neg hx hd0
    rw [Int32.toInt_add, hr, Int.bmod_eq_of_le (by omega) (by omega)]
    omega
  · rw [if_neg h]
    have h0 : ¬ (x - x / d * d).toInt < 0 := fun q => h ((zlt0 _).mpr q)
    rw [hr] at h0 ⊢
    rcases Int.lt_or_le x.toInt 0 with q | q
    · have := ztm_neg q hd0; omega
    · have := ztm_pos q hd0; omega
theorem zmd_nI {x : Int32} {p : Nat} (h0 : 0 < p) (hp : p < 2 ^ 31) : ∃ q, q < p ∧ zmd x (nI p) = nI q := by
  have hd : (0 : Int32) < nI p := by have := nI_lt h0 hp; rwa [nI_0] at this
  have h := zmd_in (x := x) hd
  rw [nI_toInt hp] at h
  refine ⟨(zmd x (nI p)).toInt.toNat, by omega, ?_⟩
  apply Int32.toInt_inj.mp
  rw [nI_toInt (by omega)]
  omega
theorem zxor {x d : Int32} (hd : 0 < d) : 0 ≤ x ^^^ d ↔ ¬ x < 0 := by
  have hd0 : 0 < d.toInt := by have := Int32.lt_iff_toInt_lt.mp hd; simpa using this
  have m : ∀ z : Int32, z.toBitVec.msb = decide (z.toInt < 0) := fun z => BitVec.msb_eq_toInt
  have e : (x ^^^ d).toBitVec.msb = (x.toBitVec.msb ^^ d.toBitVec.msb) := by rw [Int32.toBitVec_xor, BitVec.msb_xor]
  rw [m, m, m, decide_eq_false (show ¬ d.toInt < 0 by omega), Bool.xor_false] at e
  have e2 : (x ^^^ d).toInt < 0 ↔ x.toInt < 0 := by simpa using e
  rw [zlt0, Int32.le_iff_toInt_le]
  have : (0 : Int32).toInt = 0 := rfl
  rw [this]
  omega
set_option maxRecDepth 100000 in
theorem c_floorMod {G : zG} {σ : zH} {nx : Nat} {x d : Int32} (hd : 0 < d) : zM G yJ9_floorMod_7cf53 kJ9_floorMod_7cf53 [.int x, .int d] σ nx (fun v σ' nx' => v = some (.int (zmd x d)) ∧ σ' = σ ∧ nx' = nx) := by
  refine zM.of (ls := [some (.int x), some (.int d), none]) (by decide +kernel) ⟨rfl, rfl, rfl⟩ (Nat.le_of_ble_eq_true rfl) (fun _ h => h) ?_
  have hd0 : 0 < d.toInt := by have := Int32.lt_iff_toInt_lt.mp hd; simpa using this
  have hdn : ¬ d = 0 := fun q => by rw [q] at hd; exact absurd hd (by decide)
  have hr := zrem (x := x) hd
  refine z_iload_n dJ9_floorMod_7cf53_0 rfl ?_
  refine z_iload_n dJ9_floorMod_7cf53_1 rfl ?_
  refine z_irem dJ9_floorMod_7cf53_2 hdn ?_
  refine z_istore_n dJ9_floorMod_7cf53_3 (by decide) ?_
  refine z_iload_n dJ9_floorMod_7cf53_4 rfl ?_
  refine z_iload_n dJ9_floorMod_7cf53_5 rfl ?_
  refine z_ixor dJ9_floorMod_7cf53_6 ?_
  refine z_if_ge (tgt := 18) dJ9_floorMod_7cf53_7 (by decide) (fun h7 => ?_) (fun h7 => ?_)
  · have hx := (zxor hd).mp h7
    have hn : ¬ x - x / d * d < 0 := fun q => by
      have q1 := (zlt0 _).mp q
      have q2 : ¬ x.toInt < 0 := fun z => hx ((zlt0 x).mpr z)
      have := ztm_pos (show 0 ≤ x.toInt by omega) hd0
      omega
    refine z_iload_n dJ9_floorMod_7cf53_18 rfl ?_
    exact z_iret dJ9_floorMod_7cf53_19 rfl (Nat.le_of_ble_eq_true rfl) (Nat.le_of_ble_eq_true rfl) ⟨by rw [zmd, if_neg hn], rfl, rfl⟩
  · have hx : x.toInt < 0 := by
      rcases Int.lt_or_le x.toInt 0 with q | q
      · exact q
      · exact absurd ((zxor hd).mpr (fun z => by have := (zlt0 x).mp z; omega)) h7
    have h2 := ztm_neg hx hd0
    refine z_iload_n dJ9_floorMod_7cf53_10 rfl ?_
    refine z_if_eq (tgt := 18) dJ9_floorMod_7cf53_11 (by decide) (fun h11 => ?_) (fun h11 => ?_)
    · refine z_iload_n dJ9_floorMod_7cf53_18 rfl ?_
      exact z_iret dJ9_floorMod_7cf53_19 rfl (Nat.le_of_ble_eq_true rfl) (Nat.le_of_ble_eq_true rfl) ⟨by rw [zmd, if_neg (by rw [h11]; decide)], rfl, rfl⟩
    · have hn : x - x / d * d < 0 := by
        rw [zlt0, hr]
        rcases Int.lt_or_le (x.toInt.tmod d.toInt) 0 with q | q
        · exact q
        · exact absurd (Int32.toInt_inj.mp (show (x - x / d * d).toInt = (0 : Int32).toInt by rw [hr]; show _ = (0 : Int); omega)) h11
      refine z_iload_n dJ9_floorMod_7cf53_14 rfl ?_
      refine z_iload_n dJ9_floorMod_7cf53_15 rfl ?_
      refine z_iadd dJ9_floorMod_7cf53_16 ?_
      exact z_iret dJ9_floorMod_7cf53_17 rfl (Nat.le_of_ble_eq_true rfl) (Nat.le_of_ble_eq_true rfl) ⟨by rw [zmd, if_pos hn], rfl, rfl⟩
set_option maxRecDepth 100000 in
/-- modulo: 0 for a divisor below 1 -/
theorem c_X11_modulo {G : zG} {σ : zH} {nx : Nat} {x d : Int32} (hd : 0 < d) : zM G yX11_modulo kX11_modulo [.int x, .int d] σ nx (fun v σ' nx' => v = some (.int (zmd x d)) ∧ σ' = σ ∧ nx' = nx) := by
  refine zM.of (ls := [some (.int x), some (.int d)]) (by decide +kernel) ⟨rfl, rfl, rfl⟩ (Nat.le_of_ble_eq_true rfl) (fun _ h => h) ?_
  have h1 : (1 : Int32) ≤ d := by
    have hd0 : 0 < d.toInt := by have := Int32.lt_iff_toInt_lt.mp hd; simpa using this
    rw [Int32.le_iff_toInt_le]
    show (1 : Int) ≤ _
    omega
  refine z_iload_n dX11_modulo_0 rfl ?_
  refine z_iconst (v := 1) dX11_modulo_1 (by decide) ?_
  refine z_icmp_ge (tgt := 9) dX11_modulo_2 (by decide) (fun _ => ?_) (fun q => absurd (h1) q)
  refine z_iload_n dX11_modulo_9 rfl ?_
  refine z_iload_n dX11_modulo_10 rfl ?_
  refine z_callS dX11_modulo_11 cv_X11_369 (c_floorMod hd) rfl rfl ⟨(Nat.le_of_ble_eq_true rfl), (Nat.le_of_ble_eq_true rfl)⟩ (Nat.le_of_ble_eq_true rfl) (Nat.le_of_ble_eq_true rfl) (Nat.le_of_ble_eq_true rfl) (fun v σ1 nx1 hx1 hq1 => ?_)
  obtain ⟨rfl, rfl, rfl⟩ := hq1
  exact z_iret dX11_modulo_14 rfl (Nat.le_of_ble_eq_true rfl) (Nat.le_of_ble_eq_true rfl) ⟨rfl, rfl, rfl⟩
-- sets of nodes
theorem zbt_has (s : Int32) (j : Nat) (hj : j < 14) : (s >>> (nI j &&& 31)) &&& 1 = if bt s j = true then 1 else 0 := by
  apply b_ext
  intro i hi
  rw [b_and, b_sshr j (by omega) s hi]
  have h1 : bt (1 : Int32) i = decide (i = 0) := (by decide +kernel : ∀ i, i < 32 → bt (1 : Int32) i = decide (i = 0)) i hi
  rw [h1]
  by_cases h0 : i = 0
  · subst h0
    rw [if_pos (by omega), Nat.add_zero]
    cases bt s j <;> decide +kernel
  · rw [decide_eq_false h0, Bool.and_false]
    by_cases hb : bt s j = true
    · rw [if_pos hb, h1, decide_eq_false h0]
    · rw [if_neg hb, b_0]
def zwith (s : Int32) (j : Nat) : Int32 := s ||| ((1 : Int32) <<< (nI j &&& 31))
theorem bt_with (s : Int32) {j i : Nat} (hj : j < 14) (hi : i < 32) : bt (zwith s j) i = (bt s i || decide (i = j)) := by
  unfold zwith
  rw [b_or, b_shl j (by omega) 1 hi]
  congr 1
  by_cases h : j ≤ i
  · have h1 : bt (1 : Int32) (i - j) = decide (i - j = 0) := (by decide +kernel : ∀ i, i < 32 → bt (1 : Int32) i = decide (i = 0)) (i - j) (by omega)
    rw [h1, decide_eq_true h, Bool.true_and]
    exact decide_eq_decide.mpr (by omega)
  · rw [decide_eq_false h, Bool.false_and, decide_eq_false (by omega)]
theorem bt_mask (s : Int32) {j i : Nat} (hj : j < 14) (hi : i < 32) : bt (s &&& (zwith 0 j ^^^ (-1))) i = (bt s i && !decide (i = j)) := by
  rw [b_and, b_xor, bt_with 0 hj hi, b_m1 i hi, b_0]
  simp
set_option maxRecDepth 100000 in
theorem c_X11_has {G : zG} {σ : zH} {nx j : Nat} {s : Int32} (hj : j < 14) : zM G yX11_has kX11_has [.int s, .int (nI j)] σ nx (fun v σ' nx' => v = some (.int (if bt s j = true then 1 else 0)) ∧ σ' = σ ∧ nx' = nx) := by
  refine zM.of (ls := [some (.int s), some (.int (nI j))]) (by decide +kernel) ⟨rfl, rfl, rfl⟩ (Nat.le_of_ble_eq_true rfl) (fun _ h => h) ?_
  refine z_iload_n dX11_has_0 rfl ?_
  refine z_if_lt (tgt := 22) dX11_has_1 (by decide) (fun q => absurd q (nI_pos (show j < 2 ^ 31 by omega))) (fun _ => ?_)
  refine z_iload_n dX11_has_4 rfl ?_
  refine z_bipush (v := 14) dX11_has_5 (by decide) ?_
  refine z_icmp_ge (tgt := 22) dX11_has_7 (by decide) (fun q => absurd q ((show ¬ nI 14 ≤ nI j from nI_ge hj (by omega)))) (fun _ => ?_)
  refine z_iload_n dX11_has_10 rfl ?_
  refine z_iload_n dX11_has_11 rfl ?_
  refine z_ishr dX11_has_12 ?_
  refine z_iconst (v := 1) dX11_has_13 (by decide) ?_
  refine z_iand dX11_has_14 ?_
  rw [zbt_has s j hj]
  refine z_if_eq (tgt := 22) dX11_has_15 (by decide) (fun h15 => ?_) (fun h15 => ?_)
  · have hb : ¬ bt s j = true := fun q => by rw [if_pos q] at h15; exact absurd h15 (by decide)
    refine z_iconst (v := 0) dX11_has_22 (by decide) ?_
    exact z_zret dX11_has_23 rfl rfl (Nat.le_of_ble_eq_true rfl) (Nat.le_of_ble_eq_true rfl) ⟨by rw [if_neg hb], rfl, rfl⟩
  · have hb : bt s j = true := by
      by_cases q : bt s j = true
      · exact q
      · rw [if_neg q] at h15; exact absurd rfl h15
    refine z_iconst (v := 1) dX11_has_18 (by decide) ?_
    refine z_goto (tgt := 23) dX11_has_19 (by decide) ?_
    exact z_zret dX11_has_23 rfl rfl (Nat.le_of_ble_eq_true rfl) (Nat.le_of_ble_eq_true rfl) ⟨by rw [if_pos hb], rfl, rfl⟩
set_option maxRecDepth 100000 in
theorem c_X11_with {G : zG} {σ : zH} {nx j : Nat} {s : Int32} (hj : j < 14) : zM G yX11_with kX11_with [.int s, .int (nI j)] σ nx (fun v σ' nx' => v = some (.int (zwith s j)) ∧ σ' = σ ∧ nx' = nx) := by
  refine zM.of (ls := [some (.int s), some (.int (nI j))]) (by decide +kernel) ⟨rfl, rfl, rfl⟩ (Nat.le_of_ble_eq_true rfl) (fun _ h => h) ?_
  refine z_iload_n dX11_with_0 rfl ?_
  refine z_if_lt (tgt := 18) dX11_with_1 (by decide) (fun q => absurd q (nI_pos (show j < 2 ^ 31 by omega))) (fun _ => ?_)
  refine z_iload_n dX11_with_4 rfl ?_
  refine z_bipush (v := 14) dX11_with_5 (by decide) ?_
  refine z_icmp_ge (tgt := 18) dX11_with_7 (by decide) (fun q => absurd q ((show ¬ nI 14 ≤ nI j from nI_ge hj (by omega)))) (fun _ => ?_)
  refine z_iload_n dX11_with_10 rfl ?_
  refine z_iconst (v := 1) dX11_with_11 (by decide) ?_
  refine z_iload_n dX11_with_12 rfl ?_
  refine z_ishl dX11_with_13 ?_
  refine z_ior dX11_with_14 ?_
  refine z_goto (tgt := 19) dX11_with_15 (by decide) ?_
  exact z_iret dX11_with_19 rfl (Nat.le_of_ble_eq_true rfl) (Nat.le_of_ble_eq_true rfl) ⟨rfl, rfl, rfl⟩
