/-! how many bits a word has -/
def zcn (s : Nat → Bool) : Nat → Nat
  | 0 => 0
  | n + 1 => zcn s n + (if s n then 1 else 0)
def zbc (n : Nat) : Nat :=
  let a := n - ((n / 2) &&& 1431655765)
  let b := (a &&& 858993459) + ((a / 4) &&& 858993459)
  let c := (b + b / 16) &&& 252645135
  let d := c + c / 256
  (d + d / 65536) &&& 63
theorem zbc_all : ∀ a, a < 128 → ∀ b, b < 128 → zbc (128 * a + b) = zcn (128 * a + b).testBit 14 := by decide +kernel
theorem zbc_eq {n : Nat} (h : n < 16384) : zbc n = zcn n.testBit 14 := by
  have := zbc_all (n / 128) (by omega) (n % 128) (by omega)
  rwa [show 128 * (n / 128) + n % 128 = n by omega] at this
theorem nI_and (a b : Nat) : nI a &&& nI b = nI (a &&& b) := by
  apply Int32.toBitVec_inj.mp
  show BitVec.ofNat 32 a &&& BitVec.ofNat 32 b = BitVec.ofNat 32 (a &&& b)
  exact BitVec.ofNat_and.symm
theorem zbc_half (n : Nat) : (n / 2) &&& 1431655765 ≤ n := Nat.le_trans Nat.and_le_left (by omega)
theorem zand_le (a m : Nat) : a &&& m ≤ m := Nat.and_le_right
/-- a word and the numbers that are in it -/
def zbits (x : Int32) (s : Nat → Bool) : Prop := (∀ j, j < 32 → bt x j = s j) ∧ ∀ j, 14 ≤ j → s j = false
theorem zbits_0 : zbits 0 (fun _ => false) := ⟨fun j _ => b_0 j, fun _ _ => rfl⟩
def zor (s : Nat → Bool) (j : Nat) : Nat → Bool := fun i => s i || decide (i = j)
theorem zbits_with {x : Int32} {s : Nat → Bool} {j : Nat} (h : zbits x s) (hj : j < 14) : zbits (zwith x j) (zor s j) := by
  refine ⟨fun i hi => ?_, fun i hi => ?_⟩
  · rw [bt_with x hj hi, h.1 i hi]; rfl
  · simp only [zor, h.2 i hi, decide_eq_false (show ¬ i = j by omega), Bool.or_self]
theorem zcn_ext {s t : Nat → Bool} : ∀ n, (∀ j, j < n → s j = t j) → zcn s n = zcn t n
  | 0, _ => rfl
  | n + 1, h => by rw [zcn, zcn, zcn_ext n fun j hj => h j (by omega), h n (by omega)]
theorem zbits_nat {x : Int32} {s : Nat → Bool} (h : zbits x s) : ∃ n, n < 16384 ∧ x = nI n ∧ ∀ j, j < 14 → n.testBit j = s j := by
  refine ⟨x.toBitVec.toNat, ?_, ?_, fun j hj => ?_⟩
  · refine Nat.lt_pow_two_of_testBit (n := 14) _ fun j hj => ?_
    by_cases q : j < 32
    · have e := h.1 j q
      rw [h.2 j (by omega)] at e
      exact e
    · exact Nat.testBit_lt_two_pow (Nat.lt_of_lt_of_le x.toBitVec.isLt (Nat.pow_le_pow_right (by decide) (by omega)))
  · apply Int32.toBitVec_inj.mp
    show x.toBitVec = BitVec.ofNat 32 x.toBitVec.toNat
    rw [BitVec.ofNat_toNat, BitVec.setWidth_eq]
  · rw [← h.1 j (by omega)]
    rfl
set_option maxRecDepth 100000 in
theorem c_bitCount {G : zG} {σ : zH} {nx : Nat} {x : Int32} {s : Nat → Bool} (h : zbits x s) : zM G yJ6_bitCount_0f7a4 kJ6_bitCount_0f7a4 [.int x] σ nx (fun v σ' nx' => v = some (.int (nI (zcn s 14))) ∧ σ' = σ ∧ nx' = nx) := by
  obtain ⟨n, hn, rfl, hb⟩ := zbits_nat h
  refine zM.of (ls := [some (.int (nI n))]) (by decide +kernel) ⟨rfl, rfl, rfl⟩ (Nat.le_of_ble_eq_true rfl) (fun _ h => h) ?_
  have p1 := zbc_half n
  obtain ⟨a, ha⟩ : ∃ z, z = n - ((n / 2) &&& 1431655765) := ⟨_, rfl⟩
  obtain ⟨b, hb2⟩ : ∃ z, z = (a &&& 858993459) + ((a / 4) &&& 858993459) := ⟨_, rfl⟩
  have b1 := zand_le a 858993459
  have b2 := zand_le (a / 4) 858993459
  obtain ⟨c, hc⟩ : ∃ z, z = (b + b / 16) &&& 252645135 := ⟨_, rfl⟩
  have c1 := zand_le (b + b / 16) 252645135
  obtain ⟨d, hd⟩ : ∃ z, z = c + c / 256 := ⟨_, rfl⟩
  have hz : (d + d / 65536) &&& 63 = zcn s 14 := by
    rw [← zcn_ext 14 hb, ← zbc_eq hn, hd, hc, hb2, ha]
    rfl
  refine z_iload_n dJ6_bitCount_0f7a4_0 rfl ?_
  refine z_iload_n dJ6_bitCount_0f7a4_1 rfl ?_
  refine z_iconst (v := 1) dJ6_bitCount_0f7a4_2 (by decide) ?_
  refine z_iushr dJ6_bitCount_0f7a4_3 (pk_ushrN (by omega) 1 1 (by decide)) ?_
  refine z_ldc_w dJ6_bitCount_0f7a4_4 lc_J6_265 ?_
  refine z_iand dJ6_bitCount_0f7a4_7 ?_
  rw [show (1431655765 : Int32) = nI 1431655765 from rfl, nI_and, Nat.pow_one]
  refine z_isub dJ6_bitCount_0f7a4_8 ?_
  rw [pk_sub p1, ← ha]
  refine z_istore_n dJ6_bitCount_0f7a4_9 (by decide) ?_
  refine z_iload_n dJ6_bitCount_0f7a4_10 rfl ?_
  refine z_ldc_w dJ6_bitCount_0f7a4_11 lc_J6_266 ?_
  refine z_iand dJ6_bitCount_0f7a4_14 ?_
  rw [show (858993459 : Int32) = nI 858993459 from rfl, nI_and]
  refine z_iload_n dJ6_bitCount_0f7a4_15 rfl ?_
  refine z_iconst (v := 2) dJ6_bitCount_0f7a4_16 (by decide) ?_
  refine z_iushr dJ6_bitCount_0f7a4_17 (pk_ushrN (by omega) 2 2 (by decide)) ?_
  refine z_ldc_w dJ6_bitCount_0f7a4_18 lc_J6_266 ?_
  refine z_iand dJ6_bitCount_0f7a4_21 ?_
  rw [show (858993459 : Int32) = nI 858993459 from rfl, nI_and, show (2 : Nat) ^ 2 = 4 from rfl]
  refine z_iadd dJ6_bitCount_0f7a4_22 ?_
  rw [nI_add, ← hb2]
  refine z_istore_n dJ6_bitCount_0f7a4_23 (by decide) ?_
  refine z_iload_n dJ6_bitCount_0f7a4_24 rfl ?_
  refine z_iload_n dJ6_bitCount_0f7a4_25 rfl ?_
  refine z_iconst (v := 4) dJ6_bitCount_0f7a4_26 (by decide) ?_
  refine z_iushr dJ6_bitCount_0f7a4_27 (pk_ushrN (by omega) 4 4 (by decide)) ?_
  refine z_iadd dJ6_bitCount_0f7a4_28 ?_
  refine z_ldc_w dJ6_bitCount_0f7a4_29 lc_J6_267 ?_
  refine z_iand dJ6_bitCount_0f7a4_32 ?_
  rw [nI_add, show (252645135 : Int32) = nI 252645135 from rfl, nI_and, show (2 : Nat) ^ 4 = 16 from rfl, ← hc]
  refine z_istore_n dJ6_bitCount_0f7a4_33 (by decide) ?_
  refine z_iload_n dJ6_bitCount_0f7a4_34 rfl ?_
  refine z_iload_n dJ6_bitCount_0f7a4_35 rfl ?_
  refine z_bipush (v := 8) dJ6_bitCount_0f7a4_36 (by decide) ?_
  refine z_iushr dJ6_bitCount_0f7a4_38 (pk_ushrN (by omega) 8 8 (by decide)) ?_
  refine z_iadd dJ6_bitCount_0f7a4_39 ?_
  rw [nI_add, show (2 : Nat) ^ 8 = 256 from rfl, ← hd]
  refine z_istore_n dJ6_bitCount_0f7a4_40 (by decide) ?_
  refine z_iload_n dJ6_bitCount_0f7a4_41 rfl ?_
  refine z_iload_n dJ6_bitCount_0f7a4_42 rfl ?_
  refine z_bipush (v := 16) dJ6_bitCount_0f7a4_43 (by decide) ?_
  refine z_iushr dJ6_bitCount_0f7a4_45 (pk_ushrN (by omega) 16 16 (by decide)) ?_
  refine z_iadd dJ6_bitCount_0f7a4_46 ?_
  refine z_istore_n dJ6_bitCount_0f7a4_47 (by decide) ?_
  refine z_iload_n dJ6_bitCount_0f7a4_48 rfl ?_
  refine z_bipush (v := 63) dJ6_bitCount_0f7a4_49 (by decide) ?_
  refine z_iand dJ6_bitCount_0f7a4_51 ?_
  rw [nI_add, show (63 : Int32) = nI 63 from rfl, nI_and, show (2 : Nat) ^ 16 = 65536 from rfl, hz]
  exact z_iret dJ6_bitCount_0f7a4_52 rfl (Nat.le_of_ble_eq_true rfl) (Nat.le_of_ble_eq_true rfl) ⟨rfl, rfl, rfl⟩
