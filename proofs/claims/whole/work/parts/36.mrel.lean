-- model
/-! the model: what its registers say; its small methods -/
def zmH (S : zMS) (i : Nat) (P : List zP2) : Prop := S.2 12 i = nI P.length ∧ (∀ p, p ≤ P.length → S.2 13 (9 * i + p) = nI (P.take p).flatten.length) ∧ ∀ (k : Nat) (q : Int32 × Int32), P.flatten[k]? = some q → S.2 14 (300 * i + k) = q.1 ∧ S.2 15 (300 * i + k) = q.2
def zrE (S : zMS) (i : Nat) (e : zNX) : Prop := S.2 0 i = nI e.2.1 ∧ (1 ≤ e.2.1 → S.2 1 i = e.2.2.1 1) ∧ (e.2.1 = 3 ∨ e.2.1 = 5 → S.2 2 i = e.2.2.1 2) ∧ (e.2.1 = 1 ∨ e.2.1 = 4 → S.2 3 i = e.2.2.1 7) ∧ (e.2.1 = 1 → S.2 4 i = e.2.2.1 8) ∧ (e.2.1 = 2 → S.2 4 i = e.2.2.1 9 ∧ S.2 5 i = e.2.2.1 10) ∧ (e.2.1 = 0 ∨ e.2.1 = 4 ∨ e.2.1 = 5 → S.2 6 i = e.2.2.1 6) ∧ S.2 7 i = e.2.2.1 3 ∧ S.2 8 i = e.2.2.1 4 ∧ S.2 9 i = nI e.2.2.2.length ∧ (∀ (k : Nat) (q : Int32 × Int32), e.2.2.2[k]? = some q → S.2 10 (12 * i + k) = q.1 ∧ S.2 11 (12 * i + k) = q.2) ∧ S.2 17 i = e.2.2.1 11 ∧ (e.2.2.1 11 = 0 ∨ e.2.2.1 11 = 1)
def zrN (S : zMS) (nt : zNT) : Prop := S.1 0 = nI nt.length ∧ nt.length ≤ 14 ∧ (∀ (i : Nat) (e : zNX), nt[i]? = some e → zrE S i e) ∧ ∀ i, nt.length ≤ i → i < 14 → S.2 9 i = 0 ∧ S.2 17 i = 0
def zrH (S : zMS) (lim : Nat) (nt : zNT) : Prop := (S.1 1 = 0 ∨ S.1 1 = 1) ∧ (S.1 1 = 1 → ∀ i, i < nt.length → zmH S i (zct lim nt i))
def zrS (S : zMS) (lim mem wk : Nat) (slow : Nat → Nat) (r : Nat) : Prop := S.1 2 = nI lim ∧ S.1 3 = nI mem ∧ S.1 4 = nI wk ∧ S.1 5 = nI r ∧ ∀ k, k < 4 → S.2 16 k = nI (slow k)
def zrC (S : zMS) (L : zNS) (un : Nat) : Prop := (∀ k, k < 14 → S.2 18 k = if zcd L k = true then 1 else 0) ∧ S.1 6 = nI un ∧ ∃ u : Nat → Nat, (∀ (i : Nat) (q : Nat × Nat), L[i]? = some q → S.2 19 q.1 = nI (u q.1) ∧ u q.1 ≤ un) ∧ ∀ (i j : Nat) (a b : Nat × Nat), i < j → L[i]? = some a → L[j]? = some b → u a.1 < u b.1
def zrA (S : zMS) (k : Nat) (a : zAE) : Prop := S.2 23 k = zAc a 0 ∧ S.2 24 k = zAc a 1 ∧ S.2 25 k = zAc a 2 ∧ S.2 26 k = zAc a 3 ∧ S.2 27 k = zAc a 4 ∧ S.2 28 k = zAc a 5
def zrL (S : zMS) (A : List zAE) (tk sp cs : Nat) : Prop := S.1 7 = nI tk ∧ S.1 8 = nI sp ∧ S.1 9 = nI cs ∧ S.1 10 = nI A.length ∧ A.length ≤ 224 ∧ ∀ (k : Nat) (a : zAE), A[k]? = some a → zrA S k a
def zrM (S : zMS) (nt : zNT) (lim mem wk : Nat) (slow : Nat → Nat) (r : Nat) (L : zNS) (A : List zAE) (tk sp cs un : Nat) : Prop := zrN S nt ∧ zrH S lim nt ∧ zrS S lim mem wk slow r ∧ zrC S L un ∧ zrL S A tk sp cs
section
variable {S S' : zMS}
theorem zrE.cg {i : Nat} {e : zNX} (h : zrE S i e) (hA : ∀ j, j < 12 ∨ j = 17 → S'.2 j = S.2 j) : zrE S' i e := by
  unfold zrE at *
  rw [hA 0 (by decide), hA 1 (by decide), hA 2 (by decide), hA 3 (by decide), hA 4 (by decide), hA 5 (by decide), hA 6 (by decide), hA 7 (by decide), hA 8 (by decide), hA 9 (by decide), hA 10 (by decide), hA 11 (by decide), hA 17 (by decide)]
  exact h
theorem zrN.cg {nt : zNT} (h : zrN S nt) (h0 : S'.1 0 = S.1 0) (hA : ∀ j, j < 12 ∨ j = 17 → S'.2 j = S.2 j) : zrN S' nt := ⟨h0.trans h.1, h.2.1, fun i e he => (h.2.2.1 i e he).cg hA, fun i a b => by rw [hA 9 (by decide), hA 17 (by decide)]; exact h.2.2.2 i a b⟩
theorem zmH.cg {i : Nat} {P : List zP2} (h : zmH S i P) (hA : ∀ j, 12 ≤ j → j < 16 → S'.2 j = S.2 j) : zmH S' i P := by
  unfold zmH at *
  rw [hA 12 (by decide) (by decide), hA 13 (by decide) (by decide), hA 14 (by decide) (by decide), hA 15 (by decide) (by decide)]
  exact h
theorem zrH.cg {lim : Nat} {nt : zNT} (h : zrH S lim nt) (h1 : S'.1 1 = S.1 1) (hA : ∀ j, 12 ≤ j → j < 16 → S'.2 j = S.2 j) : zrH S' lim nt := ⟨by rw [h1]; exact h.1, fun q i hi => (h.2 (h1.symm.trans q) i hi).cg hA⟩
theorem zrS.cg {lim mem wk r : Nat} {slow : Nat → Nat} (h : zrS S lim mem wk slow r) (h1 : ∀ j, 2 ≤ j → j < 6 → S'.1 j = S.1 j) (hA : S'.2 16 = S.2 16) : zrS S' lim mem wk slow r := by
  unfold zrS at *
  rw [h1 2 (by decide) (by decide), h1 3 (by decide) (by decide), h1 4 (by decide) (by decide), h1 5 (by decide) (by decide), hA]
  exact h
theorem zrC.cg {L : zNS} {un : Nat} (h : zrC S L un) (h1 : S'.1 6 = S.1 6) (hA : S'.2 18 = S.2 18) (hB : S'.2 19 = S.2 19) : zrC S' L un := by
  unfold zrC at *
  rw [h1, hA, hB]
  exact h
theorem zrA.cg {k : Nat} {a : zAE} (h : zrA S k a) (hA : ∀ j, 23 ≤ j → j < 29 → S'.2 j = S.2 j) : zrA S' k a := by
  unfold zrA at *
  rw [hA 23 (by decide) (by decide), hA 24 (by decide) (by decide), hA 25 (by decide) (by decide), hA 26 (by decide) (by decide), hA 27 (by decide) (by decide), hA 28 (by decide) (by decide)]
  exact h
theorem zrL.cg {A : List zAE} {tk sp cs : Nat} (h : zrL S A tk sp cs) (h1 : ∀ j, 7 ≤ j → j < 11 → S'.1 j = S.1 j) (hA : ∀ j, 23 ≤ j → j < 29 → S'.2 j = S.2 j) : zrL S' A tk sp cs := by
  unfold zrL at *
  rw [h1 7 (by decide) (by decide), h1 8 (by decide) (by decide), h1 9 (by decide) (by decide), h1 10 (by decide) (by decide)]
  exact ⟨h.1, h.2.1, h.2.2.1, h.2.2.2.1, h.2.2.2.2.1, fun k a q => (h.2.2.2.2.2 k a q).cg hA⟩
theorem zSF_s {j : Nat} {x : Int32} : (zSF S j x).1 j = x := pk_us
theorem zSF_n {j q : Nat} {x : Int32} (h : q ≠ j) : (zSF S j x).1 q = S.1 q := pk_un h
theorem zrM.thr {nt : zNT} {lim mem wk r tk sp cs un : Nat} {slow : Nat → Nat} {L : zNS} {A : List zAE} {x : Int32} (h : zrM S nt lim mem wk slow r L A tk sp cs un) : zrM (zSF S 11 x) nt lim mem wk slow r L A tk sp cs un := ⟨h.1.cg rfl fun _ _ => rfl, h.2.1.cg rfl fun _ _ _ => rfl, h.2.2.1.cg (fun j a b => pk_un (by omega)) rfl, h.2.2.2.1.cg rfl rfl rfl, h.2.2.2.2.cg (fun j a b => pk_un (by omega)) fun _ _ _ => rfl⟩
end
section
variable {G : zG} {m : Nat} {S : zMS}
set_option maxRecDepth 100000 in
theorem c_thrown : zMN G yX12_thrown kX12_thrown m [] S (fun v S' => v = some (.int (S.1 11)) ∧ S' = S) := by
  refine zMN.of (ls := [some (.ref m)]) (by decide +kernel) ⟨rfl, rfl, rfl⟩ (Nat.le_of_ble_eq_true rfl) (fun _ h => h) fun Q hQ => ?_
  refine n_aload_n dX12_thrown_0 rfl ?_
  refine n_get dX12_thrown_1 fl_X12_120 rfl ?_
  exact n_iret dX12_thrown_4 rfl (hQ _ _ ⟨rfl, rfl⟩)
set_option maxRecDepth 100000 in
theorem c_fails {x : Int32} : zMN G yX12_fails kX12_fails m [.int x] S (fun v S' => v = some (.int (if 0 < x then 1 else 0)) ∧ S' = zSF S 11 x) := by
  refine zMN.of (ls := [some (.ref m), some (.int x)]) (by decide +kernel) ⟨rfl, rfl, rfl⟩ (Nat.le_of_ble_eq_true rfl) (fun _ h => h) fun Q hQ => ?_
  refine n_aload_n dX12_fails_0 rfl ?_
  refine n_iload_n dX12_fails_1 rfl ?_
  refine n_put (j := 11) dX12_fails_2 fp_X12_120 (zMFs11 _ _ _) rfl rfl (Nat.le_of_ble_eq_true rfl) ?_
  refine n_iload_n dX12_fails_5 rfl ?_
  refine n_if_le (tgt := 13) dX12_fails_6 (by decide) (fun h6 => ?_) (fun h6 => ?_)
  · refine n_iconst (v := (nI 0)) dX12_fails_13 (by decide) ?_
    exact n_zret dX12_fails_14 rfl rfl (hQ _ _ ⟨by rw [if_neg (Int32.not_lt.mpr h6)]; rfl, rfl⟩)
  · refine n_iconst (v := (nI 1)) dX12_fails_9 (by decide) ?_
    refine n_goto (tgt := 14) dX12_fails_10 (by decide) ?_
    exact n_zret dX12_fails_14 rfl rfl (hQ _ _ ⟨by rw [if_pos (Int32.not_le.mp h6)]; rfl, rfl⟩)
set_option maxRecDepth 100000 in
theorem c_tells {x : Int32} : zMN G yX12_tells kX12_tells m [.int x] S (fun v S' => v = some (.int x) ∧ S' = zSF S 11 0) := by
  refine zMN.of (ls := [some (.ref m), some (.int x)]) (by decide +kernel) ⟨rfl, rfl, rfl⟩ (Nat.le_of_ble_eq_true rfl) (fun _ h => h) fun Q hQ => ?_
  refine n_aload_n dX12_tells_0 rfl ?_
  refine n_iconst (v := (nI 0)) dX12_tells_1 (by decide) ?_
  refine n_put (j := 11) dX12_tells_2 fp_X12_120 (zMFs11 _ _ _) rfl rfl (Nat.le_of_ble_eq_true rfl) ?_
  refine n_iload_n dX12_tells_5 rfl ?_
  exact n_iret dX12_tells_6 rfl (hQ _ _ ⟨rfl, rfl⟩)
/-- a number of a node -/
def zis (n : Nat) (x : Int32) : Prop := ¬ x < 0 ∧ x < nI n
theorem zis_of {n : Nat} {x : Int32} (hn : n < 2 ^ 31) (h : zis n x) : ∃ i, i < n ∧ x = nI i := by
  obtain ⟨i, hi, rfl⟩ := nI_of h.1
  exact ⟨i, (nI_ltI hi hn).mp h.2, rfl⟩
theorem zis_in {n i : Nat} (hn : n < 2 ^ 31) (h : i < n) : zis n (nI i) := ⟨nI_pos (by omega), nI_lt h hn⟩
theorem zis_no {n : Nat} {x : Int32} : ¬ zis n x ↔ (x < 0 ∨ nI n ≤ x) := by
  unfold zis
  constructor
  · intro h
    by_cases c : x < 0
    · exact Or.inl c
    · exact Or.inr (Int32.not_lt.mp fun q => h ⟨c, q⟩)
  · rintro (h | h) ⟨a, b⟩
    · exact a h
    · exact Int32.not_lt.mpr h b
noncomputable def zif (p : Prop) : Int32 := by classical exact if p then 1 else 0
theorem zif_t {p : Prop} (h : p) : zif p = 1 := by classical exact if_pos h
theorem zif_f {p : Prop} (h : ¬ p) : zif p = 0 := by classical exact if_neg h
theorem zif_n {p : Prop} : narrow .boolean (.int (zif p)) = .int (zif p) := by
  by_cases h : p
  · rw [zif_t h]; rfl
  · rw [zif_f h]; rfl
set_option maxRecDepth 100000 in
theorem c_is {x : Int32} {n : Nat} (hn : S.1 0 = nI n) : zMN G yX12_is kX12_is m [.int x] S (fun v S' => v = some (.int (zif (zis n x))) ∧ S' = S) := by
  refine zMN.of (ls := [some (.ref m), some (.int x)]) (by decide +kernel) ⟨rfl, rfl, rfl⟩ (Nat.le_of_ble_eq_true rfl) (fun _ h => h) fun Q hQ => ?_
  refine n_iload_n dX12_is_0 rfl ?_
  refine n_if_lt (tgt := 16) dX12_is_1 (by decide) (fun h1 => ?_) (fun h1 => ?_)
  · refine n_iconst (v := (nI 0)) dX12_is_16 (by decide) ?_
    exact n_zret dX12_is_17 rfl rfl (hQ _ _ ⟨by rw [zif_f (zis_no.mpr (Or.inl h1))]; rfl, rfl⟩)
  · refine n_iload_n dX12_is_4 rfl ?_
    refine n_aload_n dX12_is_5 rfl ?_
    refine n_getE dX12_is_6 fl_X12_123 rfl (hn) ?_
    refine n_icmp_ge (tgt := 16) dX12_is_9 (by decide) (fun h9 => ?_) (fun h9 => ?_)
    · refine n_iconst (v := (nI 0)) dX12_is_16 (by decide) ?_
      exact n_zret dX12_is_17 rfl rfl (hQ _ _ ⟨by rw [zif_f (zis_no.mpr (Or.inr h9))]; rfl, rfl⟩)
    · refine n_iconst (v := (nI 1)) dX12_is_12 (by decide) ?_
      refine n_goto (tgt := 17) dX12_is_13 (by decide) ?_
      exact n_zret dX12_is_17 rfl rfl (hQ _ _ ⟨by rw [zif_t ⟨h1, Int32.not_le.mp h9⟩]; rfl, rfl⟩)
set_option maxRecDepth 100000 in
theorem c_makes {n : Nat} {x1 x2 x3 x4 x5 : Int32} (hn : S.1 0 = nI n) (hl : n < 14) : zMN G yX12_makes kX12_makes m [.int x1, .int x2, .int x3, .int x4, .int x5] S (fun v S' => v = some (.int (nI n)) ∧ S' = zSF (zSF (zST (zST (zST (zST (zST S 0 n x1) 1 n x2) 2 n x3) 7 n x4) 8 n x5) 1 0) 0 (nI (n + 1))) := by
  refine zMN.of (ls := [some (.ref m), some (.int x1), some (.int x2), some (.int x3), some (.int x4), some (.int x5)]) (by decide +kernel) ⟨rfl, rfl, rfl⟩ (Nat.le_of_ble_eq_true rfl) (fun _ h => h) fun Q hQ => ?_
  refine n_aload_n dX12_makes_0 rfl ?_
  refine n_get dX12_makes_1 fl_X12_7 rfl ?_
  refine n_aload_n dX12_makes_4 rfl ?_
  refine n_getE dX12_makes_5 fl_X12_123 rfl (hn) ?_
  refine n_iload_n dX12_makes_8 rfl ?_
  refine n_iast (j := 0) dX12_makes_9 (by decide) rfl rfl (show _ < 14 by omega) ?_
  refine n_aload_n dX12_makes_10 rfl ?_
  refine n_get dX12_makes_11 fl_X12_13 rfl ?_
  refine n_aload_n dX12_makes_14 rfl ?_
  refine n_getE dX12_makes_15 fl_X12_123 rfl (hn) ?_
  refine n_iload_n dX12_makes_18 rfl ?_
  refine n_iast (j := 1) dX12_makes_19 (by decide) rfl rfl (show _ < 14 by omega) ?_
  refine n_aload_n dX12_makes_20 rfl ?_
  refine n_get dX12_makes_21 fl_X12_16 rfl ?_
  refine n_aload_n dX12_makes_24 rfl ?_
  refine n_getE dX12_makes_25 fl_X12_123 rfl (hn) ?_
  refine n_iload_n dX12_makes_28 rfl ?_
  refine n_iast (j := 2) dX12_makes_29 (by decide) rfl rfl (show _ < 14 by omega) ?_
  refine n_aload_n dX12_makes_30 rfl ?_
  refine n_get dX12_makes_31 fl_X12_31 rfl ?_
  refine n_aload_n dX12_makes_34 rfl ?_
  refine n_getE dX12_makes_35 fl_X12_123 rfl (hn) ?_
  refine n_iload dX12_makes_38 rfl ?_
  refine n_iast (j := 7) dX12_makes_40 (by decide) rfl rfl (show _ < 14 by omega) ?_
  refine n_aload_n dX12_makes_41 rfl ?_
  refine n_get dX12_makes_42 fl_X12_34 rfl ?_
  refine n_aload_n dX12_makes_45 rfl ?_
  refine n_getE dX12_makes_46 fl_X12_123 rfl (hn) ?_
  refine n_iload dX12_makes_49 rfl ?_
  refine n_iast (j := 8) dX12_makes_51 (by decide) rfl rfl (show _ < 14 by omega) ?_
  refine n_aload_n dX12_makes_52 rfl ?_
  refine n_iconst (v := (nI 0)) dX12_makes_53 (by decide) ?_
  refine n_put (j := 1) dX12_makes_54 fp_X12_126 (zMFs1 _ _ _) rfl rfl (Nat.le_of_ble_eq_true rfl) ?_
  refine n_aload_n dX12_makes_57 rfl ?_
  refine n_dup dX12_makes_58 rfl ?_
  refine n_getE dX12_makes_59 fl_X12_123 rfl (hn) ?_
  refine n_iconst (v := (nI 1)) dX12_makes_62 (by decide) ?_
  refine n_iadd dX12_makes_63 ?_
  rw [nI_add]
  refine n_put (j := 0) dX12_makes_64 fp_X12_123 (zMFs0 _ _ _) rfl rfl (Nat.le_of_ble_eq_true rfl) ?_
  refine n_aload_n dX12_makes_67 rfl ?_
  refine n_getE dX12_makes_68 fl_X12_123 rfl (zSF_s) ?_
  refine n_iconst (v := (nI 1)) dX12_makes_71 (by decide) ?_
  refine n_isub dX12_makes_72 ?_
  rw [pk_sub (by omega), Nat.add_sub_cancel]
  exact n_iret dX12_makes_73 rfl (hQ _ _ ⟨rfl, rfl⟩)
set_option maxRecDepth 100000 in
theorem c_share {σ : zH} {nx : Nat} {x d : Int32} (hd : 0 < d) : zM G yX12_share kX12_share [.int x, .int d] σ nx (fun v σ' nx' => v = some (.int (zmd x d)) ∧ σ' = σ ∧ nx' = nx) := by
  refine zM.of (ls := [some (.int x), some (.int d), none]) (by decide +kernel) ⟨rfl, rfl, rfl⟩ (Nat.le_of_ble_eq_true rfl) (fun _ h => h) ?_
  have hdn : ¬ d = 0 := fun q => by rw [q] at hd; exact absurd hd (by decide)
  refine z_iload_n dX12_share_0 rfl ?_
  refine z_iload_n dX12_share_1 rfl ?_
  refine z_irem dX12_share_2 hdn ?_
  refine z_istore_n dX12_share_3 (by decide) ?_
  refine z_iload_n dX12_share_4 rfl ?_
  refine z_if_ge (tgt := 14) dX12_share_5 (by decide) (fun h => ?_) (fun h => ?_)
  · refine z_iload_n dX12_share_14 rfl ?_
    exact z_iret dX12_share_15 rfl (Nat.le_of_ble_eq_true rfl) (Nat.le_of_ble_eq_true rfl) ⟨by rw [zmd, if_neg (Int32.not_lt.mpr h)], rfl, rfl⟩
  · refine z_iload_n dX12_share_8 rfl ?_
    refine z_iload_n dX12_share_9 rfl ?_
    refine z_iadd dX12_share_10 ?_
    refine z_goto (tgt := 15) dX12_share_11 (by decide) ?_
    exact z_iret dX12_share_15 rfl (Nat.le_of_ble_eq_true rfl) (Nat.le_of_ble_eq_true rfl) ⟨by rw [zmd, if_pos (Int32.not_le.mp h)], rfl, rfl⟩
set_option maxRecDepth 100000 in
theorem c_at {i p b : Nat} (hi : i < 14) (hp : p < 9) (hb : S.2 13 (9 * i + p) = nI b) : zMN G yX12_at kX12_at m [.int (nI i), .int (nI p)] S (fun v S' => v = some (.int (nI b)) ∧ S' = S) := by
  refine zMN.of (ls := [some (.ref m), some (.int (nI i)), some (.int (nI p))]) (by decide +kernel) ⟨rfl, rfl, rfl⟩ (Nat.le_of_ble_eq_true rfl) (fun _ h => h) fun Q hQ => ?_
  refine n_aload_n dX12_at_0 rfl ?_
  refine n_get dX12_at_1 fl_X12_49 rfl ?_
  refine n_bipush (v := (nI 9)) dX12_at_4 (by decide) ?_
  refine n_iload_n dX12_at_6 rfl ?_
  refine n_imul dX12_at_7 ?_
  rw [pk_mul]
  refine n_iload_n dX12_at_8 rfl ?_
  refine n_iadd dX12_at_9 ?_
  rw [nI_add]
  refine n_iald (j := 13) dX12_at_10 (by decide) rfl rfl (show _ < 126 by omega) hb ?_
  exact n_iret dX12_at_11 rfl (hQ _ _ ⟨rfl, rfl⟩)
set_option maxRecDepth 100000 in
theorem c_all {i : Nat} {P : List zP2} (hi : i < 14) (hP : zmH S i P) (h8 : P.length ≤ 8) : zMN G yX12_all kX12_all m [.int (nI i)] S (fun v S' => v = some (.int (nI P.flatten.length)) ∧ S' = S) := by
  refine zMN.of (ls := [some (.ref m), some (.int (nI i))]) (by decide +kernel) ⟨rfl, rfl, rfl⟩ (Nat.le_of_ble_eq_true rfl) (fun _ h => h) fun Q hQ => ?_
  have h2 := hP.2.1 P.length (Nat.le_refl _)
  rw [List.take_length] at h2
  refine n_aload_n dX12_all_0 rfl ?_
  refine n_iload_n dX12_all_1 rfl ?_
  refine n_aload_n dX12_all_2 rfl ?_
  refine n_get dX12_all_3 fl_X12_46 rfl ?_
  refine n_iload_n dX12_all_6 rfl ?_
  refine n_iald (j := 12) dX12_all_7 (by decide) rfl rfl (show _ < 14 by omega) hP.1 ?_
  refine n_call dX12_all_8 cv_X12_148 (c_at hi (by omega) h2) rfl rfl rfl ⟨(Nat.le_of_ble_eq_true rfl), (Nat.le_of_ble_eq_true rfl)⟩ rfl rfl (Nat.le_of_ble_eq_true rfl) (fun v S1 hq1 => ?_)
  obtain ⟨rfl, rfl⟩ := hq1
  exact n_iret dX12_all_11 rfl (hQ _ _ ⟨rfl, rfl⟩)
theorem zsz_tk {P : List zP2} {j : Nat} (hj : j < P.length) : (P.take (j + 1)).flatten.length = (P.take j).flatten.length + zsz P j := by
  have hg : P[j]? = some (P[j]'hj) := List.getElem?_eq_getElem _
  rw [ztake hg, List.flatten_append, List.length_append]
  simp [zsz, hj]
set_option maxRecDepth 100000 in
theorem c_rowsOf {i j : Nat} {P : List zP2} (hi : i < 14) (hP : zmH S i P) (h8 : P.length ≤ 8) (hj : j < P.length) : zMN G yX12_rowsOf kX12_rowsOf m [.int (nI i), .int (nI j)] S (fun v S' => v = some (.int (nI (zsz P j))) ∧ S' = S) := by
  refine zMN.of (ls := [some (.ref m), some (.int (nI i)), some (.int (nI j))]) (by decide +kernel) ⟨rfl, rfl, rfl⟩ (Nat.le_of_ble_eq_true rfl) (fun _ h => h) fun Q hQ => ?_
  refine n_aload_n dX12_rowsOf_0 rfl ?_
  refine n_iload_n dX12_rowsOf_1 rfl ?_
  refine n_iload_n dX12_rowsOf_2 rfl ?_
  refine n_iconst (v := (nI 1)) dX12_rowsOf_3 (by decide) ?_
  refine n_iadd dX12_rowsOf_4 ?_
  rw [nI_add]
  refine n_call dX12_rowsOf_5 cv_X12_148 (c_at hi (by omega) (hP.2.1 (j + 1) hj)) rfl rfl rfl ⟨(Nat.le_of_ble_eq_true rfl), (Nat.le_of_ble_eq_true rfl)⟩ rfl rfl (Nat.le_of_ble_eq_true rfl) (fun v S1 hq1 => ?_)
  obtain ⟨rfl, rfl⟩ := hq1
  refine n_aload_n dX12_rowsOf_8 rfl ?_
  refine n_iload_n dX12_rowsOf_9 rfl ?_
  refine n_iload_n dX12_rowsOf_10 rfl ?_
  refine n_call dX12_rowsOf_11 cv_X12_148 (c_at hi (by omega) (hP.2.1 j (by omega))) rfl rfl rfl ⟨(Nat.le_of_ble_eq_true rfl), (Nat.le_of_ble_eq_true rfl)⟩ rfl rfl (Nat.le_of_ble_eq_true rfl) (fun v S2 hq2 => ?_)
  obtain ⟨rfl, rfl⟩ := hq2
  refine n_isub dX12_rowsOf_14 ?_
  rw [zsz_tk hj, pk_sub (Nat.le_add_right _ _), Nat.add_sub_cancel_left]
  exact n_iret dX12_rowsOf_15 rfl (hQ _ _ ⟨rfl, rfl⟩)
set_option maxRecDepth 100000 in
theorem c_isBroadly {i f lim : Nat} {P : List zP2} (hi : i < 14) (hf : f < 14) (h2 : S.2 2 i = nI f) (hP : zmH S f P) (h8 : P.length ≤ 8) (h3 : P.flatten.length ≤ 300) (hl : S.1 2 = nI lim) (hlim : lim ≤ 1000) : zMN G yX12_isBroadly kX12_isBroadly m [.int (nI i)] S (fun v S' => v = some (.int (zif (P.flatten.length ≤ lim))) ∧ S' = S) := by
  refine zMN.of (ls := [some (.ref m), some (.int (nI i))]) (by decide +kernel) ⟨rfl, rfl, rfl⟩ (Nat.le_of_ble_eq_true rfl) (fun _ h => h) fun Q hQ => ?_
  refine n_aload_n dX12_isBroadly_0 rfl ?_
  refine n_aload_n dX12_isBroadly_1 rfl ?_
  refine n_get dX12_isBroadly_2 fl_X12_16 rfl ?_
  refine n_iload_n dX12_isBroadly_5 rfl ?_
  refine n_iald (j := 2) dX12_isBroadly_6 (by decide) rfl rfl (show _ < 14 by omega) h2 ?_
  refine n_call dX12_isBroadly_7 cv_X12_152 (c_all hf hP h8) rfl rfl rfl ⟨(Nat.le_of_ble_eq_true rfl), (Nat.le_of_ble_eq_true rfl)⟩ rfl rfl (Nat.le_of_ble_eq_true rfl) (fun v S1 hq1 => ?_)
  obtain ⟨rfl, rfl⟩ := hq1
  refine n_aload_n dX12_isBroadly_10 rfl ?_
  refine n_getE dX12_isBroadly_11 fl_X12_58 rfl (hl) ?_
  refine n_icmp_gt (tgt := 21) dX12_isBroadly_14 (by decide) (fun h14 => ?_) (fun h14 => ?_)
  · have c := (nI_ltI (by omega) (by omega)).mp h14
    refine n_iconst (v := (nI 0)) dX12_isBroadly_21 (by decide) ?_
    exact n_zret dX12_isBroadly_22 rfl rfl (hQ _ _ ⟨by rw [zif_f (by omega)]; rfl, rfl⟩)
  · have c : P.flatten.length ≤ lim := Nat.le_of_not_lt fun q => h14 (nI_lt q (by omega))
    refine n_iconst (v := (nI 1)) dX12_isBroadly_17 (by decide) ?_
    refine n_goto (tgt := 22) dX12_isBroadly_18 (by decide) ?_
    exact n_zret dX12_isBroadly_22 rfl rfl (hQ _ _ ⟨by rw [zif_t c]; rfl, rfl⟩)
set_option maxRecDepth 100000 in
theorem c_adds {i n : Nat} {x y : Int32} (hi : i < 14) (hn : n < 300) : zMN G yX12_adds kX12_adds m [.int (nI i), .int (nI n), .int x, .int y] S (fun v S' => v = none ∧ S' = zST (zST S 14 (300 * i + n) x) 15 (300 * i + n) y) := by
  refine zMN.of (ls := [some (.ref m), some (.int (nI i)), some (.int (nI n)), some (.int x), some (.int y)]) (by decide +kernel) ⟨rfl, rfl, rfl⟩ (Nat.le_of_ble_eq_true rfl) (fun _ h => h) fun Q hQ => ?_
  refine n_aload_n dX12_adds_0 rfl ?_
  refine n_get dX12_adds_1 fl_X12_52 rfl ?_
  refine n_sipush (v := (nI 300)) dX12_adds_4 (by decide) ?_
  refine n_iload_n dX12_adds_7 rfl ?_
  refine n_imul dX12_adds_8 ?_
  rw [pk_mul]
  refine n_iload_n dX12_adds_9 rfl ?_
  refine n_iadd dX12_adds_10 ?_
  rw [nI_add]
  refine n_iload_n dX12_adds_11 rfl ?_
  refine n_iast (j := 14) dX12_adds_12 (by decide) rfl rfl (show _ < 4200 by omega) ?_
  refine n_aload_n dX12_adds_13 rfl ?_
  refine n_get dX12_adds_14 fl_X12_55 rfl ?_
  refine n_sipush (v := (nI 300)) dX12_adds_17 (by decide) ?_
  refine n_iload_n dX12_adds_20 rfl ?_
  refine n_imul dX12_adds_21 ?_
  rw [pk_mul]
  refine n_iload_n dX12_adds_22 rfl ?_
  refine n_iadd dX12_adds_23 ?_
  rw [nI_add]
  refine n_iload dX12_adds_24 rfl ?_
  refine n_iast (j := 15) dX12_adds_26 (by decide) rfl rfl (show _ < 4200 by omega) ?_
  exact n_vret dX12_adds_27 rfl (hQ _ _ ⟨rfl, rfl⟩)
set_option maxRecDepth 100000 in
theorem c_empties : zMN G yX12_empties kX12_empties m [] S (fun v S' => v = none ∧ S'.1 = upd S.1 1 0 ∧ (∀ k, k < 14 → S'.2 18 k = 0) ∧ ∀ j, j ≠ 18 → S'.2 j = S.2 j) := by
  refine zMN.of (ls := [some (.ref m), none]) (by decide +kernel) ⟨rfl, rfl, rfl⟩ (Nat.le_of_ble_eq_true rfl) (fun _ h => h) fun Q hQ => ?_
  have loop : ∀ (d k : Nat) (S1 : zMS), k + d = 14 → S1.1 = upd S.1 1 0 → (∀ i, i < k → S1.2 18 i = 0) → (∀ j, j ≠ 18 → S1.2 j = S.2 j) → zNW G kX12_empties m Q 7 [some (.ref m), some (.int (nI k))] [] S1 := by
    intro d
    induction d with
    | zero =>
      intro k S1 hk h1 h2 h3
      refine n_iload_n dX12_empties_7 rfl ?_
      refine n_bipush (v := (nI 14)) dX12_empties_8 (by decide) ?_
      refine n_icmp_ge (tgt := 26) dX12_empties_10 (by decide) (fun _ => ?_) (fun q => absurd (nI_le (by omega) (by omega)) q)
      exact n_vret dX12_empties_26 rfl (hQ _ _ ⟨rfl, h1, fun i hi => h2 i (by omega), h3⟩)
    | succ d ih =>
      intro k S1 hk h1 h2 h3
      refine n_iload_n dX12_empties_7 rfl ?_
      refine n_bipush (v := (nI 14)) dX12_empties_8 (by decide) ?_
      refine n_icmp_ge (tgt := 26) dX12_empties_10 (by decide) (fun q => absurd q (nI_ge (show k < 14 by omega) (by omega))) (fun _ => ?_)
      refine n_aload_n dX12_empties_13 rfl ?_
      refine n_get dX12_empties_14 fl_X12_75 rfl ?_
      refine n_iload_n dX12_empties_17 rfl ?_
      refine n_iconst (v := (nI 0)) dX12_empties_18 (by decide) ?_
      refine n_zast (j := 18) dX12_empties_19 (by decide) rfl rfl (show _ < 14 by omega) rfl ?_
      refine n_inc1 dX12_empties_20 rfl (by decide) ?_
      refine n_goto (tgt := 7) dX12_empties_23 (by decide) ?_
      rw [nI_1]
      refine ih (k + 1) _ (by omega) h1 (fun i hi => ?_) (fun j hj => (zST_n S1 k (nI 0) hj).trans (h3 j hj))
      rw [zST_j]
      by_cases e : i = k
      · subst e; exact pk_us
      · rw [pk_un e]; exact h2 i (by omega)
  refine n_aload_n dX12_empties_0 rfl ?_
  refine n_iconst (v := (nI 0)) dX12_empties_1 (by decide) ?_
  refine n_put (j := 1) dX12_empties_2 fp_X12_126 (zMFs1 _ _ _) rfl rfl (Nat.le_of_ble_eq_true rfl) ?_
  refine n_iconst (v := (nI 0)) dX12_empties_5 (by decide) ?_
  refine n_istore_n dX12_empties_6 (by decide) ?_
  exact loop 14 0 _ rfl rfl (fun i hi => absurd hi (Nat.not_lt_zero _)) (fun _ _ => rfl)
end
