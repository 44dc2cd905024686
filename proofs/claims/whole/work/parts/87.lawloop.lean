/-! the law: its loop, its begin and its end -/
theorem zlc {L j : Nat} (hL : L ≤ 2048) (hj : j ≤ 4096) : Int32.ofNat L - 4 < nI j ↔ L < j + 4 := by
  by_cases c : 4 ≤ L
  · have e : Int32.ofNat L - 4 = nI (L - 4) := pk_sub (a := L) (b := 4) c
    rw [e, nI_ltI (by omega) (by omega)]
    omega
  · refine ⟨fun _ => by omega, fun _ => ?_⟩
    have h : Int32.ofNat L - 4 < nI 0 := by
      rcases (show L = 0 ∨ L = 1 ∨ L = 2 ∨ L = 3 by omega) with h | h | h | h <;> subst h <;> decide
    exact Int32.lt_of_lt_of_le h (nI_le (Nat.zero_le j) (by omega))
theorem z_lawret {G : zG} {a L nx : Nat} {xs : Nat → Int32} {σ : zH} {ls : zL} : zWP G kL_law (zSc a L xs (zLF a)) 2306 ls [.int 1] σ nx 601024 7293034 := by
  intro p l e s m args below meth c A H locs la C hH hS hl
  by_cases h : args = #[.ref a] ∧ ∀ q, A q → s.heap.size ≤ q
  · obtain ⟨rfl, hA⟩ := h
    obtain ⟨hx, hb, -, -, -, -, -, hlk, hret, -⟩ := C
    have K : W p l e room_1 s m #[.ref a] below meth c H locs 601024 7293034 (lw_Z below #[.ref a] s) (F0 m 2306 la [.int 1]) :=
      va_forget (fun q hq => hA _ (hS.2.2 q hq)) (W.base (lw_ret (d0 := s.drawn) (Drawn.sameBut.refl s.drawn lw_cs) hx hb hret hlk dL_law_2306))
    intro T hT X
    obtain ⟨t, a1, b1⟩ := K T hT X
    exact ⟨t, a1, fun _ _ _ => b1⟩
  · exact fun T hT X => ⟨_, Steps.refl _, fun _ q1 q2 => absurd ⟨q1, q2⟩ h⟩
section
variable {G : zG} {a b L : Nat} {xs : Nat → Int32}
set_option maxRecDepth 100000 in
theorem law_exit {i nx : Nat} {σ : zH} {ls : zL} (hi : i ≤ 512) : zWP G kL_law (zSc a L xs (zLF a)) 2305 ls [] σ nx (400 + 28 * i) (60000 + 2800 * i) := by
  refine z_widen (ca' := 601024) (sl' := 7293034) (by omega) (by omega) ?_
  refine z_iconst (v := 1) dL_law_2305 (by decide) ?_
  exact z_lawret
set_option maxRecDepth 100000 in
set_option maxHeartbeats 4000000 in
theorem law_loop (hG : zKap G) (hL : L ≤ 2048) : ∀ (d i nx : Nat) (σ : zH) (x5 x6 x7 x8 : Option Value), L ≤ 4 * i + 4 * d → i ≤ 512 → zLI G σ nx b i → zWP G kL_law (zSc a L xs (zLF a)) 23 (zLls a b i x5 x6 x7 x8) [] σ nx (400 + 28 * i) (60000 + 2800 * i) := by
  intro d
  induction d with
  | zero =>
    intro i nx σ x5 x6 x7 x8 hd hi hI
    refine z_iload dL_law_23 rfl ?_
    refine z_aload_n dL_law_25 rfl ?_
    refine z_slen dL_law_26 ?_
    refine z_iconst (v := 4) dL_law_27 (by decide) ?_
    refine z_isub dL_law_28 ?_
    refine z_icmp_gt (tgt := 2305) dL_law_29 (by decide) (fun _ => ?_) (fun q => absurd (((zlc hL (by omega)).mpr (by omega))) q)
    exact law_exit hi
  | succ d ih =>
    intro i nx σ x5 x6 x7 x8 hd hi hI
    refine z_iload dL_law_23 rfl ?_
    refine z_aload_n dL_law_25 rfl ?_
    refine z_slen dL_law_26 ?_
    refine z_iconst (v := 4) dL_law_27 (by decide) ?_
    refine z_isub dL_law_28 ?_
    by_cases c : 4 * i + 4 ≤ L
    · have kont : zKont G a b L xs i := by
        intro σ' nx' y5 y6 y7 y8 hI'
        refine z_iinc (v := nI (4 * (i + 1))) dL_law_2299 rfl (nI_add (4 * i) 4) (by decide) ?_
        refine z_goto (tgt := 23) dL_law_2302 (by decide) ?_
        exact ih (i + 1) nx' σ' y5 y6 y7 y8 (by omega) (by omega) hI'
      refine z_icmp_gt (tgt := 2305) dL_law_29 (by decide) (fun q => absurd q ((fun w => absurd ((zlc hL (by omega)).mp w) (by omega)))) (fun _ => ?_)
      refine z_aload_n dL_law_32 rfl ?_
      refine z_iload dL_law_33 rfl ?_
      refine z_sldn (by omega) hL dL_law_35 ?_
      refine z_bipush (v := 63) dL_law_36 (by decide) ?_
      refine z_iand dL_law_38 ?_
      generalize xs (4 * i) &&& 63 = v
      by_cases o : v.toInt < 0 ∨ 35 < v.toInt
      · refine z_tableOut (tgt := 2299) dL_law_39 o (by decide) ?_
        refine z_widen (ca' := 400 + 28 * (i + 1)) (sl' := 60000 + 2800 * (i + 1)) (by omega) (by omega) ?_
        obtain ⟨u, un, S, f, h1, h2, h3, h4, h5, h6, h7⟩ := hI
        exact kont _ _ _ _ _ _ ⟨u, un, S, f, h1, h2, h3, h4, by omega, h6, h7⟩
      · have cs : v.toInt = 0 ∨ v.toInt = 1 ∨ v.toInt = 2 ∨ v.toInt = 3 ∨ v.toInt = 4 ∨ v.toInt = 5 ∨ v.toInt = 6 ∨ v.toInt = 7 ∨ v.toInt = 8 ∨ v.toInt = 9 ∨ v.toInt = 10 ∨ v.toInt = 11 ∨ v.toInt = 12 ∨ v.toInt = 13 ∨ v.toInt = 14 ∨ v.toInt = 15 ∨ v.toInt = 16 ∨ v.toInt = 17 ∨ v.toInt = 18 ∨ v.toInt = 19 ∨ v.toInt = 20 ∨ v.toInt = 21 ∨ v.toInt = 22 ∨ v.toInt = 23 ∨ v.toInt = 24 ∨ v.toInt = 25 ∨ v.toInt = 26 ∨ v.toInt = 27 ∨ v.toInt = 28 ∨ v.toInt = 29 ∨ v.toInt = 30 ∨ v.toInt = 31 ∨ v.toInt = 32 ∨ v.toInt = 33 ∨ v.toInt = 34 ∨ v.toInt = 35 := by omega
        rcases cs with h | h | h | h | h | h | h | h | h | h | h | h | h | h | h | h | h | h | h | h | h | h | h | h | h | h | h | h | h | h | h | h | h | h | h | h
        · refine z_tableIn (off := 157) (tgt := 196) dL_law_39 (by omega) (by omega) (by rw [h]; rfl) (by decide) ?_
          exact law_0 hG hL c hI kont
        · refine z_tableIn (off := 213) (tgt := 252) dL_law_39 (by omega) (by omega) (by rw [h]; rfl) (by decide) ?_
          exact law_1 hG hL c hI kont
        · refine z_tableIn (off := 293) (tgt := 332) dL_law_39 (by omega) (by omega) (by rw [h]; rfl) (by decide) ?_
          exact law_2 hG hL c hI kont
        · refine z_tableIn (off := 373) (tgt := 412) dL_law_39 (by omega) (by omega) (by rw [h]; rfl) (by decide) ?_
          exact law_3 hG hL c hI kont
        · refine z_tableIn (off := 453) (tgt := 492) dL_law_39 (by omega) (by omega) (by rw [h]; rfl) (by decide) ?_
          exact law_4 hG hL c hI kont
        · refine z_tableIn (off := 521) (tgt := 560) dL_law_39 (by omega) (by omega) (by rw [h]; rfl) (by decide) ?_
          exact law_5 hG hL c hI kont
        · refine z_tableIn (off := 601) (tgt := 640) dL_law_39 (by omega) (by omega) (by rw [h]; rfl) (by decide) ?_
          exact law_6 hG hL c hI kont
        · refine z_tableIn (off := 681) (tgt := 720) dL_law_39 (by omega) (by omega) (by rw [h]; rfl) (by decide) ?_
          exact law_7 hG hL c hI kont
        · refine z_tableIn (off := 694) (tgt := 733) dL_law_39 (by omega) (by omega) (by rw [h]; rfl) (by decide) ?_
          exact law_8 hG hL c hI kont
        · refine z_tableIn (off := 750) (tgt := 789) dL_law_39 (by omega) (by omega) (by rw [h]; rfl) (by decide) ?_
          exact law_9 hG hL c hI kont
        · refine z_tableIn (off := 818) (tgt := 857) dL_law_39 (by omega) (by omega) (by rw [h]; rfl) (by decide) ?_
          exact law_10 hG hL c hI kont
        · refine z_tableIn (off := 874) (tgt := 913) dL_law_39 (by omega) (by omega) (by rw [h]; rfl) (by decide) ?_
          exact law_11 hG hL c hI kont
        · refine z_tableIn (off := 954) (tgt := 993) dL_law_39 (by omega) (by omega) (by rw [h]; rfl) (by decide) ?_
          exact law_12 hG hL c hI kont
        · refine z_tableIn (off := 1034) (tgt := 1073) dL_law_39 (by omega) (by omega) (by rw [h]; rfl) (by decide) ?_
          exact law_13 hG hL c hI kont
        · refine z_tableIn (off := 1097) (tgt := 1136) dL_law_39 (by omega) (by omega) (by rw [h]; rfl) (by decide) ?_
          exact law_14 hG hL c hI kont
        · refine z_tableIn (off := 1153) (tgt := 1192) dL_law_39 (by omega) (by omega) (by rw [h]; rfl) (by decide) ?_
          exact law_15 hG hL c hI kont
        · refine z_tableIn (off := 1209) (tgt := 1248) dL_law_39 (by omega) (by omega) (by rw [h]; rfl) (by decide) ?_
          exact law_16 hG hL c hI kont
        · refine z_tableIn (off := 1265) (tgt := 1304) dL_law_39 (by omega) (by omega) (by rw [h]; rfl) (by decide) ?_
          exact law_17 hG hL c hI kont
        · refine z_tableIn (off := 1333) (tgt := 1372) dL_law_39 (by omega) (by omega) (by rw [h]; rfl) (by decide) ?_
          exact law_18 hG hL c hI kont
        · refine z_tableIn (off := 1389) (tgt := 1428) dL_law_39 (by omega) (by omega) (by rw [h]; rfl) (by decide) ?_
          exact law_19 hG hL c hI kont
        · refine z_tableIn (off := 1445) (tgt := 1484) dL_law_39 (by omega) (by omega) (by rw [h]; rfl) (by decide) ?_
          exact law_20 hG hL c hI kont
        · refine z_tableIn (off := 1501) (tgt := 1540) dL_law_39 (by omega) (by omega) (by rw [h]; rfl) (by decide) ?_
          exact law_21 hG hL c hI kont
        · refine z_tableIn (off := 1592) (tgt := 1631) dL_law_39 (by omega) (by omega) (by rw [h]; rfl) (by decide) ?_
          exact law_22 hG hL c hI kont
        · refine z_tableIn (off := 1655) (tgt := 1694) dL_law_39 (by omega) (by omega) (by rw [h]; rfl) (by decide) ?_
          exact law_23 hG hL c hI kont
        · refine z_tableIn (off := 1711) (tgt := 1750) dL_law_39 (by omega) (by omega) (by rw [h]; rfl) (by decide) ?_
          exact law_24 hG hL c hI kont
        · refine z_tableIn (off := 1779) (tgt := 1818) dL_law_39 (by omega) (by omega) (by rw [h]; rfl) (by decide) ?_
          exact law_25 hG hL c hI kont
        · refine z_tableIn (off := 1835) (tgt := 1874) dL_law_39 (by omega) (by omega) (by rw [h]; rfl) (by decide) ?_
          exact law_26 hG hL c hI kont
        · refine z_tableIn (off := 1848) (tgt := 1887) dL_law_39 (by omega) (by omega) (by rw [h]; rfl) (by decide) ?_
          exact law_27 hG hL c hI kont
        · refine z_tableIn (off := 1861) (tgt := 1900) dL_law_39 (by omega) (by omega) (by rw [h]; rfl) (by decide) ?_
          exact law_28 hG hL c hI kont
        · refine z_tableIn (off := 1874) (tgt := 1913) dL_law_39 (by omega) (by omega) (by rw [h]; rfl) (by decide) ?_
          exact law_29 hG hL c hI kont
        · refine z_tableIn (off := 1930) (tgt := 1969) dL_law_39 (by omega) (by omega) (by rw [h]; rfl) (by decide) ?_
          exact law_30 hG hL c hI kont
        · refine z_tableIn (off := 1986) (tgt := 2025) dL_law_39 (by omega) (by omega) (by rw [h]; rfl) (by decide) ?_
          exact law_31 hG hL c hI kont
        · refine z_tableIn (off := 2042) (tgt := 2081) dL_law_39 (by omega) (by omega) (by rw [h]; rfl) (by decide) ?_
          exact law_32 hG hL c hI kont
        · refine z_tableIn (off := 2098) (tgt := 2137) dL_law_39 (by omega) (by omega) (by rw [h]; rfl) (by decide) ?_
          exact law_33 hG hL c hI kont
        · refine z_tableIn (off := 2154) (tgt := 2193) dL_law_39 (by omega) (by omega) (by rw [h]; rfl) (by decide) ?_
          exact law_34 hG hL c hI kont
        · refine z_tableIn (off := 2217) (tgt := 2256) dL_law_39 (by omega) (by omega) (by rw [h]; rfl) (by decide) ?_
          exact law_35 hG hL c hI kont
    · refine z_icmp_gt (tgt := 2305) dL_law_29 (by decide) (fun _ => ?_) (fun q => absurd (((zlc hL (by omega)).mpr (by omega))) q)
      exact law_exit hi
set_option maxRecDepth 100000 in
theorem wl_long : Cond.arrayClass (newarray.typeOf .long) ∈ zW := (zW_in (zTp8 (i := 7) rfl) rfl)
set_option maxRecDepth 100000 in
set_option maxHeartbeats 4000000 in
theorem law_entry (hG : zKap G) (hL : L ≤ 2048) : zWP G kL_law (zSc a L xs (zLF a)) 0 [some (.ref a), none, none, none, none, none, none, none, none] [] (fun _ => none) b 0 0 := by
  refine z_new dL_law_0 nw_L_8 (Nat.le_of_ble_eq_true rfl) (Nat.le_of_ble_eq_true rfl) ?_
  refine z_dup dL_law_3 rfl ?_
  refine z_callI dL_law_4 cv_L_113 (c_X11_init (b := b) (hi := b + 109) hG (by omega) (zu_eq _ _ _)) rfl rfl ⟨(Nat.le_of_ble_eq_true rfl), (Nat.le_of_ble_eq_true rfl)⟩ (Nat.le_of_ble_eq_true rfl) (Nat.le_of_ble_eq_true rfl) (Nat.le_of_ble_eq_true rfl) (fun v s1 n1 hx1 hq1 => ?_)
  obtain ⟨rfl, hT, -, rfl⟩ := hq1
  refine z_astore_n dL_law_7 (by decide) ?_
  refine z_new dL_law_8 nw_L_114 (Nat.le_of_ble_eq_true rfl) (Nat.le_of_ble_eq_true rfl) ?_
  refine z_dup dL_law_11 rfl ?_
  refine z_callI dL_law_12 cv_L_116 (c_X12_init (m := b + 74) (zu_eq _ _ _)) rfl rfl ⟨(Nat.le_of_ble_eq_true rfl), (Nat.le_of_ble_eq_true rfl)⟩ (Nat.le_of_ble_eq_true rfl) (Nat.le_of_ble_eq_true rfl) (Nat.le_of_ble_eq_true rfl) (fun v s2 n2 hx2 hq2 => ?_)
  obtain ⟨rfl, hmd, f2, rfl⟩ := hq2
  refine z_astore_n dL_law_15 (by decide) ?_
  refine z_iconst (v := 1) dL_law_16 (by decide) ?_
  refine z_newa (at_ := .long) (t0 := 2) (N := 1) (x := (1, .inr (.inl (fun _ => 0)))) dL_law_17 wl_long rfl rfl (by decide) (by decide) (Nat.le_of_ble_eq_true rfl) (Nat.le_of_ble_eq_true rfl) (Nat.le_of_ble_eq_true rfl) ?_
  refine z_astore_n dL_law_19 (by decide) ?_
  refine z_iconst (v := 0) dL_law_20 (by decide) ?_
  refine z_istore dL_law_21 (by decide) ?_
  refine z_widen (ca' := 400 + 28 * 0) (sl' := 60000 + 2800 * 0) (Nat.le_of_ble_eq_true rfl) (Nat.le_of_ble_eq_true rfl) ?_
  refine law_loop hG hL 512 0 _ _ none none none none (by omega) (by omega) ?_
  refine ⟨([], 4, 20, 2, fun _ => 1, 0, [], [], 0, 0, 0), 0, zM0, fun _ => 0, zTG.fr hT (fun x q => (zu_ne (by omega)).trans ((f2 x (by omega)).trans (zu_ne (by omega)))), hmd.fr (fun x a c => zu_ne (by omega)), zM0_ok, ?_, by omega, zu_at (by omega), by omega⟩
  exact ⟨fun i e h => by simp at h, fun i e h => by simp at h, by decide, by decide, by decide, by decide, fun k hk => ⟨Nat.le_refl 1, (show 1 ≤ 9 by decide)⟩, by decide, zLok_nil, fun i q h => by simp at h, by decide, fun h => absurd rfl h, fun i e h => by simp at h⟩
end
