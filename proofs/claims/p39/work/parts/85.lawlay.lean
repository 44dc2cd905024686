/-! the law: rows of its arrays; its small methods -/
section
variable {G : zG} {σ : zH} {b nx : Nat} {R : Nat → Nat → Int32} {nt : zNT} {lim mem wk r tk sp cs : Nat} {slow : Nat → Nat} {L : zNS} {A : List zAE}
/-- an element of one of the law's arrays of nodes -/
theorem z_ar {k : zK} {F : zF} {pc ca sl q i : Nat} {ls : zL} {st : List Value} {w : Int32} {u : zUv} (d : decode k.2.1 pc = .ok (.iaload, 1)) (S : zVs G σ b u R) (hq : q < 7) (hi : i < 14) (hv : R q i = w) (kk : zWP G k F (pc + 1) ls (.int w :: st) σ nx ca sl) : zWP G k F pc ls (.int (nI i) :: .ref (b + 74 + q) :: st) σ nx ca sl := by
  refine z_iald d (S.2.2.1 q hq) (vp_in_nI hi (by decide)) ?_
  rw [nI_clamp (by omega), hv]
  exact kk
/-- one of the law's numbers -/
theorem z_gr {k : zK} {F : zF} {pc ca sl i : Nat} {ls : zL} {st : List Value} {w : Int32} {u : zUv} (d : decode k.2.1 pc = .ok (.iaload, 1)) (S : zVs G σ b u R) (hi : i < 5) (hv : R 7 i = w) (kk : zWP G k F (pc + 1) ls (.int w :: st) σ nx ca sl) : zWP G k F pc ls (.int (nI i) :: .ref (b + 81) :: st) σ nx ca sl := by
  refine z_iald d S.2.2.2 (vp_in_nI hi (by decide)) ?_
  rw [nI_clamp (by omega), hv]
  exact kk
set_option maxRecDepth 100000 in
theorem l_isRow {i j q : Nat} {x y : Int32} (hG : zKap G) (S : zVs G σ b (nt, lim, mem, wk, slow, r, L, A, tk, sp, cs) R) (hi : i < nt.length) (hj : j < (zct lim nt i).length) (hq : q < zsz (zct lim nt i) j) (he : zrw (zct lim nt i) j q = (x, y)) : zM G yL_isRow kL_isRow [.ref b, .int (nI i), .int (nI j), .int (nI q), .int x, .int y] σ nx (fun v σ' nx' => v = some (.int 1) ∧ zVs G σ' b (nt, lim, mem, wk, slow, r, L, A, tk, sp, cs) R ∧ nx' = nx) := by
  refine zM.of (ls := [some (.ref b), some (.int (nI i)), some (.int (nI j)), some (.int (nI q)), some (.int x), some (.int y)]) (by decide +kernel) ⟨rfl, rfl, rfl⟩ (Nat.le_of_ble_eq_true rfl) (fun _ h => h) ?_
  have e1 : (zrw (zct lim nt i) j q).1 = x := by rw [he]
  have e2 : (zrw (zct lim nt i) j q).2 = y := by rw [he]
  refine z_aload_n dL_isRow_0 rfl ?_
  refine z_iconst (v := 3) dL_isRow_1 (by decide) ?_
  refine z_iload_n dL_isRow_2 rfl ?_
  refine z_iload_n dL_isRow_3 rfl ?_
  refine z_iload_n dL_isRow_4 rfl ?_
  refine z_callH dL_isRow_5 ch0_L_102 (g_asks_keyAt hG S hi hj hq) rfl rfl ⟨(Nat.le_of_ble_eq_true rfl), (Nat.le_of_ble_eq_true rfl)⟩ (Nat.le_of_ble_eq_true rfl) (Nat.le_of_ble_eq_true rfl) (Nat.le_of_ble_eq_true rfl) (fun v σ1 nx1 hx1 hq1 => ?_)
  obtain ⟨rfl, S, rfl⟩ := hq1
  refine z_iload dL_isRow_8 rfl ?_
  refine z_icmp_ne (tgt := 30) dL_isRow_10 (by decide) (fun q => absurd ((e1)) q) (fun _ => ?_)
  refine z_aload_n dL_isRow_13 rfl ?_
  refine z_iconst (v := 4) dL_isRow_14 (by decide) ?_
  refine z_iload_n dL_isRow_15 rfl ?_
  refine z_iload_n dL_isRow_16 rfl ?_
  refine z_iload_n dL_isRow_17 rfl ?_
  refine z_callH dL_isRow_18 ch0_L_102 (g_asks_valueAt hG S hi hj hq) rfl rfl ⟨(Nat.le_of_ble_eq_true rfl), (Nat.le_of_ble_eq_true rfl)⟩ (Nat.le_of_ble_eq_true rfl) (Nat.le_of_ble_eq_true rfl) (Nat.le_of_ble_eq_true rfl) (fun v σ1 nx1 hx1 hq1 => ?_)
  obtain ⟨rfl, S, rfl⟩ := hq1
  refine z_iload dL_isRow_21 rfl ?_
  refine z_icmp_ne (tgt := 30) dL_isRow_23 (by decide) (fun q => absurd ((e2)) q) (fun _ => ?_)
  refine z_iconst (v := 1) dL_isRow_26 (by decide) ?_
  refine z_goto (tgt := 31) dL_isRow_27 (by decide) ?_
  exact z_zret dL_isRow_31 rfl rfl (Nat.le_of_ble_eq_true rfl) (Nat.le_of_ble_eq_true rfl) ⟨rfl, S, rfl⟩
set_option maxRecDepth 100000 in
/-- a share, by remainders -/
theorem zmd_rr {x : Int32} {p : Nat} (h0 : 0 < p) (hp : p ≤ 8) : x - x / nI p * nI p + nI p - (x - x / nI p * nI p + nI p) / nI p * nI p = zmd x (nI p) := by
  have hd : (0 : Int32) < nI p := by have := nI_lt h0 (show p < 2 ^ 31 by omega); rwa [nI_0] at this
  have hd0 : (nI p).toInt = p := nI_toInt (by omega)
  have hr := zrem (x := x) hd
  obtain ⟨y, hy⟩ : ∃ y, y = x - x / nI p * nI p := ⟨_, rfl⟩
  unfold zmd
  rw [← hy] at hr ⊢
  have b1 : -(p : Int) < y.toInt ∧ y.toInt < p := by
    rw [hr]
    have hd1 : 0 < (nI p).toInt := by omega
    rcases Int.lt_or_le x.toInt 0 with q | q
    · have := ztm_neg q hd1; omega
    · have := ztm_pos q hd1; omega
  have e2 : (y + nI p).toInt = y.toInt + p := by rw [Int32.toInt_add, hd0, Int.bmod_eq_of_le (by omega) (by omega)]
  have hr2 := zrem (x := y + nI p) hd
  rw [e2, hd0] at hr2
  apply Int32.toInt_inj.mp
  rw [hr2]
  by_cases c : y < 0
  · rw [if_pos c, e2]
    have := (zlt0 _).mp c
    exact Int.tmod_eq_of_lt (by omega) (by omega)
  · rw [if_neg c]
    have : ¬ y.toInt < 0 := fun w => c ((zlt0 _).mpr w)
    rw [Int.tmod_eq_emod_of_nonneg (by omega), Int.add_emod_right]
    exact Int.emod_eq_of_lt (by omega) (by omega)
set_option maxRecDepth 100000 in
theorem l_share {x : Int32} {p : Nat} (h0 : 0 < p) (hp : p ≤ 8) (S : zVs G σ b (nt, lim, mem, wk, slow, r, L, A, tk, sp, cs) R) : zM G yL_share kL_share [.int x, .int (nI p)] σ nx (fun v σ' nx' => v = some (.int (zmd x (nI p))) ∧ zVs G σ' b (nt, lim, mem, wk, slow, r, L, A, tk, sp, cs) R ∧ nx' = nx) := by
  refine zM.of (ls := [some (.int x), some (.int (nI p))]) (by decide +kernel) ⟨rfl, rfl, rfl⟩ (Nat.le_of_ble_eq_true rfl) (fun _ h => h) ?_
  have hn : ¬ nI p = 0 := fun w => by have := (nI_eq (a := p) (b := 0) (by omega) (by decide)).mp w; omega
  refine z_iload_n dL_share_0 rfl ?_
  refine z_iload_n dL_share_1 rfl ?_
  refine z_irem dL_share_2 hn ?_
  refine z_iload_n dL_share_3 rfl ?_
  refine z_iadd dL_share_4 ?_
  refine z_iload_n dL_share_5 rfl ?_
  refine z_irem dL_share_6 hn ?_
  rw [zmd_rr h0 hp]
  exact z_iret dL_share_7 rfl (Nat.le_of_ble_eq_true rfl) (Nat.le_of_ble_eq_true rfl) ⟨rfl, S, rfl⟩
end
