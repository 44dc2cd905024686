/-! the law: a step -/
theorem zand31 (x : Int32) : ∃ m, m < 2 ^ 31 ∧ x &&& 2147483647 = nI m := by
  refine ⟨(x &&& 2147483647).toBitVec.toNat, ?_, nI_sur _⟩
  rw [Int32.toBitVec_and, BitVec.toNat_and]
  have e : (2147483647 : Int32).toBitVec.toNat = 2147483647 := by decide
  rw [e]
  have := @Nat.and_le_right x.toBitVec.toNat 2147483647
  omega
theorem zcd_len {n : Nat} : ∀ L : zNS, L.Pairwise (fun a b => a.1 ≠ b.1) → (∀ q ∈ L, q.1 < n) → zcn (zcd L) n = L.length
  | [], _, _ => zcn_nil n
  | q :: L, hp, hl => by
    have h1 := List.pairwise_cons.mp hp
    have ih := zcd_len L h1.2 fun x hx => hl x (List.mem_cons_of_mem _ hx)
    have hq : zcd L q.1 = false := by
      cases h : zcd L q.1 with
      | false => rfl
      | true =>
        obtain ⟨a, ha, e⟩ := zcd_m.mp h
        exact absurd e.symm (h1.1 a ha)
    have e : zcn (zcd (q :: L)) n = zcn (zor (zcd L) q.1) n := zcn_ext n fun j _ => by
      unfold zor zcd
      rw [List.any_cons]
      by_cases c : q.1 = j
      · subst c; simp
      · rw [decide_eq_false c]; simp [show ¬ j = q.1 from fun w => c w.symm]
    rw [e, zcn_or hq, ih, if_pos (hl q List.mem_cons_self)]
    rfl
theorem zW1.badA {G : zG} {σ σ' : zH} {b c : Nat} {P : zUv → Int32 → Prop} {u : zUv} {v : Option Value} {R : Nat → Nat → Int32} (h : zW1 G σ σ' b (b + 82) P c u [(zEA, 1)] v) (hc : c ≠ 0) (S : zVs G σ b u R) : v = some (.int (-20)) ∧ zVs G σ' b u R := by
  rcases h with ⟨h, -⟩ | ⟨E, ⟨h1, h2, h3⟩, h4⟩
  · exact absurd h hc
  · have e : E = zEA := (Prod.mk.inj (List.mem_singleton.mp h3)).1
    rw [e, zxc_A] at h4
    exact ⟨h4, h1, S.2.1, S.2.2.fr h2⟩
theorem zRu7 {R : Nat → Nat → Int32} {p i q : Nat} {x : Int32} (h : q ≠ p) : zRu R p i x q = R q := if_neg h
theorem zRu77 {R : Nat → Nat → Int32} {p i j : Nat} {x : Int32} : zRu R p i x p j = if j = i then x else R p j := by
  unfold zRu
  rw [if_pos rfl]
  rfl
theorem zRl_7 {nt : zNT} {R : Nat → Nat → Int32} {i : Nat} {x : Int32} (hr : zRl nt R) : zRl nt (zRu R 7 i x) := fun j e he => by
  have := hr j e he
  rw [zRu7 (q := 0) (by decide), zRu7 (q := 1) (by decide), zRu7 (q := 2) (by decide), zRu7 (q := 3) (by decide), zRu7 (q := 4) (by decide), zRu7 (q := 5) (by decide), zRu7 (q := 6) (by decide)]
  exact this
section
variable {G : zG} {σ : zH} {b nx : Nat} {R : Nat → Nat → Int32} {nt : zNT} {lim mem wk r tk sp cs : Nat} {slow : Nat → Nat} {L : zNS} {A : List zAE}
theorem zRe_g {i lim' mem' wk' r' tk' cs' : Nat} {x : Int32} {slow' : Nat → Nat} {L' : zNS} {A' : List zAE} (he : zRe (nt, lim, mem, wk, slow, r, L, A, tk, sp, cs) R) (hi : ¬ 0 = i) (h1 : (if 1 = i then x else nI lim) = nI lim') (h2 : (if 2 = i then x else nI wk) = nI wk') (h3 : (if 3 = i then x else nI mem) = nI mem') (h4 : (if 4 = i then x else nI r) = nI r') (hs : zsm L' ≤ r') : zRe (nt, lim', mem', wk', slow', r', L', A', tk', sp, cs') (zRu R 7 i x) := by
  obtain ⟨hr, hg0, hlim, hg2, hg3, hg4, hsm, hsp, hmz⟩ := he
  refine ⟨zRl_7 hr, by rw [zRu77, if_neg hi]; exact hg0, by rw [zRu77, hlim]; exact h1, by rw [zRu77, hg2]; exact h2, by rw [zRu77, hg3]; exact h3, by rw [zRu77, hg4]; exact h4, hs, hsp, fun j hj => ?_⟩
  rw [zRu7 (by decide)]
  exact hmz j hj
theorem zRe_m {i : Nat} {y : Int32} (he : zRe (nt, lim, mem, wk, slow, r, L, A, tk, sp, cs) R) (hi : i < nt.length) : zRe (zmark nt i y, lim, mem, wk, slow, r, L, A, tk, sp, cs) (zRu R 6 i y) := by
  obtain ⟨hr, hg0, hlim, hg2, hg3, hg4, hsm, hsp, hmz⟩ := he
  have hlen : (zmark nt i y).length = nt.length := by rw [zmark, List.length_set]
  refine ⟨fun j e h => ?_, by rw [zRu7 (by decide), hlen]; exact hg0, by rw [zRu7 (by decide)]; exact hlim, by rw [zRu7 (by decide)]; exact hg2, by rw [zRu7 (by decide)]; exact hg3, by rw [zRu7 (by decide)]; exact hg4, hsm, hsp, fun j hj => ?_⟩
  · rw [zRu7 (q := 0) (by decide), zRu7 (q := 1) (by decide), zRu7 (q := 2) (by decide), zRu7 (q := 3) (by decide), zRu7 (q := 4) (by decide), zRu7 (q := 5) (by decide), zRu77]
    rcases zset_get h hi with ⟨rfl, rfl⟩ | ⟨e1, h9⟩
    · rw [if_pos rfl]
      obtain ⟨d0, d1, d2, -, d4, d5, d6, d7, d8, d9, d10, d11⟩ := hr j _ (zget_of hi)
      exact ⟨d0, d1, d2, rfl, d4, d5, d6, d7, d8, d9, d10, d11⟩
    · rw [if_neg e1]
      exact hr j e h9
  · rw [hlen] at hj
    rw [zRu77, if_neg (by omega)]
    exact hmz j hj
set_option maxRecDepth 100000 in
theorem l_part {k n : Nat} (hX : G.2.2 9 ≤ 260) (hk : k ≤ 1000) (hn : 1 ≤ n) (hn2 : n < 2 ^ 31) : zM G yL_part kL_part [.ref (G.2.2 8), .int (nI k), .int (nI n)] σ nx (fun v σ' nx' => (∃ t, t < n ∧ v = some (.int (nI t))) ∧ σ' = σ ∧ nx' = nx) := by
  refine zM.of (ls := [some (.ref (G.2.2 8)), some (.int (nI k)), some (.int (nI n)), none]) (by decide +kernel) ⟨rfl, rfl, rfl⟩ (Nat.le_of_ble_eq_true rfl) (fun _ h => h) ?_
  have hne : ¬ nI n = 0 := fun w => absurd ((nI_eq (b := 0) hn2 (by decide)).mp w) (by omega)
  have tail : ∀ x : Int32, zWP G kL_part (zFM G kL_part.2.2.2.1 (fun v σ' nx' => (∃ t, t < n ∧ v = some (.int (nI t))) ∧ σ' = σ ∧ nx' = nx)) 25 [some (.ref (G.2.2 8)), some (.int (nI k)), some (.int (nI n)), none] [.int x] σ nx 0 0 := by
    intro x
    obtain ⟨m, hm, e⟩ := zand31 x
    have hrem : nI m - nI m / nI n * nI n = nI (m % n) := pk_rem hm (by omega) (by omega)
    refine z_istore_n dL_part_25 (by decide) ?_
    refine z_iload_n dL_part_26 rfl ?_
    refine z_ldc dL_part_27 lc_L_7 ?_
    refine z_iand dL_part_29 ?_
    rw [e]
    refine z_iload_n dL_part_30 rfl ?_
    refine z_irem dL_part_31 hne ?_
    rw [hrem]
    exact z_iret dL_part_32 rfl (Nat.le_of_ble_eq_true rfl) (Nat.le_of_ble_eq_true rfl) ⟨⟨m % n, Nat.mod_lt _ (by omega), rfl⟩, rfl, rfl⟩
  by_cases c : k < G.2.2 9
  · refine z_iload_n dL_part_0 rfl ?_
    refine z_aload_n dL_part_1 rfl ?_
    refine z_xlen dL_part_2 ?_
    refine z_icmp_ge (tgt := 12) dL_part_3 (by decide) (fun q_9 => absurd q_9 ((show ¬ nI (G.2.2 9) ≤ nI k from nI_ge c (by omega)))) (fun _ => ?_)
    refine z_aload_n dL_part_6 rfl ?_
    refine z_iload_n dL_part_7 rfl ?_
    refine z_xld dL_part_8 (vp_in_nI c (by omega)) ?_
    refine z_goto (tgt := 25) dL_part_9 (by decide) ?_
    exact tail _
  · refine z_iload_n dL_part_0 rfl ?_
    refine z_aload_n dL_part_1 rfl ?_
    refine z_xlen dL_part_2 ?_
    refine z_icmp_ge (tgt := 12) dL_part_3 (by decide) (fun _ => ?_) (fun q_9 => absurd ((show nI (G.2.2 9) ≤ nI k from nI_le (by omega) (by omega))) q_9)
    refine z_sipush (v := 251) dL_part_12 (by decide) ?_
    refine z_iload_n dL_part_15 rfl ?_
    refine z_imul dL_part_16 ?_
    refine z_sipush (v := 131) dL_part_17 (by decide) ?_
    refine z_iload_n dL_part_20 rfl ?_
    refine z_imul dL_part_21 ?_
    refine z_iload_n dL_part_22 rfl ?_
    refine z_imul dL_part_23 ?_
    refine z_iadd dL_part_24 ?_
    exact tail _
set_option maxRecDepth 100000 in
theorem l_isMade {x1 x2 x3 : Nat} (hG : zKap G) (hnx : b + 82 ≤ nx) (S : zVs G σ b (nt, lim, mem, wk, slow, r, L, A, tk, sp, cs) R) (he : zRe (nt, lim, mem, wk, slow, r, L, A, tk, sp, cs) R) (h1 : x1 < 2 ^ 31) (h2 : x2 < 2 ^ 31) (h3 : x3 < 2 ^ 31) : zM G yL_isMade kL_isMade [.ref b, .ref (b + 74 + 0), .ref (b + 74 + 1), .ref (b + 74 + 2), .ref (b + 74 + 3), .ref (b + 74 + 4), .ref (b + 74 + 5), .ref (b + 81), .int (nI x1), .int (nI x2), .int (nI x3)] σ nx (zSt2 G b) := by
  refine zM.of (ls := zMl b x1 x2 x3 [none, none, none, none, none, none, none, none, none, none, none]) (by decide +kernel) ⟨rfl, rfl, rfl⟩ (Nat.le_of_ble_eq_true rfl) (fun _ h => h) ?_
  have h6 := Nat.mod_lt x1 (show 6 > 0 by decide)
  rcases (show x1 % 6 = 0 ∨ x1 % 6 = 1 ∨ x1 % 6 = 2 ∨ x1 % 6 = 3 ∨ x1 % 6 = 4 ∨ x1 % 6 = 5 by omega) with w | w | w | w | w | w
  · exact l_made0 hG hnx S he h1 h2 h3 w
  · exact l_made1 hG hnx S he h1 h2 h3 w
  · exact l_made2 hG hnx S he h1 h2 h3 w
  · exact l_made3 hG hnx S he h1 h2 h3 w
  · exact l_made4 hG hnx S he h1 h2 h3 w
  · exact l_made5 hG hnx S he h1 h2 h3 w
end
