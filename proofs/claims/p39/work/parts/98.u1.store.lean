/-! the law: what it writes into its arrays -/
theorem zTu.fr {G : zG} {σ σ' : zH} {b hi : Nat} : ∀ {u : zUv}, zTu G σ b hi u → (∀ x, (b ≤ x ∧ x < b + 74) ∨ hi ≤ x → σ' x = σ x) → zTu G σ' b hi u
  | (_, _, _, _, _, _, _, _, _, _, _), h, hf => zTG.fr h hf
def zRu (R : Nat → Nat → Int32) (q i : Nat) (x : Int32) : Nat → Nat → Int32 := fun q' => if q' = q then upd (R q) i x else R q'
section
variable {G : zG} {σ : zH} {b nx : Nat} {R : Nat → Nat → Int32} {u : zUv}
theorem zVs.st {q i : Nat} {x : Int32} (S : zVs G σ b u R) (hq : q < 7) : zVs G (zu σ (b + 74 + q) (zI G 14 (upd (R q) i x))) b u (zRu R q i x) := by
  refine ⟨zTu.fr S.1 fun y hy => zu_ne (by omega), S.2.1, fun j hj => ?_, ?_⟩
  · unfold zRu
    by_cases c : j = q
    · subst c; rw [if_pos rfl, zu_eq]
    · rw [if_neg c, zu_ne (by omega)]; exact S.2.2.1 j hj
  · unfold zRu
    rw [if_neg (by omega), zu_ne (by omega)]; exact S.2.2.2
theorem zVs.sg {i : Nat} {x : Int32} (S : zVs G σ b u R) : zVs G (zu σ (b + 81) (zI G 5 (upd (R 7) i x))) b u (zRu R 7 i x) := by
  refine ⟨zTu.fr S.1 fun y hy => zu_ne (by omega), S.2.1, fun j hj => ?_, ?_⟩
  · unfold zRu
    rw [if_neg (by omega), zu_ne (by omega)]; exact S.2.2.1 j hj
  · unfold zRu
    rw [if_pos rfl, zu_eq]
theorem z_as {k : zK} {F : zF} {pc ca sl q i : Nat} {ls : zL} {st : List Value} {x : Int32} (d : decode k.2.1 pc = .ok (.iastore, 1)) (S : zVs G σ b u R) (hq : q < 7) (hi : i < 14) (kk : ∀ σ', zVs G σ' b u (zRu R q i x) → zWP G k F (pc + 1) ls st σ' nx ca sl) : zWP G k F pc ls (.int x :: .int (nI i) :: .ref (b + 74 + q) :: st) σ nx ca sl := by
  refine z_iast d (S.2.2.1 q hq) (vp_in_nI hi (by decide)) ?_
  rw [nI_clamp (by omega)]
  exact kk _ (S.st hq)
theorem z_gs {k : zK} {F : zF} {pc ca sl i : Nat} {ls : zL} {st : List Value} {x : Int32} (d : decode k.2.1 pc = .ok (.iastore, 1)) (S : zVs G σ b u R) (hi : i < 5) (kk : ∀ σ', zVs G σ' b u (zRu R 7 i x) → zWP G k F (pc + 1) ls st σ' nx ca sl) : zWP G k F pc ls (.int x :: .int (nI i) :: .ref (b + 81) :: st) σ nx ca sl := by
  refine z_iast d S.2.2.2 (vp_in_nI hi (by decide)) ?_
  rw [nI_clamp (by omega)]
  exact kk _ S.sg
end
/-- what the law writes down of a node that it made -/
def zDR (w : Nat) (D : Nat → Int32) (fi bb cc hh ww : Int32) : Prop := D 3 = hh ∧ D 4 = ww ∧ D 11 = 0 ∧ (w = 0 → fi = D 6) ∧ (1 ≤ w → fi = D 1) ∧ (w = 1 → bb = D 7 ∧ cc = D 8) ∧ (w = 2 → bb = D 9 ∧ cc = D 10) ∧ (w = 3 → bb = D 2) ∧ (w = 4 → bb = D 7 ∧ cc = D 6) ∧ (w = 5 → bb = D 2 ∧ cc = D 6) ∧ (w = 1 → D 8 ≤ nI 8)
theorem zW1.bad3 {G : zG} {σ σ' : zH} {b c : Nat} {P : zUv → Int32 → Prop} {u : zUv} {v : Option Value} {R : Nat → Nat → Int32} {E1 E2 E3 : String} (h : zW1 G σ σ' b (b + 82) P c u [(E1, 1), (E2, 2), (E3, 3)] v) (S : zVs G σ b u R) : (c = 1 → v = some (.int (zxc E1)) ∧ zVs G σ' b u R) ∧ (c = 2 → v = some (.int (zxc E2)) ∧ zVs G σ' b u R) ∧ (c = 3 → v = some (.int (zxc E3)) ∧ zVs G σ' b u R) := by
  rcases h with ⟨h, -⟩ | ⟨E, ⟨h1, h2, h3⟩, h4⟩
  · exact ⟨fun w => by omega, fun w => by omega, fun w => by omega⟩
  · simp only [List.mem_cons, List.mem_nil_iff, or_false, Prod.mk.injEq] at h3
    rcases h3 with ⟨e, c1⟩ | ⟨e, c1⟩ | ⟨e, c1⟩
    · rw [e] at h4
      exact ⟨fun _ => ⟨h4, h1, S.2.1, S.2.2.fr h2⟩, fun w => by omega, fun w => by omega⟩
    · rw [e] at h4
      exact ⟨fun w => by omega, fun _ => ⟨h4, h1, S.2.1, S.2.2.fr h2⟩, fun w => by omega⟩
    · rw [e] at h4
      exact ⟨fun w => by omega, fun w => by omega, fun _ => ⟨h4, h1, S.2.1, S.2.2.fr h2⟩⟩
abbrev zMl (b : Nat) (x1 x2 x3 : Nat) (l : List (Option Value)) : zL := [some (.ref b), some (.ref (b + 74 + 0)), some (.ref (b + 74 + 1)), some (.ref (b + 74 + 2)), some (.ref (b + 74 + 3)), some (.ref (b + 74 + 4)), some (.ref (b + 74 + 5)), some (.ref (b + 81)), some (.int (nI x1)), some (.int (nI x2)), some (.int (nI x3))] ++ l
/-- what a step of the law leaves -/
def zSt2 (G : zG) (b : Nat) : Option Value → zH → Nat → Prop := fun v σ' _ => v = some (.int 1) ∧ ∃ u' R', zVs G σ' b u' R' ∧ zRe u' R'
section
variable {G : zG} {σ : zH} {b nx : Nat} {R : Nat → Nat → Int32} {nt : zNT} {lim mem wk r tk sp cs : Nat} {slow : Nat → Nat} {L : zNS} {A : List zAE}
set_option maxRecDepth 100000 in
theorem l_madeA {x1 x2 x3 : Nat} {dv : Int32} {l11 l12 l13 l14 l15 l16 l17 l18 l19 l21 : Option Value} {ca sl : Nat} (hca : ca ≤ 30) (hsl : sl ≤ 2830) (hd : dv < 0) (S : zVs G σ b (nt, lim, mem, wk, slow, r, L, A, tk, sp, cs) R) (he : zRe (nt, lim, mem, wk, slow, r, L, A, tk, sp, cs) R) :
    zWP G kL_isMade (zFM G kL_isMade.2.2.2.1 (zSt2 G b)) 499 (zMl b x1 x2 x3 [l11, l12, l13, l14, l15, l16, l17, l18, l19, some (.int dv), l21]) [.int dv] σ nx ca sl := by
  refine z_widen (ca' := 30) (sl' := 2830) hca hsl ?_
  refine z_istore dL_isMade_499 (by decide) ?_
  refine z_iload dL_isMade_501 rfl ?_
  refine z_if_lt (tgt := 564) dL_isMade_503 (by decide) (fun _ => ?_) (fun q_9 => absurd ((hd)) q_9)
  refine z_iload dL_isMade_564 rfl ?_
  refine z_iload dL_isMade_566 rfl ?_
  refine z_icmp_ne (tgt := 589) dL_isMade_568 (by decide) (fun q_9 => absurd ((rfl)) q_9) (fun _ => ?_)
  refine z_iload dL_isMade_571 rfl ?_
  refine z_if_lt (tgt := 585) dL_isMade_573 (by decide) (fun _ => ?_) (fun q_9 => absurd ((hd)) q_9)
  refine z_iconst (v := 1) dL_isMade_585 (by decide) ?_
  refine z_goto (tgt := 590) dL_isMade_586 (by decide) ?_
  exact z_zret dL_isMade_590 rfl rfl (Nat.le_of_ble_eq_true rfl) (Nat.le_of_ble_eq_true rfl) ⟨rfl, _, _, S, he⟩
set_option maxRecDepth 100000 in
set_option maxHeartbeats 4000000 in
theorem l_madeB {x1 x2 x3 w : Nat} {e : zNX} {fi sec cc low hh ww : Int32} {l16 l17 l21 : Option Value} {ca sl : Nat} (hG : zKap G) (hca : ca ≤ 30) (hsl : sl ≤ 2830) (hw6 : w < 6) (hn : nt.length < 14) (S : zVs G σ b (nt ++ [e], lim, mem, wk, slow, r, L, A, tk, sp, cs) R) (hL : ∀ q ∈ L, q.1 < nt.length) (he : zRe (nt, lim, mem, wk, slow, r, L, A, tk, sp, cs) R) (ek : e.2.1 = w)
    (hD : zDR w e.2.2.1 fi (if w = 2 then low else sec) cc hh ww) :
    zWP G kL_isMade (zFM G kL_isMade.2.2.2.1 (zSt2 G b)) 499 (zMl b x1 x2 x3 [some (.int (nI w)), some (.int fi), some (.int sec), some (.int cc), some (.int low), l16, l17, some (.int hh), some (.int ww), some (.int (nI nt.length)), l21]) [.int (nI nt.length)] σ nx ca sl := by
  refine z_widen (ca' := 30) (sl' := 2830) hca hsl ?_
  obtain ⟨hr, hg0, hlim, hg2, hg3, hg4, hsm, hsp, hmz⟩ := id he
  have hcn : zcd L nt.length = false := by
    cases q : zcd L nt.length with
    | false => rfl
    | true =>
      obtain ⟨a, ha, ea⟩ := zcd_m.mp q
      have := hL a ha
      omega
  have hlen : nt.length < (nt ++ [e]).length := by rw [List.length_append, List.length_singleton]; omega
  obtain ⟨bb, hbb⟩ : ∃ bb, bb = if w = 2 then low else sec := ⟨_, rfl⟩
  rw [← hbb] at hD
  have fin : ∀ (σ2 : zH) (nx2 : Nat) (R' : Nat → Nat → Int32), zVs G σ2 b (nt ++ [e], lim, mem, wk, slow, r, L, A, tk, sp, cs) R' → (∀ i, R' 0 i = if i = nt.length then nI w else R 0 i) → (∀ i, R' 1 i = if i = nt.length then fi else R 1 i) → (∀ i, R' 2 i = if i = nt.length then bb else R 2 i) → (∀ i, R' 3 i = if i = nt.length then cc else R 3 i) → (∀ i, R' 4 i = if i = nt.length then hh else R 4 i) → (∀ i, R' 5 i = if i = nt.length then ww else R 5 i) → (∀ i, R' 6 i = R 6 i) → (∀ i, R' 7 i = if i = 0 then nI (nt.length + 1) else R 7 i) →
      zRe (nt ++ [e], lim, mem, wk, slow, r, L, A, tk, sp, cs) R' := by
    intro σ2 nx2 R' S q0 q1 q2 q3 q4 q5 q6 q7
    refine ⟨fun i e9 h9 => ?_, by rw [q7, if_pos rfl, List.length_append]; rfl, by rw [q7, if_neg (by decide)]; exact hlim, by rw [q7, if_neg (by decide)]; exact hg2, by rw [q7, if_neg (by decide)]; exact hg3, by rw [q7, if_neg (by decide)]; exact hg4, hsm, hsp, fun i hi => ?_⟩
    · rw [q0, q1, q2, q3, q4, q5, q6]
      by_cases c : i = nt.length
      · subst c
        rw [List.getElem?_append_right (Nat.le_refl _), Nat.sub_self] at h9
        cases Option.some.inj h9
        obtain ⟨d3, d4, d11, d0, d1, da, db, dc, dd, de, dg⟩ := hD
        rw [if_pos rfl, if_pos rfl, if_pos rfl, if_pos rfl, if_pos rfl, if_pos rfl, ek, hmz _ (Nat.le_refl _)]
        exact ⟨rfl, d3.symm, d4.symm, d11.symm, d0, d1, da, db, dc, dd, de, dg⟩
      · have hl := zR_lt h9
        rw [List.length_append, List.length_singleton] at hl
        rw [List.getElem?_append_left (by omega)] at h9
        rw [if_neg c, if_neg c, if_neg c, if_neg c, if_neg c, if_neg c]
        exact hr i e9 h9
    · rw [List.length_append, List.length_singleton] at hi
      rw [q6]
      exact hmz i (by omega)
  by_cases w2 : w = 2
  · rw [if_pos w2] at hbb
    subst hbb
    refine z_istore dL_isMade_499 (by decide) ?_
    refine z_iload dL_isMade_501 rfl ?_
    refine z_if_lt (tgt := 564) dL_isMade_503 (by decide) (fun q_9 => absurd q_9 (((nI_pos (by omega))))) (fun _ => ?_)
    refine z_aload_n dL_isMade_506 rfl ?_
    refine z_iload dL_isMade_507 rfl ?_
    refine z_iload dL_isMade_509 rfl ?_
    refine z_as dL_isMade_511 S (by decide) (by omega) (fun σ1 S => ?_)
    refine z_aload_n dL_isMade_512 rfl ?_
    refine z_iload dL_isMade_513 rfl ?_
    refine z_iload dL_isMade_515 rfl ?_
    refine z_as dL_isMade_517 S (by decide) (by omega) (fun σ1 S => ?_)
    refine z_aload_n dL_isMade_518 rfl ?_
    refine z_iload dL_isMade_519 rfl ?_
    refine z_iload dL_isMade_521 rfl ?_
    refine z_iconst (v := 2) dL_isMade_523 (by decide) ?_
    refine z_icmp_ne (tgt := 532) dL_isMade_524 (by decide) (fun q_9 => absurd (((by rw [w2]; rfl))) q_9) (fun _ => ?_)
    refine z_iload dL_isMade_527 rfl ?_
    refine z_goto (tgt := 534) dL_isMade_529 (by decide) ?_
    refine z_as dL_isMade_534 S (by decide) (by omega) (fun σ1 S => ?_)
    refine z_aload dL_isMade_535 rfl ?_
    refine z_iload dL_isMade_537 rfl ?_
    refine z_iload dL_isMade_539 rfl ?_
    refine z_as dL_isMade_541 S (by decide) (by omega) (fun σ1 S => ?_)
    refine z_aload dL_isMade_542 rfl ?_
    refine z_iload dL_isMade_544 rfl ?_
    refine z_iload dL_isMade_546 rfl ?_
    refine z_as dL_isMade_548 S (by decide) (by omega) (fun σ1 S => ?_)
    refine z_aload dL_isMade_549 rfl ?_
    refine z_iload dL_isMade_551 rfl ?_
    refine z_iload dL_isMade_553 rfl ?_
    refine z_as dL_isMade_555 S (by decide) (by omega) (fun σ1 S => ?_)
    refine z_aload dL_isMade_556 rfl ?_
    refine z_iconst (v := 0) dL_isMade_558 (by decide) ?_
    refine z_dup2 dL_isMade_559 rfl rfl ?_
    refine z_gr dL_isMade_560 S (i := 0) (by decide) hg0 ?_
    refine z_iconst (v := 1) dL_isMade_561 (by decide) ?_
    refine z_iadd dL_isMade_562 ?_
    rw [nI_1]
    refine z_gs dL_isMade_563 S (i := 0) (by decide) (fun σ1 S => ?_)
    refine z_iload dL_isMade_564 rfl ?_
    refine z_iload dL_isMade_566 rfl ?_
    refine z_icmp_ne (tgt := 589) dL_isMade_568 (by decide) (fun q_9 => absurd ((rfl)) q_9) (fun _ => ?_)
    refine z_iload dL_isMade_571 rfl ?_
    refine z_if_lt (tgt := 585) dL_isMade_573 (by decide) (fun q_9 => absurd q_9 (((nI_pos (by omega))))) (fun _ => ?_)
    refine z_aload_n dL_isMade_576 rfl ?_
    refine z_iload dL_isMade_577 rfl ?_
    refine z_callV dL_isMade_579 cv0_L_88 (q_isCached hG S hlen) rfl S.c rfl rfl ⟨(Nat.le_of_ble_eq_true rfl), (Nat.le_of_ble_eq_true rfl)⟩ (Nat.le_of_ble_eq_true rfl) (Nat.le_of_ble_eq_true rfl) (Nat.le_of_ble_eq_true rfl) (fun v σ1 nx1 hx1 hq1 => ?_)
    obtain ⟨rfl, S, rfl⟩ := hq1
    rw [hcn, if_neg (by decide)]
    refine z_if_ne (tgt := 589) dL_isMade_582 (by decide) (fun q_9 => absurd ((rfl)) q_9) (fun _ => ?_)
    refine z_iconst (v := 1) dL_isMade_585 (by decide) ?_
    refine z_goto (tgt := 590) dL_isMade_586 (by decide) ?_
    exact z_zret dL_isMade_590 rfl rfl (Nat.le_of_ble_eq_true rfl) (Nat.le_of_ble_eq_true rfl) ⟨rfl, _, _, S, fin _ nx1 _ S (fun _ => rfl) (fun _ => rfl) (fun _ => rfl) (fun _ => rfl) (fun _ => rfl) (fun _ => rfl) (fun _ => rfl) (fun _ => rfl)⟩
  · rw [if_neg w2] at hbb
    subst hbb
    refine z_istore dL_isMade_499 (by decide) ?_
    refine z_iload dL_isMade_501 rfl ?_
    refine z_if_lt (tgt := 564) dL_isMade_503 (by decide) (fun q_9 => absurd q_9 (((nI_pos (by omega))))) (fun _ => ?_)
    refine z_aload_n dL_isMade_506 rfl ?_
    refine z_iload dL_isMade_507 rfl ?_
    refine z_iload dL_isMade_509 rfl ?_
    refine z_as dL_isMade_511 S (by decide) (by omega) (fun σ1 S => ?_)
    refine z_aload_n dL_isMade_512 rfl ?_
    refine z_iload dL_isMade_513 rfl ?_
    refine z_iload dL_isMade_515 rfl ?_
    refine z_as dL_isMade_517 S (by decide) (by omega) (fun σ1 S => ?_)
    refine z_aload_n dL_isMade_518 rfl ?_
    refine z_iload dL_isMade_519 rfl ?_
    refine z_iload dL_isMade_521 rfl ?_
    refine z_iconst (v := 2) dL_isMade_523 (by decide) ?_
    refine z_icmp_ne (tgt := 532) dL_isMade_524 (by decide) (fun _ => ?_) (fun q_9 => absurd q_9 (((fun y => w2 ((nI_eq (b := 2) (by omega) (by decide)).mp y)))))
    refine z_iload dL_isMade_532 rfl ?_
    refine z_as dL_isMade_534 S (by decide) (by omega) (fun σ1 S => ?_)
    refine z_aload dL_isMade_535 rfl ?_
    refine z_iload dL_isMade_537 rfl ?_
    refine z_iload dL_isMade_539 rfl ?_
    refine z_as dL_isMade_541 S (by decide) (by omega) (fun σ1 S => ?_)
    refine z_aload dL_isMade_542 rfl ?_
    refine z_iload dL_isMade_544 rfl ?_
    refine z_iload dL_isMade_546 rfl ?_
    refine z_as dL_isMade_548 S (by decide) (by omega) (fun σ1 S => ?_)
    refine z_aload dL_isMade_549 rfl ?_
    refine z_iload dL_isMade_551 rfl ?_
    refine z_iload dL_isMade_553 rfl ?_
    refine z_as dL_isMade_555 S (by decide) (by omega) (fun σ1 S => ?_)
    refine z_aload dL_isMade_556 rfl ?_
    refine z_iconst (v := 0) dL_isMade_558 (by decide) ?_
    refine z_dup2 dL_isMade_559 rfl rfl ?_
    refine z_gr dL_isMade_560 S (i := 0) (by decide) hg0 ?_
    refine z_iconst (v := 1) dL_isMade_561 (by decide) ?_
    refine z_iadd dL_isMade_562 ?_
    rw [nI_1]
    refine z_gs dL_isMade_563 S (i := 0) (by decide) (fun σ1 S => ?_)
    refine z_iload dL_isMade_564 rfl ?_
    refine z_iload dL_isMade_566 rfl ?_
    refine z_icmp_ne (tgt := 589) dL_isMade_568 (by decide) (fun q_9 => absurd ((rfl)) q_9) (fun _ => ?_)
    refine z_iload dL_isMade_571 rfl ?_
    refine z_if_lt (tgt := 585) dL_isMade_573 (by decide) (fun q_9 => absurd q_9 (((nI_pos (by omega))))) (fun _ => ?_)
    refine z_aload_n dL_isMade_576 rfl ?_
    refine z_iload dL_isMade_577 rfl ?_
    refine z_callV dL_isMade_579 cv0_L_88 (q_isCached hG S hlen) rfl S.c rfl rfl ⟨(Nat.le_of_ble_eq_true rfl), (Nat.le_of_ble_eq_true rfl)⟩ (Nat.le_of_ble_eq_true rfl) (Nat.le_of_ble_eq_true rfl) (Nat.le_of_ble_eq_true rfl) (fun v σ1 nx1 hx1 hq1 => ?_)
    obtain ⟨rfl, S, rfl⟩ := hq1
    rw [hcn, if_neg (by decide)]
    refine z_if_ne (tgt := 589) dL_isMade_582 (by decide) (fun q_9 => absurd ((rfl)) q_9) (fun _ => ?_)
    refine z_iconst (v := 1) dL_isMade_585 (by decide) ?_
    refine z_goto (tgt := 590) dL_isMade_586 (by decide) ?_
    exact z_zret dL_isMade_590 rfl rfl (Nat.le_of_ble_eq_true rfl) (Nat.le_of_ble_eq_true rfl) ⟨rfl, _, _, S, fin _ nx1 _ S (fun _ => rfl) (fun _ => rfl) (fun _ => rfl) (fun _ => rfl) (fun _ => rfl) (fun _ => rfl) (fun _ => rfl) (fun _ => rfl)⟩
end
