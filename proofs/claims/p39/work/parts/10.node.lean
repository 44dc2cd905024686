/-! Node -/
section
variable {G : zG} {k : zK} {F : zF} {pc nx ca sl : Nat} {ls : zL} {st : List Value} {σ : zH}
theorem z_racmp_ne {x y : Nat} {off : Int} {tgt : Nat} (d : decode k.2.1 pc = .ok (.if_acmp .ne off, 3)) (ht : (pc : Int) + off = (tgt : Int))
    (kt : ¬ x = y → zWP G k F tgt ls st σ nx ca sl) (kf : x = y → zWP G k F (pc + 3) ls st σ nx ca sl) : zWP G k F pc ls (.ref y :: .ref x :: st) σ nx ca sl :=
  z_acmp_ne (rx := some x) (ry := some y) d ht (fun h => kt fun e => h (by rw [e])) (fun h => kf (Option.some.inj h))
theorem z_racmp_eq {x y : Nat} {off : Int} {tgt : Nat} (d : decode k.2.1 pc = .ok (.if_acmp .eq off, 3)) (ht : (pc : Int) + off = (tgt : Int))
    (kt : x = y → zWP G k F tgt ls st σ nx ca sl) (kf : ¬ x = y → zWP G k F (pc + 3) ls st σ nx ca sl) : zWP G k F pc ls (.ref y :: .ref x :: st) σ nx ca sl :=
  z_acmp_eq (rx := some x) (ry := some y) d ht (fun h => kt (Option.some.inj h)) (fun h => kf fun e => h (by rw [e]))
theorem z_dom (h : (∀ a e, σ a = some e → a < nx) → zWP G k F pc ls st σ nx ca sl) : zWP G k F pc ls st σ nx ca sl := by
  intro p l e s m args below meth c A H locs la C hH hS hl
  exact h (fun a e he => hH.lt he) p l e s m args below meth c A H locs la C hH hS hl
end
/-- the constants of the kinds are apart -/
def zKap (G : zG) : Prop := ∀ i j, i < 6 → j < 6 → G.2.2 i = G.2.2 j → i = j
def zNF (G : zG) (n k : Nat) (D : Nat → Int32) : List Value := [.ref (G.2.2 k), .int (D 1), .int (D 2), .int (D 3), .int (D 4), .ref (n + 1), .ref (n + 8), .ref (n + 15), .int (D 6), .int (D 7), .int (D 8), .int (D 9), .int (D 10), .int (D 11), .int (D 12)]
def zNode (G : zG) (σ : zH) (n k : Nat) (D : Nat → Int32) (R : zP2) : Prop := σ n = some (.inr (7, zNF G n k D)) ∧ zRows G σ (n + 1) (if k = 0 then 12 else 0) R []
theorem zNode.fr {G : zG} {σ σ' : zH} {n k : Nat} {D : Nat → Int32} {R : zP2} (h : zNode G σ n k D R) (hf : ∀ b, n ≤ b → b < n + 8 → σ' b = σ b) : zNode G σ' n k D R := ⟨(hf n (by omega) (by omega)).trans h.1, h.2.fr fun b a c => hf b (by omega) (by omega)⟩
/-- what a map makes of a row -/
def zmk (D : Nat → Int32) (q : Int32 × Int32) : Int32 := if D 7 = 2 then q.1 + D 8 else if D 7 = 3 then zmd q.1 (D 8) else if D 7 = 4 then q.2 else q.1
def zmv (D : Nat → Int32) (q : Int32 × Int32) : Int32 := if D 7 = 1 then q.2 * D 8 else if D 7 = 4 then q.1 else if D 7 = 2 ∨ D 7 = 3 then q.2 else q.2 + D 8
set_option maxRecDepth 100000 in
theorem c_X7_newKey {G : zG} {σ : zH} {nx n k : Nat} {D : Nat → Int32} {R : zP2} {q : Int32 × Int32} (h : zNode G σ n k D R) (hc : D 7 = 3 → 0 < D 8) : zM G yX7_newKey kX7_newKey [.ref n, .int q.1, .int q.2] σ nx (fun v σ' nx' => v = some (.int (zmk D q)) ∧ σ' = σ ∧ nx' = nx) := by
  refine zM.of (ls := [some (.ref n), some (.int q.1), some (.int q.2)]) (by decide +kernel) ⟨rfl, rfl, rfl⟩ (Nat.le_of_ble_eq_true rfl) (fun _ h => h) ?_
  have h1 := h.1
  refine z_aload_n dX7_newKey_0 rfl ?_
  refine z_getf dX7_newKey_1 fl_X7_48 h1 rfl ?_
  refine z_iconst (v := 2) dX7_newKey_4 (by decide) ?_
  refine z_icmp_ne (tgt := 15) dX7_newKey_5 (by decide) (fun h5 => ?_) (fun h5 => ?_)
  · refine z_aload_n dX7_newKey_15 rfl ?_
    refine z_getf dX7_newKey_16 fl_X7_48 h1 rfl ?_
    refine z_iconst (v := 3) dX7_newKey_19 (by decide) ?_
    refine z_icmp_ne (tgt := 32) dX7_newKey_20 (by decide) (fun h20 => ?_) (fun h20 => ?_)
    · refine z_aload_n dX7_newKey_32 rfl ?_
      refine z_getf dX7_newKey_33 fl_X7_48 h1 rfl ?_
      refine z_iconst (v := 4) dX7_newKey_36 (by decide) ?_
      refine z_icmp_ne (tgt := 44) dX7_newKey_37 (by decide) (fun h37 => ?_) (fun h37 => ?_)
      · refine z_iload_n dX7_newKey_44 rfl ?_
        exact z_iret dX7_newKey_45 rfl (Nat.le_of_ble_eq_true rfl) (Nat.le_of_ble_eq_true rfl) ⟨by rw [zmk, if_neg h5, if_neg h20, if_neg h37], rfl, rfl⟩
      · refine z_iload_n dX7_newKey_40 rfl ?_
        refine z_goto (tgt := 45) dX7_newKey_41 (by decide) ?_
        exact z_iret dX7_newKey_45 rfl (Nat.le_of_ble_eq_true rfl) (Nat.le_of_ble_eq_true rfl) ⟨by rw [zmk, if_neg h5, if_neg h20, if_pos h37], rfl, rfl⟩
    · refine z_iload_n dX7_newKey_23 rfl ?_
      refine z_aload_n dX7_newKey_24 rfl ?_
      refine z_getf dX7_newKey_25 fl_X7_51 h1 rfl ?_
      refine z_callS dX7_newKey_28 cv_X7_54 (c_X11_modulo (hc h20)) rfl rfl ⟨(Nat.le_of_ble_eq_true rfl), (Nat.le_of_ble_eq_true rfl)⟩ (Nat.le_of_ble_eq_true rfl) (Nat.le_of_ble_eq_true rfl) (Nat.le_of_ble_eq_true rfl) (fun v σ1 nx1 hx1 hq1 => ?_)
      obtain ⟨rfl, rfl, rfl⟩ := hq1
      exact z_iret dX7_newKey_31 rfl (Nat.le_of_ble_eq_true rfl) (Nat.le_of_ble_eq_true rfl) ⟨by rw [zmk, if_neg h5, if_pos h20], rfl, rfl⟩
  · refine z_iload_n dX7_newKey_8 rfl ?_
    refine z_aload_n dX7_newKey_9 rfl ?_
    refine z_getf dX7_newKey_10 fl_X7_51 h1 rfl ?_
    refine z_iadd dX7_newKey_13 ?_
    exact z_iret dX7_newKey_14 rfl (Nat.le_of_ble_eq_true rfl) (Nat.le_of_ble_eq_true rfl) ⟨by rw [zmk, if_pos h5], rfl, rfl⟩
set_option maxRecDepth 100000 in
theorem c_X7_newValue {G : zG} {σ : zH} {nx n k : Nat} {D : Nat → Int32} {R : zP2} {q : Int32 × Int32} (h : zNode G σ n k D R) : zM G yX7_newValue kX7_newValue [.ref n, .int q.1, .int q.2] σ nx (fun v σ' nx' => v = some (.int (zmv D q)) ∧ σ' = σ ∧ nx' = nx) := by
  refine zM.of (ls := [some (.ref n), some (.int q.1), some (.int q.2)]) (by decide +kernel) ⟨rfl, rfl, rfl⟩ (Nat.le_of_ble_eq_true rfl) (fun _ h => h) ?_
  have h1 := h.1
  refine z_aload_n dX7_newValue_0 rfl ?_
  refine z_getf dX7_newValue_1 fl_X7_48 h1 rfl ?_
  refine z_iconst (v := 1) dX7_newValue_4 (by decide) ?_
  refine z_icmp_ne (tgt := 15) dX7_newValue_5 (by decide) (fun h5 => ?_) (fun h5 => ?_)
  · refine z_aload_n dX7_newValue_15 rfl ?_
    refine z_getf dX7_newValue_16 fl_X7_48 h1 rfl ?_
    refine z_iconst (v := 4) dX7_newValue_19 (by decide) ?_
    refine z_icmp_ne (tgt := 25) dX7_newValue_20 (by decide) (fun h20 => ?_) (fun h20 => ?_)
    · refine z_aload_n dX7_newValue_25 rfl ?_
      refine z_getf dX7_newValue_26 fl_X7_48 h1 rfl ?_
      refine z_iconst (v := 2) dX7_newValue_29 (by decide) ?_
      refine z_icmp_eq (tgt := 41) dX7_newValue_30 (by decide) (fun h30 => ?_) (fun h30 => ?_)
      · refine z_iload_n dX7_newValue_41 rfl ?_
        refine z_goto (tgt := 51) dX7_newValue_42 (by decide) ?_
        exact z_iret dX7_newValue_51 rfl (Nat.le_of_ble_eq_true rfl) (Nat.le_of_ble_eq_true rfl) ⟨by rw [zmv, if_neg h5, if_neg h20, if_pos (Or.inl h30)], rfl, rfl⟩
      · refine z_aload_n dX7_newValue_33 rfl ?_
        refine z_getf dX7_newValue_34 fl_X7_48 h1 rfl ?_
        refine z_iconst (v := 3) dX7_newValue_37 (by decide) ?_
        refine z_icmp_ne (tgt := 45) dX7_newValue_38 (by decide) (fun h38 => ?_) (fun h38 => ?_)
        · refine z_iload_n dX7_newValue_45 rfl ?_
          refine z_aload_n dX7_newValue_46 rfl ?_
          refine z_getf dX7_newValue_47 fl_X7_51 h1 rfl ?_
          refine z_iadd dX7_newValue_50 ?_
          exact z_iret dX7_newValue_51 rfl (Nat.le_of_ble_eq_true rfl) (Nat.le_of_ble_eq_true rfl) ⟨by rw [zmv, if_neg h5, if_neg h20, if_neg (by rintro (q|q); exact h30 q; exact h38 q)], rfl, rfl⟩
        · refine z_iload_n dX7_newValue_41 rfl ?_
          refine z_goto (tgt := 51) dX7_newValue_42 (by decide) ?_
          exact z_iret dX7_newValue_51 rfl (Nat.le_of_ble_eq_true rfl) (Nat.le_of_ble_eq_true rfl) ⟨by rw [zmv, if_neg h5, if_neg h20, if_pos (Or.inr h38)], rfl, rfl⟩
    · refine z_iload_n dX7_newValue_23 rfl ?_
      exact z_iret dX7_newValue_24 rfl (Nat.le_of_ble_eq_true rfl) (Nat.le_of_ble_eq_true rfl) ⟨by rw [zmv, if_neg h5, if_pos h20], rfl, rfl⟩
  · refine z_iload_n dX7_newValue_8 rfl ?_
    refine z_aload_n dX7_newValue_9 rfl ?_
    refine z_getf dX7_newValue_10 fl_X7_51 h1 rfl ?_
    refine z_imul dX7_newValue_13 ?_
    exact z_iret dX7_newValue_14 rfl (Nat.le_of_ble_eq_true rfl) (Nat.le_of_ble_eq_true rfl) ⟨by rw [zmv, if_pos h5], rfl, rfl⟩
/-- a group's value: of the first row, and on -/
def zg0 (D : Nat → Int32) (y : Int32) : Int32 := if D 7 = 3 then 1 else y
def zg1 (D : Nat → Int32) (x y : Int32) : Int32 := if D 7 = 1 then (if y < x then y else x) else if D 7 = 2 then (if x < y then y else x) else x + zg0 D y
set_option maxRecDepth 100000 in
theorem c_X7_firstOfGroup {G : zG} {σ : zH} {nx n k : Nat} {D : Nat → Int32} {R : zP2} {y : Int32} (h : zNode G σ n k D R) : zM G yX7_firstOfGroup kX7_firstOfGroup [.ref n, .int y] σ nx (fun v σ' nx' => v = some (.int (zg0 D y)) ∧ σ' = σ ∧ nx' = nx) := by
  refine zM.of (ls := [some (.ref n), some (.int y)]) (by decide +kernel) ⟨rfl, rfl, rfl⟩ (Nat.le_of_ble_eq_true rfl) (fun _ h => h) ?_
  have h1 := h.1
  refine z_aload_n dX7_firstOfGroup_0 rfl ?_
  refine z_getf dX7_firstOfGroup_1 fl_X7_48 h1 rfl ?_
  refine z_iconst (v := 3) dX7_firstOfGroup_4 (by decide) ?_
  refine z_icmp_ne (tgt := 12) dX7_firstOfGroup_5 (by decide) (fun h5 => ?_) (fun h5 => ?_)
  · refine z_iload_n dX7_firstOfGroup_12 rfl ?_
    exact z_iret dX7_firstOfGroup_13 rfl (Nat.le_of_ble_eq_true rfl) (Nat.le_of_ble_eq_true rfl) ⟨by rw [zg0, if_neg h5], rfl, rfl⟩
  · refine z_iconst (v := 1) dX7_firstOfGroup_8 (by decide) ?_
    refine z_goto (tgt := 13) dX7_firstOfGroup_9 (by decide) ?_
    exact z_iret dX7_firstOfGroup_13 rfl (Nat.le_of_ble_eq_true rfl) (Nat.le_of_ble_eq_true rfl) ⟨by rw [zg0, if_pos h5], rfl, rfl⟩
set_option maxRecDepth 100000 in
theorem c_X7_nextOfGroup {G : zG} {σ : zH} {nx n k : Nat} {D : Nat → Int32} {R : zP2} {x y : Int32} (h : zNode G σ n k D R) : zM G yX7_nextOfGroup kX7_nextOfGroup [.ref n, .int x, .int y] σ nx (fun v σ' nx' => v = some (.int (zg1 D x y)) ∧ σ' = σ ∧ nx' = nx) := by
  refine zM.of (ls := [some (.ref n), some (.int x), some (.int y)]) (by decide +kernel) ⟨rfl, rfl, rfl⟩ (Nat.le_of_ble_eq_true rfl) (fun _ h => h) ?_
  have h1 := h.1
  refine z_aload_n dX7_nextOfGroup_0 rfl ?_
  refine z_getf dX7_nextOfGroup_1 fl_X7_48 h1 rfl ?_
  refine z_iconst (v := 1) dX7_nextOfGroup_4 (by decide) ?_
  refine z_icmp_ne (tgt := 14) dX7_nextOfGroup_5 (by decide) (fun h5 => ?_) (fun h5 => ?_)
  · refine z_aload_n dX7_nextOfGroup_14 rfl ?_
    refine z_getf dX7_nextOfGroup_15 fl_X7_48 h1 rfl ?_
    refine z_iconst (v := 2) dX7_nextOfGroup_18 (by decide) ?_
    refine z_icmp_ne (tgt := 28) dX7_nextOfGroup_19 (by decide) (fun h19 => ?_) (fun h19 => ?_)
    · refine z_iload_n dX7_nextOfGroup_28 rfl ?_
      refine z_aload_n dX7_nextOfGroup_29 rfl ?_
      refine z_iload_n dX7_nextOfGroup_30 rfl ?_
      refine z_callV dX7_nextOfGroup_31 cv_X7_66 (c_X7_firstOfGroup h) rfl h1 rfl rfl ⟨(Nat.le_of_ble_eq_true rfl), (Nat.le_of_ble_eq_true rfl)⟩ (Nat.le_of_ble_eq_true rfl) (Nat.le_of_ble_eq_true rfl) (Nat.le_of_ble_eq_true rfl) (fun v σ1 nx1 hx1 hq1 => ?_)
      obtain ⟨rfl, rfl, rfl⟩ := hq1
      refine z_iadd dX7_nextOfGroup_34 ?_
      exact z_iret dX7_nextOfGroup_35 rfl (Nat.le_of_ble_eq_true rfl) (Nat.le_of_ble_eq_true rfl) ⟨by rw [zg1, if_neg h5, if_neg h19], rfl, rfl⟩
    · refine z_iload_n dX7_nextOfGroup_22 rfl ?_
      refine z_iload_n dX7_nextOfGroup_23 rfl ?_
      refine z_callS dX7_nextOfGroup_24 cv_X7_63 c_max rfl rfl ⟨(Nat.le_of_ble_eq_true rfl), (Nat.le_of_ble_eq_true rfl)⟩ (Nat.le_of_ble_eq_true rfl) (Nat.le_of_ble_eq_true rfl) (Nat.le_of_ble_eq_true rfl) (fun v σ1 nx1 hx1 hq1 => ?_)
      obtain ⟨rfl, rfl, rfl⟩ := hq1
      exact z_iret dX7_nextOfGroup_27 rfl (Nat.le_of_ble_eq_true rfl) (Nat.le_of_ble_eq_true rfl) ⟨by rw [zg1, if_neg h5, if_pos h19], rfl, rfl⟩
  · refine z_iload_n dX7_nextOfGroup_8 rfl ?_
    refine z_iload_n dX7_nextOfGroup_9 rfl ?_
    refine z_callS dX7_nextOfGroup_10 cv_X7_58 c_min rfl rfl ⟨(Nat.le_of_ble_eq_true rfl), (Nat.le_of_ble_eq_true rfl)⟩ (Nat.le_of_ble_eq_true rfl) (Nat.le_of_ble_eq_true rfl) (Nat.le_of_ble_eq_true rfl) (fun v σ1 nx1 hx1 hq1 => ?_)
    obtain ⟨rfl, rfl, rfl⟩ := hq1
    exact z_iret dX7_nextOfGroup_13 rfl (Nat.le_of_ble_eq_true rfl) (Nat.le_of_ble_eq_true rfl) ⟨by rw [zg1, if_pos h5], rfl, rfl⟩
/-- what a fresh node holds -/
def zD0 (a b c d : Int32) : Nat → Int32 := fun j => if j = 1 then a else if j = 2 then b else if j = 3 then c else if j = 4 then d else 0
set_option maxRecDepth 100000 in
theorem c_X7_init {G : zG} {σ : zH} {n k bd : Nat} {x1 x2 x4 : Int32} (hG : zKap G) (hk : k < 6) (hbd : bd ≤ 300) (h : σ n = some (.inr (7, [.null, .int 0, .int 0, .int 0, .int 0, .null, .null, .null, .int 0, .int 0, .int 0, .int 0, .int 0, .int 0, .int 0]))) : zM G yX7_init kX7_init [.ref n, .ref (G.2.2 k), .int x1, .int x2, .int (nI bd), .int x4] σ (n + 1) (fun v σ' nx' => v = none ∧ zNode G σ' n k (zD0 x1 x2 (nI bd) x4) [] ∧ zRows G σ' (n + 8) bd [] [] ∧ zRows G σ' (n + 15) bd [] [] ∧ zFr σ σ' n 22 ∧ nx' = n + 22) := by
  refine zM.of (ls := [some (.ref n), some (.ref (G.2.2 k)), some (.int x1), some (.int x2), some (.int (nI bd)), some (.int x4)]) (by decide +kernel) ⟨rfl, rfl, rfl⟩ (Nat.le_of_ble_eq_true rfl) (fun _ h => h) ?_
  refine z_aload_n dX7_init_0 rfl ?_
  refine z_objInit dX7_init_1 cv_X7_3 (Nat.le_of_ble_eq_true rfl) (Nat.le_of_ble_eq_true rfl) ?_
  refine z_aload_n dX7_init_4 rfl ?_
  refine z_aload_n dX7_init_5 rfl ?_
  refine z_putF dX7_init_6 ff_X7_9 rfl h rfl rfl (Nat.le_of_ble_eq_true rfl) ?_
  refine z_aload_n dX7_init_9 rfl ?_
  refine z_iload_n dX7_init_10 rfl ?_
  refine z_putF dX7_init_11 ff_X7_15 rfl (zu_eq _ _ _) rfl rfl (Nat.le_of_ble_eq_true rfl) ?_
  refine z_aload_n dX7_init_14 rfl ?_
  refine z_iload_n dX7_init_15 rfl ?_
  refine z_putF dX7_init_16 ff_X7_19 rfl (zu_eq _ _ _) rfl rfl (Nat.le_of_ble_eq_true rfl) ?_
  refine z_aload_n dX7_init_19 rfl ?_
  refine z_iload dX7_init_20 rfl ?_
  refine z_putF dX7_init_22 ff_X7_22 rfl (zu_eq _ _ _) rfl rfl (Nat.le_of_ble_eq_true rfl) ?_
  refine z_aload_n dX7_init_25 rfl ?_
  refine z_iload dX7_init_26 rfl ?_
  refine z_putF dX7_init_28 ff_X7_25 rfl (zu_eq _ _ _) rfl rfl (Nat.le_of_ble_eq_true rfl) ?_
  refine z_aload_n dX7_init_31 rfl ?_
  refine z_new dX7_init_32 nw_X7_28 (Nat.le_of_ble_eq_true rfl) (Nat.le_of_ble_eq_true rfl) ?_
  refine z_dup dX7_init_35 rfl ?_
  refine z_aload_n dX7_init_36 rfl ?_
  refine z_kind dX7_init_37 (by decide) fs_X7_30 ?_
  have fin : ∀ (σ3 : zH) (m : Nat), m = (if k = 0 then 12 else 0) → zRows G σ3 (n + 1) m [] [] → σ3 n = some (.inr (7, [.ref (G.2.2 k), .int x1, .int x2, .int (nI bd), .int x4, .null, .null, .null, .int 0, .int 0, .int 0, .int 0, .int 0, .int 0, .int 0])) → zFr σ σ3 n 8 →
      zWP G kX7_init (zFM G kX7_init.2.2.2.1 (fun v σ' nx' => v = none ∧ zNode G σ' n k (zD0 x1 x2 (nI bd) x4) [] ∧ zRows G σ' (n + 8) bd [] [] ∧ zRows G σ' (n + 15) bd [] [] ∧ zFr σ σ' n 22 ∧ nx' = n + 22)) 52 [some (.ref n), some (.ref (G.2.2 k)), some (.int x1), some (.int x2), some (.int (nI bd)), some (.int x4)] [.ref (n + 1), .ref n] σ3 (n + 8) 7 909 := by
    intro σ3 m hm a1 a2 a3
    subst hm
    refine z_putF dX7_init_52 ff_X7_38 rfl a2 rfl rfl (Nat.le_of_ble_eq_true rfl) ?_
    refine z_aload_n dX7_init_55 rfl ?_
    refine z_new dX7_init_56 nw_X7_28 (Nat.le_of_ble_eq_true rfl) (Nat.le_of_ble_eq_true rfl) ?_
    refine z_dup dX7_init_59 rfl ?_
    refine z_iload dX7_init_60 rfl ?_
    refine z_callI dX7_init_62 cv_X7_35 (c_X9_init (r := n + 8) (m := bd) (zu_eq _ _ _) hbd) rfl rfl ⟨(Nat.le_of_ble_eq_true rfl), (Nat.le_of_ble_eq_true rfl)⟩ (Nat.le_of_ble_eq_true rfl) (Nat.le_of_ble_eq_true rfl) (Nat.le_of_ble_eq_true rfl) (fun v σ4 nx4 hx4 hq4 => ?_)
    obtain ⟨rfl, g4, k4, rfl⟩ := hq4
    have e4 : σ4 n = some (.inr (7, [.ref (G.2.2 k), .int x1, .int x2, .int (nI bd), .int x4, .ref (n + 1), .null, .null, .int 0, .int 0, .int 0, .int 0, .int 0, .int 0, .int 0])) := (k4 n (by omega)).trans ((zu_ne (by omega)).trans (zu_eq _ _ _))
    refine z_putF dX7_init_65 ff_X7_42 rfl e4 rfl rfl (Nat.le_of_ble_eq_true rfl) ?_
    refine z_aload_n dX7_init_68 rfl ?_
    refine z_new dX7_init_69 nw_X7_28 (Nat.le_of_ble_eq_true rfl) (Nat.le_of_ble_eq_true rfl) ?_
    refine z_dup dX7_init_72 rfl ?_
    refine z_iload dX7_init_73 rfl ?_
    refine z_callI dX7_init_75 cv_X7_35 (c_X9_init (r := n + 15) (m := bd) (zu_eq _ _ _) hbd) rfl rfl ⟨(Nat.le_of_ble_eq_true rfl), (Nat.le_of_ble_eq_true rfl)⟩ (Nat.le_of_ble_eq_true rfl) (Nat.le_of_ble_eq_true rfl) (Nat.le_of_ble_eq_true rfl) (fun v σ5 nx5 hx5 hq5 => ?_)
    obtain ⟨rfl, g5, k5, rfl⟩ := hq5
    have e5 : σ5 n = some (.inr (7, [.ref (G.2.2 k), .int x1, .int x2, .int (nI bd), .int x4, .ref (n + 1), .ref (n + 8), .null, .int 0, .int 0, .int 0, .int 0, .int 0, .int 0, .int 0])) := (k5 n (by omega)).trans ((zu_ne (by omega)).trans (zu_eq _ _ _))
    refine z_putF dX7_init_78 ff_X7_45 rfl e5 rfl rfl (Nat.le_of_ble_eq_true rfl) ?_
    exact z_vret dX7_init_81 rfl (Nat.le_of_ble_eq_true rfl) (Nat.le_of_ble_eq_true rfl) ⟨rfl, ⟨zu_eq _ _ _, a1.fr fun b _ _ => by rw [zu_ne (by omega), k5 b (by omega), zu_ne (by omega), zu_ne (by omega), k4 b (by omega), zu_ne (by omega), zu_ne (by omega)]⟩, g4.fr fun b _ _ => by rw [zu_ne (by omega), k5 b (by omega), zu_ne (by omega), zu_ne (by omega)], g5.fr fun b _ _ => zu_ne (by omega), fun b hb => by rw [zu_ne (by omega), k5 b (by omega), zu_ne (by omega), zu_ne (by omega), k4 b (by omega), zu_ne (by omega), zu_ne (by omega)]; exact a3 b (by omega), rfl⟩
  refine z_racmp_ne (tgt := 48) dX7_init_40 (by decide) (fun g => ?_) (fun g => ?_)
  · have hk0 : k ≠ 0 := fun e => g (by rw [e])
    refine z_iconst (v := 0) dX7_init_48 (by decide) ?_
    refine z_callI dX7_init_49 cv_X7_35 (c_X9_init (m := 0) (zu_eq _ _ _) (by omega)) rfl rfl ⟨(Nat.le_of_ble_eq_true rfl), (Nat.le_of_ble_eq_true rfl)⟩ (Nat.le_of_ble_eq_true rfl) (Nat.le_of_ble_eq_true rfl) (Nat.le_of_ble_eq_true rfl) (fun v σ3 nx3 hx3 hq3 => ?_)
    obtain ⟨rfl, g1, g2, rfl⟩ := hq3
    exact fin σ3 0 (by rw [if_neg hk0]) g1 ((g2 n (by omega)).trans ((zu_ne (by omega)).trans (zu_eq _ _ _))) (fun b hb => by rw [g2 b (by omega), zu_ne (by omega), zu_ne (by omega), zu_ne (by omega), zu_ne (by omega), zu_ne (by omega), zu_ne (by omega)])
  · have hk0 : k = 0 := hG k 0 hk (by omega) g
    refine z_bipush (v := 12) dX7_init_43 (by decide) ?_
    refine z_goto (tgt := 49) dX7_init_45 (by decide) ?_
    refine z_callI dX7_init_49 cv_X7_35 (c_X9_init (m := 12) (zu_eq _ _ _) (by omega)) rfl rfl ⟨(Nat.le_of_ble_eq_true rfl), (Nat.le_of_ble_eq_true rfl)⟩ (Nat.le_of_ble_eq_true rfl) (Nat.le_of_ble_eq_true rfl) (Nat.le_of_ble_eq_true rfl) (fun v σ3 nx3 hx3 hq3 => ?_)
    obtain ⟨rfl, g1, g2, rfl⟩ := hq3
    exact fin σ3 12 (by rw [if_pos hk0]) g1 ((g2 n (by omega)).trans ((zu_ne (by omega)).trans (zu_eq _ _ _))) (fun b hb => by rw [g2 b (by omega), zu_ne (by omega), zu_ne (by omega), zu_ne (by omega), zu_ne (by omega), zu_ne (by omega), zu_ne (by omega)])
