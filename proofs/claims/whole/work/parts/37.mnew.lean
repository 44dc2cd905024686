/-! a new model -/
set_option maxRecDepth 100000 in
theorem zWbool : Cond.arrayClass (newarray.typeOf .boolean) ∈ zW := (zW_in (zTp6 (i := 193) rfl) rfl)
set_option maxRecDepth 100000 in
theorem zWlong : Cond.arrayClass (newarray.typeOf .long) ∈ zW := (zW_in (zTp8 (i := 7) rfl) rfl)
def zIn (G : zG) (σ0 σ : zH) (m j : Nat) (fs : List Value) : Prop := σ m = some (.inr (12, fs)) ∧ (∀ q, q < j → σ (m + 1 + q) = some (zMA G q (fun _ => 0))) ∧ ∀ b, b < m ∨ m + 1 + j ≤ b → σ b = σ0 b
theorem zIn.step {G : zG} {σ0 σ : zH} {m j a : Nat} {e : va_E} {fs fs2 fs' : List Value} (g : zIn G σ0 σ m j fs) (ha : a = m + 1 + j) (he : e = zMA G j (fun _ => 0)) (hf : fs2 = fs') : zIn G σ0 (zu (zu σ a e) m (.inr (12, fs2))) m (j + 1) fs' := by
  subst ha he hf
  refine ⟨zu_eq _ _ _, fun q hq => ?_, fun b hb => ?_⟩
  · rw [zu_ne (by omega)]
    by_cases e : q = j
    · subst e; exact zu_eq _ _ _
    · rw [zu_ne (by omega)]; exact g.2.1 q (by omega)
  · rw [zu_ne (by omega), zu_ne (by omega)]; exact g.2.2 b (by omega)
theorem zIn.fld {G : zG} {σ0 σ : zH} {m j : Nat} {fs fs2 fs' : List Value} (g : zIn G σ0 σ m j fs) (hf : fs2 = fs') : zIn G σ0 (zu σ m (.inr (12, fs2))) m j fs' := by
  subst hf
  exact ⟨zu_eq _ _ _, fun q hq => (zu_ne (by omega)).trans (g.2.1 q hq), fun b hb => (zu_ne (by omega)).trans (g.2.2 b hb)⟩
theorem zgen {G : zG} {k : zK} {F : zF} {pc nx ca sl : Nat} {ls : zL} {st : List Value} {σ : zH} {P : zH → Prop} (h : P σ) (kk : ∀ σ1, P σ1 → zWP G k F pc ls st σ1 nx ca sl) : zWP G k F pc ls st σ nx ca sl := kk σ h
def zM0 : zMS := (fun j => if j = 2 then nI 4 else if j = 3 then nI 20 else if j = 4 then nI 2 else 0, fun j i => if j = 16 ∧ i < 4 then 1 else 0)
set_option maxRecDepth 100000 in
set_option maxHeartbeats 4000000 in
theorem c_X12_init {G : zG} {σ : zH} {m : Nat} (h : σ m = some (.inr (12, [.int 0, .null, .null, .null, .null, .null, .null, .null, .null, .null, .null, .null, .null, .int 0, .null, .null, .null, .null, .int 0, .int 0, .int 0, .null, .int 0, .null, .null, .null, .int 0, .null, .null, .null, .int 0, .int 0, .int 0, .int 0, .null, .null, .null, .null, .null, .null, .null, .null, .null, .null, .int 0]))) : zM G yX12_init kX12_init [.ref m] σ (m + 1) (fun v σ' nx' => v = none ∧ zMd G σ' m zM0 ∧ zFr σ σ' m 34 ∧ nx' = m + 34) := by
  refine zM.of2 (ls := [some (.ref m), none]) (by decide +kernel) ⟨rfl, rfl, rfl⟩ (Nat.le_of_ble_eq_true rfl) (fun _ h => h) (fun Q hQ => ?_)
  have g0 : zIn G σ σ m 0 [.int 0, .null, .null, .null, .null, .null, .null, .null, .null, .null, .null, .null, .null, .int 0, .null, .null, .null, .null, .int 0, .int 0, .int 0, .null, .int 0, .null, .null, .null, .int 0, .null, .null, .null, .int 0, .int 0, .int 0, .int 0, .null, .null, .null, .null, .null, .null, .null, .null, .null, .null, .int 0] := ⟨h, fun q hq => absurd hq (Nat.not_lt_zero _), fun _ _ => rfl⟩
  refine z_aload_n dX12_init_0 rfl ?_
  refine z_objInit dX12_init_1 cv_X12_1 (Nat.le_of_ble_eq_true rfl) (Nat.le_of_ble_eq_true rfl) ?_
  refine z_aload_n dX12_init_4 rfl ?_
  refine z_bipush (v := nI 14) dX12_init_5 (by decide) ?_
  refine z_newa (at_ := .int) (t0 := 0) (N := 14) (x := (14, .inl (fun _ => 0))) dX12_init_7 zWint rfl rfl (nI_pos (by decide)) (nI_clamp (by decide)) (Nat.le_of_ble_eq_true rfl) (Nat.le_of_ble_eq_true rfl) (Nat.le_of_ble_eq_true rfl) ?_
  refine z_putF dX12_init_9 ff_X12_7 rfl ((zu_ne (by omega)).trans g0.1) rfl rfl (Nat.le_of_ble_eq_true rfl) ?_
  refine zgen (P := fun z => zIn G σ z m 1 [.int 0, .ref (m + 1 + 0), .null, .null, .null, .null, .null, .null, .null, .null, .null, .null, .null, .int 0, .null, .null, .null, .null, .int 0, .int 0, .int 0, .null, .int 0, .null, .null, .null, .int 0, .null, .null, .null, .int 0, .int 0, .int 0, .int 0, .null, .null, .null, .null, .null, .null, .null, .null, .null, .null, .int 0]) (zIn.step g0 rfl rfl rfl) fun s1 g1 => ?_
  refine z_aload_n dX12_init_12 rfl ?_
  refine z_bipush (v := nI 14) dX12_init_13 (by decide) ?_
  refine z_newa (at_ := .int) (t0 := 0) (N := 14) (x := (14, .inl (fun _ => 0))) dX12_init_15 zWint rfl rfl (nI_pos (by decide)) (nI_clamp (by decide)) (Nat.le_of_ble_eq_true rfl) (Nat.le_of_ble_eq_true rfl) (Nat.le_of_ble_eq_true rfl) ?_
  refine z_putF dX12_init_17 ff_X12_13 rfl ((zu_ne (by omega)).trans g1.1) rfl rfl (Nat.le_of_ble_eq_true rfl) ?_
  refine zgen (P := fun z => zIn G σ z m 2 [.int 0, .ref (m + 1 + 0), .ref (m + 1 + 1), .null, .null, .null, .null, .null, .null, .null, .null, .null, .null, .int 0, .null, .null, .null, .null, .int 0, .int 0, .int 0, .null, .int 0, .null, .null, .null, .int 0, .null, .null, .null, .int 0, .int 0, .int 0, .int 0, .null, .null, .null, .null, .null, .null, .null, .null, .null, .null, .int 0]) (zIn.step g1 rfl rfl rfl) fun s2 g2 => ?_
  refine z_aload_n dX12_init_20 rfl ?_
  refine z_bipush (v := nI 14) dX12_init_21 (by decide) ?_
  refine z_newa (at_ := .int) (t0 := 0) (N := 14) (x := (14, .inl (fun _ => 0))) dX12_init_23 zWint rfl rfl (nI_pos (by decide)) (nI_clamp (by decide)) (Nat.le_of_ble_eq_true rfl) (Nat.le_of_ble_eq_true rfl) (Nat.le_of_ble_eq_true rfl) ?_
  refine z_putF dX12_init_25 ff_X12_16 rfl ((zu_ne (by omega)).trans g2.1) rfl rfl (Nat.le_of_ble_eq_true rfl) ?_
  refine zgen (P := fun z => zIn G σ z m 3 [.int 0, .ref (m + 1 + 0), .ref (m + 1 + 1), .ref (m + 1 + 2), .null, .null, .null, .null, .null, .null, .null, .null, .null, .int 0, .null, .null, .null, .null, .int 0, .int 0, .int 0, .null, .int 0, .null, .null, .null, .int 0, .null, .null, .null, .int 0, .int 0, .int 0, .int 0, .null, .null, .null, .null, .null, .null, .null, .null, .null, .null, .int 0]) (zIn.step g2 rfl rfl rfl) fun s3 g3 => ?_
  refine z_aload_n dX12_init_28 rfl ?_
  refine z_bipush (v := nI 14) dX12_init_29 (by decide) ?_
  refine z_newa (at_ := .int) (t0 := 0) (N := 14) (x := (14, .inl (fun _ => 0))) dX12_init_31 zWint rfl rfl (nI_pos (by decide)) (nI_clamp (by decide)) (Nat.le_of_ble_eq_true rfl) (Nat.le_of_ble_eq_true rfl) (Nat.le_of_ble_eq_true rfl) ?_
  refine z_putF dX12_init_33 ff_X12_19 rfl ((zu_ne (by omega)).trans g3.1) rfl rfl (Nat.le_of_ble_eq_true rfl) ?_
  refine zgen (P := fun z => zIn G σ z m 4 [.int 0, .ref (m + 1 + 0), .ref (m + 1 + 1), .ref (m + 1 + 2), .ref (m + 1 + 3), .null, .null, .null, .null, .null, .null, .null, .null, .int 0, .null, .null, .null, .null, .int 0, .int 0, .int 0, .null, .int 0, .null, .null, .null, .int 0, .null, .null, .null, .int 0, .int 0, .int 0, .int 0, .null, .null, .null, .null, .null, .null, .null, .null, .null, .null, .int 0]) (zIn.step g3 rfl rfl rfl) fun s4 g4 => ?_
  refine z_aload_n dX12_init_36 rfl ?_
  refine z_bipush (v := nI 14) dX12_init_37 (by decide) ?_
  refine z_newa (at_ := .int) (t0 := 0) (N := 14) (x := (14, .inl (fun _ => 0))) dX12_init_39 zWint rfl rfl (nI_pos (by decide)) (nI_clamp (by decide)) (Nat.le_of_ble_eq_true rfl) (Nat.le_of_ble_eq_true rfl) (Nat.le_of_ble_eq_true rfl) ?_
  refine z_putF dX12_init_41 ff_X12_22 rfl ((zu_ne (by omega)).trans g4.1) rfl rfl (Nat.le_of_ble_eq_true rfl) ?_
  refine zgen (P := fun z => zIn G σ z m 5 [.int 0, .ref (m + 1 + 0), .ref (m + 1 + 1), .ref (m + 1 + 2), .ref (m + 1 + 3), .ref (m + 1 + 4), .null, .null, .null, .null, .null, .null, .null, .int 0, .null, .null, .null, .null, .int 0, .int 0, .int 0, .null, .int 0, .null, .null, .null, .int 0, .null, .null, .null, .int 0, .int 0, .int 0, .int 0, .null, .null, .null, .null, .null, .null, .null, .null, .null, .null, .int 0]) (zIn.step g4 rfl rfl rfl) fun s5 g5 => ?_
  refine z_aload_n dX12_init_44 rfl ?_
  refine z_bipush (v := nI 14) dX12_init_45 (by decide) ?_
  refine z_newa (at_ := .int) (t0 := 0) (N := 14) (x := (14, .inl (fun _ => 0))) dX12_init_47 zWint rfl rfl (nI_pos (by decide)) (nI_clamp (by decide)) (Nat.le_of_ble_eq_true rfl) (Nat.le_of_ble_eq_true rfl) (Nat.le_of_ble_eq_true rfl) ?_
  refine z_putF dX12_init_49 ff_X12_25 rfl ((zu_ne (by omega)).trans g5.1) rfl rfl (Nat.le_of_ble_eq_true rfl) ?_
  refine zgen (P := fun z => zIn G σ z m 6 [.int 0, .ref (m + 1 + 0), .ref (m + 1 + 1), .ref (m + 1 + 2), .ref (m + 1 + 3), .ref (m + 1 + 4), .ref (m + 1 + 5), .null, .null, .null, .null, .null, .null, .int 0, .null, .null, .null, .null, .int 0, .int 0, .int 0, .null, .int 0, .null, .null, .null, .int 0, .null, .null, .null, .int 0, .int 0, .int 0, .int 0, .null, .null, .null, .null, .null, .null, .null, .null, .null, .null, .int 0]) (zIn.step g5 rfl rfl rfl) fun s6 g6 => ?_
  refine z_aload_n dX12_init_52 rfl ?_
  refine z_bipush (v := nI 14) dX12_init_53 (by decide) ?_
  refine z_newa (at_ := .int) (t0 := 0) (N := 14) (x := (14, .inl (fun _ => 0))) dX12_init_55 zWint rfl rfl (nI_pos (by decide)) (nI_clamp (by decide)) (Nat.le_of_ble_eq_true rfl) (Nat.le_of_ble_eq_true rfl) (Nat.le_of_ble_eq_true rfl) ?_
  refine z_putF dX12_init_57 ff_X12_28 rfl ((zu_ne (by omega)).trans g6.1) rfl rfl (Nat.le_of_ble_eq_true rfl) ?_
  refine zgen (P := fun z => zIn G σ z m 7 [.int 0, .ref (m + 1 + 0), .ref (m + 1 + 1), .ref (m + 1 + 2), .ref (m + 1 + 3), .ref (m + 1 + 4), .ref (m + 1 + 5), .ref (m + 1 + 6), .null, .null, .null, .null, .null, .int 0, .null, .null, .null, .null, .int 0, .int 0, .int 0, .null, .int 0, .null, .null, .null, .int 0, .null, .null, .null, .int 0, .int 0, .int 0, .int 0, .null, .null, .null, .null, .null, .null, .null, .null, .null, .null, .int 0]) (zIn.step g6 rfl rfl rfl) fun s7 g7 => ?_
  refine z_aload_n dX12_init_60 rfl ?_
  refine z_bipush (v := nI 14) dX12_init_61 (by decide) ?_
  refine z_newa (at_ := .int) (t0 := 0) (N := 14) (x := (14, .inl (fun _ => 0))) dX12_init_63 zWint rfl rfl (nI_pos (by decide)) (nI_clamp (by decide)) (Nat.le_of_ble_eq_true rfl) (Nat.le_of_ble_eq_true rfl) (Nat.le_of_ble_eq_true rfl) ?_
  refine z_putF dX12_init_65 ff_X12_31 rfl ((zu_ne (by omega)).trans g7.1) rfl rfl (Nat.le_of_ble_eq_true rfl) ?_
  refine zgen (P := fun z => zIn G σ z m 8 [.int 0, .ref (m + 1 + 0), .ref (m + 1 + 1), .ref (m + 1 + 2), .ref (m + 1 + 3), .ref (m + 1 + 4), .ref (m + 1 + 5), .ref (m + 1 + 6), .ref (m + 1 + 7), .null, .null, .null, .null, .int 0, .null, .null, .null, .null, .int 0, .int 0, .int 0, .null, .int 0, .null, .null, .null, .int 0, .null, .null, .null, .int 0, .int 0, .int 0, .int 0, .null, .null, .null, .null, .null, .null, .null, .null, .null, .null, .int 0]) (zIn.step g7 rfl rfl rfl) fun s8 g8 => ?_
  refine z_aload_n dX12_init_68 rfl ?_
  refine z_bipush (v := nI 14) dX12_init_69 (by decide) ?_
  refine z_newa (at_ := .int) (t0 := 0) (N := 14) (x := (14, .inl (fun _ => 0))) dX12_init_71 zWint rfl rfl (nI_pos (by decide)) (nI_clamp (by decide)) (Nat.le_of_ble_eq_true rfl) (Nat.le_of_ble_eq_true rfl) (Nat.le_of_ble_eq_true rfl) ?_
  refine z_putF dX12_init_73 ff_X12_34 rfl ((zu_ne (by omega)).trans g8.1) rfl rfl (Nat.le_of_ble_eq_true rfl) ?_
  refine zgen (P := fun z => zIn G σ z m 9 [.int 0, .ref (m + 1 + 0), .ref (m + 1 + 1), .ref (m + 1 + 2), .ref (m + 1 + 3), .ref (m + 1 + 4), .ref (m + 1 + 5), .ref (m + 1 + 6), .ref (m + 1 + 7), .ref (m + 1 + 8), .null, .null, .null, .int 0, .null, .null, .null, .null, .int 0, .int 0, .int 0, .null, .int 0, .null, .null, .null, .int 0, .null, .null, .null, .int 0, .int 0, .int 0, .int 0, .null, .null, .null, .null, .null, .null, .null, .null, .null, .null, .int 0]) (zIn.step g8 rfl rfl rfl) fun s9 g9 => ?_
  refine z_aload_n dX12_init_76 rfl ?_
  refine z_bipush (v := nI 14) dX12_init_77 (by decide) ?_
  refine z_newa (at_ := .int) (t0 := 0) (N := 14) (x := (14, .inl (fun _ => 0))) dX12_init_79 zWint rfl rfl (nI_pos (by decide)) (nI_clamp (by decide)) (Nat.le_of_ble_eq_true rfl) (Nat.le_of_ble_eq_true rfl) (Nat.le_of_ble_eq_true rfl) ?_
  refine z_putF dX12_init_81 ff_X12_37 rfl ((zu_ne (by omega)).trans g9.1) rfl rfl (Nat.le_of_ble_eq_true rfl) ?_
  refine zgen (P := fun z => zIn G σ z m 10 [.int 0, .ref (m + 1 + 0), .ref (m + 1 + 1), .ref (m + 1 + 2), .ref (m + 1 + 3), .ref (m + 1 + 4), .ref (m + 1 + 5), .ref (m + 1 + 6), .ref (m + 1 + 7), .ref (m + 1 + 8), .ref (m + 1 + 9), .null, .null, .int 0, .null, .null, .null, .null, .int 0, .int 0, .int 0, .null, .int 0, .null, .null, .null, .int 0, .null, .null, .null, .int 0, .int 0, .int 0, .int 0, .null, .null, .null, .null, .null, .null, .null, .null, .null, .null, .int 0]) (zIn.step g9 rfl rfl rfl) fun s10 g10 => ?_
  refine z_aload_n dX12_init_84 rfl ?_
  refine z_sipush (v := nI 168) dX12_init_85 (by decide) ?_
  refine z_newa (at_ := .int) (t0 := 0) (N := 168) (x := (168, .inl (fun _ => 0))) dX12_init_88 zWint rfl rfl (nI_pos (by decide)) (nI_clamp (by decide)) (Nat.le_of_ble_eq_true rfl) (Nat.le_of_ble_eq_true rfl) (Nat.le_of_ble_eq_true rfl) ?_
  refine z_putF dX12_init_90 ff_X12_40 rfl ((zu_ne (by omega)).trans g10.1) rfl rfl (Nat.le_of_ble_eq_true rfl) ?_
  refine zgen (P := fun z => zIn G σ z m 11 [.int 0, .ref (m + 1 + 0), .ref (m + 1 + 1), .ref (m + 1 + 2), .ref (m + 1 + 3), .ref (m + 1 + 4), .ref (m + 1 + 5), .ref (m + 1 + 6), .ref (m + 1 + 7), .ref (m + 1 + 8), .ref (m + 1 + 9), .ref (m + 1 + 10), .null, .int 0, .null, .null, .null, .null, .int 0, .int 0, .int 0, .null, .int 0, .null, .null, .null, .int 0, .null, .null, .null, .int 0, .int 0, .int 0, .int 0, .null, .null, .null, .null, .null, .null, .null, .null, .null, .null, .int 0]) (zIn.step g10 rfl rfl rfl) fun s11 g11 => ?_
  refine z_aload_n dX12_init_93 rfl ?_
  refine z_sipush (v := nI 168) dX12_init_94 (by decide) ?_
  refine z_newa (at_ := .int) (t0 := 0) (N := 168) (x := (168, .inl (fun _ => 0))) dX12_init_97 zWint rfl rfl (nI_pos (by decide)) (nI_clamp (by decide)) (Nat.le_of_ble_eq_true rfl) (Nat.le_of_ble_eq_true rfl) (Nat.le_of_ble_eq_true rfl) ?_
  refine z_putF dX12_init_99 ff_X12_43 rfl ((zu_ne (by omega)).trans g11.1) rfl rfl (Nat.le_of_ble_eq_true rfl) ?_
  refine zgen (P := fun z => zIn G σ z m 12 [.int 0, .ref (m + 1 + 0), .ref (m + 1 + 1), .ref (m + 1 + 2), .ref (m + 1 + 3), .ref (m + 1 + 4), .ref (m + 1 + 5), .ref (m + 1 + 6), .ref (m + 1 + 7), .ref (m + 1 + 8), .ref (m + 1 + 9), .ref (m + 1 + 10), .ref (m + 1 + 11), .int 0, .null, .null, .null, .null, .int 0, .int 0, .int 0, .null, .int 0, .null, .null, .null, .int 0, .null, .null, .null, .int 0, .int 0, .int 0, .int 0, .null, .null, .null, .null, .null, .null, .null, .null, .null, .null, .int 0]) (zIn.step g11 rfl rfl rfl) fun s12 g12 => ?_
  refine z_aload_n dX12_init_102 rfl ?_
  refine z_bipush (v := nI 14) dX12_init_103 (by decide) ?_
  refine z_newa (at_ := .int) (t0 := 0) (N := 14) (x := (14, .inl (fun _ => 0))) dX12_init_105 zWint rfl rfl (nI_pos (by decide)) (nI_clamp (by decide)) (Nat.le_of_ble_eq_true rfl) (Nat.le_of_ble_eq_true rfl) (Nat.le_of_ble_eq_true rfl) ?_
  refine z_putF dX12_init_107 ff_X12_46 rfl ((zu_ne (by omega)).trans g12.1) rfl rfl (Nat.le_of_ble_eq_true rfl) ?_
  refine zgen (P := fun z => zIn G σ z m 13 [.int 0, .ref (m + 1 + 0), .ref (m + 1 + 1), .ref (m + 1 + 2), .ref (m + 1 + 3), .ref (m + 1 + 4), .ref (m + 1 + 5), .ref (m + 1 + 6), .ref (m + 1 + 7), .ref (m + 1 + 8), .ref (m + 1 + 9), .ref (m + 1 + 10), .ref (m + 1 + 11), .int 0, .ref (m + 1 + 12), .null, .null, .null, .int 0, .int 0, .int 0, .null, .int 0, .null, .null, .null, .int 0, .null, .null, .null, .int 0, .int 0, .int 0, .int 0, .null, .null, .null, .null, .null, .null, .null, .null, .null, .null, .int 0]) (zIn.step g12 rfl rfl rfl) fun s13 g13 => ?_
  refine z_aload_n dX12_init_110 rfl ?_
  refine z_bipush (v := nI 126) dX12_init_111 (by decide) ?_
  refine z_newa (at_ := .int) (t0 := 0) (N := 126) (x := (126, .inl (fun _ => 0))) dX12_init_113 zWint rfl rfl (nI_pos (by decide)) (nI_clamp (by decide)) (Nat.le_of_ble_eq_true rfl) (Nat.le_of_ble_eq_true rfl) (Nat.le_of_ble_eq_true rfl) ?_
  refine z_putF dX12_init_115 ff_X12_49 rfl ((zu_ne (by omega)).trans g13.1) rfl rfl (Nat.le_of_ble_eq_true rfl) ?_
  refine zgen (P := fun z => zIn G σ z m 14 [.int 0, .ref (m + 1 + 0), .ref (m + 1 + 1), .ref (m + 1 + 2), .ref (m + 1 + 3), .ref (m + 1 + 4), .ref (m + 1 + 5), .ref (m + 1 + 6), .ref (m + 1 + 7), .ref (m + 1 + 8), .ref (m + 1 + 9), .ref (m + 1 + 10), .ref (m + 1 + 11), .int 0, .ref (m + 1 + 12), .ref (m + 1 + 13), .null, .null, .int 0, .int 0, .int 0, .null, .int 0, .null, .null, .null, .int 0, .null, .null, .null, .int 0, .int 0, .int 0, .int 0, .null, .null, .null, .null, .null, .null, .null, .null, .null, .null, .int 0]) (zIn.step g13 rfl rfl rfl) fun s14 g14 => ?_
  refine z_aload_n dX12_init_118 rfl ?_
  refine z_sipush (v := nI 4200) dX12_init_119 (by decide) ?_
  refine z_newa (at_ := .int) (t0 := 0) (N := 4200) (x := (4200, .inl (fun _ => 0))) dX12_init_122 zWint rfl rfl (nI_pos (by decide)) (nI_clamp (by decide)) (Nat.le_of_ble_eq_true rfl) (Nat.le_of_ble_eq_true rfl) (Nat.le_of_ble_eq_true rfl) ?_
  refine z_putF dX12_init_124 ff_X12_52 rfl ((zu_ne (by omega)).trans g14.1) rfl rfl (Nat.le_of_ble_eq_true rfl) ?_
  refine zgen (P := fun z => zIn G σ z m 15 [.int 0, .ref (m + 1 + 0), .ref (m + 1 + 1), .ref (m + 1 + 2), .ref (m + 1 + 3), .ref (m + 1 + 4), .ref (m + 1 + 5), .ref (m + 1 + 6), .ref (m + 1 + 7), .ref (m + 1 + 8), .ref (m + 1 + 9), .ref (m + 1 + 10), .ref (m + 1 + 11), .int 0, .ref (m + 1 + 12), .ref (m + 1 + 13), .ref (m + 1 + 14), .null, .int 0, .int 0, .int 0, .null, .int 0, .null, .null, .null, .int 0, .null, .null, .null, .int 0, .int 0, .int 0, .int 0, .null, .null, .null, .null, .null, .null, .null, .null, .null, .null, .int 0]) (zIn.step g14 rfl rfl rfl) fun s15 g15 => ?_
  refine z_aload_n dX12_init_127 rfl ?_
  refine z_sipush (v := nI 4200) dX12_init_128 (by decide) ?_
  refine z_newa (at_ := .int) (t0 := 0) (N := 4200) (x := (4200, .inl (fun _ => 0))) dX12_init_131 zWint rfl rfl (nI_pos (by decide)) (nI_clamp (by decide)) (Nat.le_of_ble_eq_true rfl) (Nat.le_of_ble_eq_true rfl) (Nat.le_of_ble_eq_true rfl) ?_
  refine z_putF dX12_init_133 ff_X12_55 rfl ((zu_ne (by omega)).trans g15.1) rfl rfl (Nat.le_of_ble_eq_true rfl) ?_
  refine zgen (P := fun z => zIn G σ z m 16 [.int 0, .ref (m + 1 + 0), .ref (m + 1 + 1), .ref (m + 1 + 2), .ref (m + 1 + 3), .ref (m + 1 + 4), .ref (m + 1 + 5), .ref (m + 1 + 6), .ref (m + 1 + 7), .ref (m + 1 + 8), .ref (m + 1 + 9), .ref (m + 1 + 10), .ref (m + 1 + 11), .int 0, .ref (m + 1 + 12), .ref (m + 1 + 13), .ref (m + 1 + 14), .ref (m + 1 + 15), .int 0, .int 0, .int 0, .null, .int 0, .null, .null, .null, .int 0, .null, .null, .null, .int 0, .int 0, .int 0, .int 0, .null, .null, .null, .null, .null, .null, .null, .null, .null, .null, .int 0]) (zIn.step g15 rfl rfl rfl) fun s16 g16 => ?_
  refine z_aload_n dX12_init_136 rfl ?_
  refine z_iconst (v := nI 4) dX12_init_137 (by decide) ?_
  refine z_putf dX12_init_138 fp_X12_58 g16.1 rfl rfl (Nat.le_of_ble_eq_true rfl) ?_
  refine zgen (P := fun z => zIn G σ z m 16 [.int 0, .ref (m + 1 + 0), .ref (m + 1 + 1), .ref (m + 1 + 2), .ref (m + 1 + 3), .ref (m + 1 + 4), .ref (m + 1 + 5), .ref (m + 1 + 6), .ref (m + 1 + 7), .ref (m + 1 + 8), .ref (m + 1 + 9), .ref (m + 1 + 10), .ref (m + 1 + 11), .int 0, .ref (m + 1 + 12), .ref (m + 1 + 13), .ref (m + 1 + 14), .ref (m + 1 + 15), .int (nI 4), .int 0, .int 0, .null, .int 0, .null, .null, .null, .int 0, .null, .null, .null, .int 0, .int 0, .int 0, .int 0, .null, .null, .null, .null, .null, .null, .null, .null, .null, .null, .int 0]) (zIn.fld g16 rfl) fun s17 g17 => ?_
  refine z_aload_n dX12_init_141 rfl ?_
  refine z_bipush (v := nI 20) dX12_init_142 (by decide) ?_
  refine z_putf dX12_init_144 fp_X12_62 g17.1 rfl rfl (Nat.le_of_ble_eq_true rfl) ?_
  refine zgen (P := fun z => zIn G σ z m 16 [.int 0, .ref (m + 1 + 0), .ref (m + 1 + 1), .ref (m + 1 + 2), .ref (m + 1 + 3), .ref (m + 1 + 4), .ref (m + 1 + 5), .ref (m + 1 + 6), .ref (m + 1 + 7), .ref (m + 1 + 8), .ref (m + 1 + 9), .ref (m + 1 + 10), .ref (m + 1 + 11), .int 0, .ref (m + 1 + 12), .ref (m + 1 + 13), .ref (m + 1 + 14), .ref (m + 1 + 15), .int (nI 4), .int (nI 20), .int 0, .null, .int 0, .null, .null, .null, .int 0, .null, .null, .null, .int 0, .int 0, .int 0, .int 0, .null, .null, .null, .null, .null, .null, .null, .null, .null, .null, .int 0]) (zIn.fld g17 rfl) fun s18 g18 => ?_
  refine z_aload_n dX12_init_147 rfl ?_
  refine z_iconst (v := nI 2) dX12_init_148 (by decide) ?_
  refine z_putf dX12_init_149 fp_X12_65 g18.1 rfl rfl (Nat.le_of_ble_eq_true rfl) ?_
  refine zgen (P := fun z => zIn G σ z m 16 [.int 0, .ref (m + 1 + 0), .ref (m + 1 + 1), .ref (m + 1 + 2), .ref (m + 1 + 3), .ref (m + 1 + 4), .ref (m + 1 + 5), .ref (m + 1 + 6), .ref (m + 1 + 7), .ref (m + 1 + 8), .ref (m + 1 + 9), .ref (m + 1 + 10), .ref (m + 1 + 11), .int 0, .ref (m + 1 + 12), .ref (m + 1 + 13), .ref (m + 1 + 14), .ref (m + 1 + 15), .int (nI 4), .int (nI 20), .int (nI 2), .null, .int 0, .null, .null, .null, .int 0, .null, .null, .null, .int 0, .int 0, .int 0, .int 0, .null, .null, .null, .null, .null, .null, .null, .null, .null, .null, .int 0]) (zIn.fld g18 rfl) fun s19 g19 => ?_
  refine z_aload_n dX12_init_152 rfl ?_
  refine z_iconst (v := nI 4) dX12_init_153 (by decide) ?_
  refine z_newa (at_ := .int) (t0 := 0) (N := 4) (x := (4, .inl (fun _ => 0))) dX12_init_154 zWint rfl rfl (nI_pos (by decide)) (nI_clamp (by decide)) (Nat.le_of_ble_eq_true rfl) (Nat.le_of_ble_eq_true rfl) (Nat.le_of_ble_eq_true rfl) ?_
  refine z_putF dX12_init_156 ff_X12_68 rfl ((zu_ne (by omega)).trans g19.1) rfl rfl (Nat.le_of_ble_eq_true rfl) ?_
  refine zgen (P := fun z => zIn G σ z m 17 [.int 0, .ref (m + 1 + 0), .ref (m + 1 + 1), .ref (m + 1 + 2), .ref (m + 1 + 3), .ref (m + 1 + 4), .ref (m + 1 + 5), .ref (m + 1 + 6), .ref (m + 1 + 7), .ref (m + 1 + 8), .ref (m + 1 + 9), .ref (m + 1 + 10), .ref (m + 1 + 11), .int 0, .ref (m + 1 + 12), .ref (m + 1 + 13), .ref (m + 1 + 14), .ref (m + 1 + 15), .int (nI 4), .int (nI 20), .int (nI 2), .ref (m + 1 + 16), .int 0, .null, .null, .null, .int 0, .null, .null, .null, .int 0, .int 0, .int 0, .int 0, .null, .null, .null, .null, .null, .null, .null, .null, .null, .null, .int 0]) (zIn.step g19 rfl rfl rfl) fun s20 g20 => ?_
  refine z_aload_n dX12_init_159 rfl ?_
  refine z_bipush (v := nI 14) dX12_init_160 (by decide) ?_
  refine z_newa (at_ := .boolean) (t0 := 1) (N := 14) (x := (14, .inl (fun _ => 0))) dX12_init_162 zWbool rfl rfl (nI_pos (by decide)) (nI_clamp (by decide)) (Nat.le_of_ble_eq_true rfl) (Nat.le_of_ble_eq_true rfl) (Nat.le_of_ble_eq_true rfl) ?_
  refine z_putF dX12_init_164 ff_X12_71 rfl ((zu_ne (by omega)).trans g20.1) rfl rfl (Nat.le_of_ble_eq_true rfl) ?_
  refine zgen (P := fun z => zIn G σ z m 18 [.int 0, .ref (m + 1 + 0), .ref (m + 1 + 1), .ref (m + 1 + 2), .ref (m + 1 + 3), .ref (m + 1 + 4), .ref (m + 1 + 5), .ref (m + 1 + 6), .ref (m + 1 + 7), .ref (m + 1 + 8), .ref (m + 1 + 9), .ref (m + 1 + 10), .ref (m + 1 + 11), .int 0, .ref (m + 1 + 12), .ref (m + 1 + 13), .ref (m + 1 + 14), .ref (m + 1 + 15), .int (nI 4), .int (nI 20), .int (nI 2), .ref (m + 1 + 16), .int 0, .ref (m + 1 + 17), .null, .null, .int 0, .null, .null, .null, .int 0, .int 0, .int 0, .int 0, .null, .null, .null, .null, .null, .null, .null, .null, .null, .null, .int 0]) (zIn.step g20 rfl rfl rfl) fun s21 g21 => ?_
  refine z_aload_n dX12_init_167 rfl ?_
  refine z_bipush (v := nI 14) dX12_init_168 (by decide) ?_
  refine z_newa (at_ := .boolean) (t0 := 1) (N := 14) (x := (14, .inl (fun _ => 0))) dX12_init_170 zWbool rfl rfl (nI_pos (by decide)) (nI_clamp (by decide)) (Nat.le_of_ble_eq_true rfl) (Nat.le_of_ble_eq_true rfl) (Nat.le_of_ble_eq_true rfl) ?_
  refine z_putF dX12_init_172 ff_X12_75 rfl ((zu_ne (by omega)).trans g21.1) rfl rfl (Nat.le_of_ble_eq_true rfl) ?_
  refine zgen (P := fun z => zIn G σ z m 19 [.int 0, .ref (m + 1 + 0), .ref (m + 1 + 1), .ref (m + 1 + 2), .ref (m + 1 + 3), .ref (m + 1 + 4), .ref (m + 1 + 5), .ref (m + 1 + 6), .ref (m + 1 + 7), .ref (m + 1 + 8), .ref (m + 1 + 9), .ref (m + 1 + 10), .ref (m + 1 + 11), .int 0, .ref (m + 1 + 12), .ref (m + 1 + 13), .ref (m + 1 + 14), .ref (m + 1 + 15), .int (nI 4), .int (nI 20), .int (nI 2), .ref (m + 1 + 16), .int 0, .ref (m + 1 + 17), .ref (m + 1 + 18), .null, .int 0, .null, .null, .null, .int 0, .int 0, .int 0, .int 0, .null, .null, .null, .null, .null, .null, .null, .null, .null, .null, .int 0]) (zIn.step g21 rfl rfl rfl) fun s22 g22 => ?_
  refine z_aload_n dX12_init_175 rfl ?_
  refine z_bipush (v := nI 14) dX12_init_176 (by decide) ?_
  refine z_newa (at_ := .int) (t0 := 0) (N := 14) (x := (14, .inl (fun _ => 0))) dX12_init_178 zWint rfl rfl (nI_pos (by decide)) (nI_clamp (by decide)) (Nat.le_of_ble_eq_true rfl) (Nat.le_of_ble_eq_true rfl) (Nat.le_of_ble_eq_true rfl) ?_
  refine z_putF dX12_init_180 ff_X12_78 rfl ((zu_ne (by omega)).trans g22.1) rfl rfl (Nat.le_of_ble_eq_true rfl) ?_
  refine zgen (P := fun z => zIn G σ z m 20 [.int 0, .ref (m + 1 + 0), .ref (m + 1 + 1), .ref (m + 1 + 2), .ref (m + 1 + 3), .ref (m + 1 + 4), .ref (m + 1 + 5), .ref (m + 1 + 6), .ref (m + 1 + 7), .ref (m + 1 + 8), .ref (m + 1 + 9), .ref (m + 1 + 10), .ref (m + 1 + 11), .int 0, .ref (m + 1 + 12), .ref (m + 1 + 13), .ref (m + 1 + 14), .ref (m + 1 + 15), .int (nI 4), .int (nI 20), .int (nI 2), .ref (m + 1 + 16), .int 0, .ref (m + 1 + 17), .ref (m + 1 + 18), .ref (m + 1 + 19), .int 0, .null, .null, .null, .int 0, .int 0, .int 0, .int 0, .null, .null, .null, .null, .null, .null, .null, .null, .null, .null, .int 0]) (zIn.step g22 rfl rfl rfl) fun s23 g23 => ?_
  refine z_aload_n dX12_init_183 rfl ?_
  refine z_bipush (v := nI 14) dX12_init_184 (by decide) ?_
  refine z_newa (at_ := .boolean) (t0 := 1) (N := 14) (x := (14, .inl (fun _ => 0))) dX12_init_186 zWbool rfl rfl (nI_pos (by decide)) (nI_clamp (by decide)) (Nat.le_of_ble_eq_true rfl) (Nat.le_of_ble_eq_true rfl) (Nat.le_of_ble_eq_true rfl) ?_
  refine z_putF dX12_init_188 ff_X12_81 rfl ((zu_ne (by omega)).trans g23.1) rfl rfl (Nat.le_of_ble_eq_true rfl) ?_
  refine zgen (P := fun z => zIn G σ z m 21 [.int 0, .ref (m + 1 + 0), .ref (m + 1 + 1), .ref (m + 1 + 2), .ref (m + 1 + 3), .ref (m + 1 + 4), .ref (m + 1 + 5), .ref (m + 1 + 6), .ref (m + 1 + 7), .ref (m + 1 + 8), .ref (m + 1 + 9), .ref (m + 1 + 10), .ref (m + 1 + 11), .int 0, .ref (m + 1 + 12), .ref (m + 1 + 13), .ref (m + 1 + 14), .ref (m + 1 + 15), .int (nI 4), .int (nI 20), .int (nI 2), .ref (m + 1 + 16), .int 0, .ref (m + 1 + 17), .ref (m + 1 + 18), .ref (m + 1 + 19), .int 0, .ref (m + 1 + 20), .null, .null, .int 0, .int 0, .int 0, .int 0, .null, .null, .null, .null, .null, .null, .null, .null, .null, .null, .int 0]) (zIn.step g23 rfl rfl rfl) fun s24 g24 => ?_
  refine z_aload_n dX12_init_191 rfl ?_
  refine z_bipush (v := nI 14) dX12_init_192 (by decide) ?_
  refine z_newa (at_ := .boolean) (t0 := 1) (N := 14) (x := (14, .inl (fun _ => 0))) dX12_init_194 zWbool rfl rfl (nI_pos (by decide)) (nI_clamp (by decide)) (Nat.le_of_ble_eq_true rfl) (Nat.le_of_ble_eq_true rfl) (Nat.le_of_ble_eq_true rfl) ?_
  refine z_putF dX12_init_196 ff_X12_84 rfl ((zu_ne (by omega)).trans g24.1) rfl rfl (Nat.le_of_ble_eq_true rfl) ?_
  refine zgen (P := fun z => zIn G σ z m 22 [.int 0, .ref (m + 1 + 0), .ref (m + 1 + 1), .ref (m + 1 + 2), .ref (m + 1 + 3), .ref (m + 1 + 4), .ref (m + 1 + 5), .ref (m + 1 + 6), .ref (m + 1 + 7), .ref (m + 1 + 8), .ref (m + 1 + 9), .ref (m + 1 + 10), .ref (m + 1 + 11), .int 0, .ref (m + 1 + 12), .ref (m + 1 + 13), .ref (m + 1 + 14), .ref (m + 1 + 15), .int (nI 4), .int (nI 20), .int (nI 2), .ref (m + 1 + 16), .int 0, .ref (m + 1 + 17), .ref (m + 1 + 18), .ref (m + 1 + 19), .int 0, .ref (m + 1 + 20), .ref (m + 1 + 21), .null, .int 0, .int 0, .int 0, .int 0, .null, .null, .null, .null, .null, .null, .null, .null, .null, .null, .int 0]) (zIn.step g24 rfl rfl rfl) fun s25 g25 => ?_
  refine z_aload_n dX12_init_199 rfl ?_
  refine z_bipush (v := nI 14) dX12_init_200 (by decide) ?_
  refine z_newa (at_ := .boolean) (t0 := 1) (N := 14) (x := (14, .inl (fun _ => 0))) dX12_init_202 zWbool rfl rfl (nI_pos (by decide)) (nI_clamp (by decide)) (Nat.le_of_ble_eq_true rfl) (Nat.le_of_ble_eq_true rfl) (Nat.le_of_ble_eq_true rfl) ?_
  refine z_putF dX12_init_204 ff_X12_87 rfl ((zu_ne (by omega)).trans g25.1) rfl rfl (Nat.le_of_ble_eq_true rfl) ?_
  refine zgen (P := fun z => zIn G σ z m 23 [.int 0, .ref (m + 1 + 0), .ref (m + 1 + 1), .ref (m + 1 + 2), .ref (m + 1 + 3), .ref (m + 1 + 4), .ref (m + 1 + 5), .ref (m + 1 + 6), .ref (m + 1 + 7), .ref (m + 1 + 8), .ref (m + 1 + 9), .ref (m + 1 + 10), .ref (m + 1 + 11), .int 0, .ref (m + 1 + 12), .ref (m + 1 + 13), .ref (m + 1 + 14), .ref (m + 1 + 15), .int (nI 4), .int (nI 20), .int (nI 2), .ref (m + 1 + 16), .int 0, .ref (m + 1 + 17), .ref (m + 1 + 18), .ref (m + 1 + 19), .int 0, .ref (m + 1 + 20), .ref (m + 1 + 21), .ref (m + 1 + 22), .int 0, .int 0, .int 0, .int 0, .null, .null, .null, .null, .null, .null, .null, .null, .null, .null, .int 0]) (zIn.step g25 rfl rfl rfl) fun s26 g26 => ?_
  refine z_aload_n dX12_init_207 rfl ?_
  refine z_sipush (v := nI 256) dX12_init_208 (by decide) ?_
  refine z_newa (at_ := .int) (t0 := 0) (N := 256) (x := (256, .inl (fun _ => 0))) dX12_init_211 zWint rfl rfl (nI_pos (by decide)) (nI_clamp (by decide)) (Nat.le_of_ble_eq_true rfl) (Nat.le_of_ble_eq_true rfl) (Nat.le_of_ble_eq_true rfl) ?_
  refine z_putF dX12_init_213 ff_X12_90 rfl ((zu_ne (by omega)).trans g26.1) rfl rfl (Nat.le_of_ble_eq_true rfl) ?_
  refine zgen (P := fun z => zIn G σ z m 24 [.int 0, .ref (m + 1 + 0), .ref (m + 1 + 1), .ref (m + 1 + 2), .ref (m + 1 + 3), .ref (m + 1 + 4), .ref (m + 1 + 5), .ref (m + 1 + 6), .ref (m + 1 + 7), .ref (m + 1 + 8), .ref (m + 1 + 9), .ref (m + 1 + 10), .ref (m + 1 + 11), .int 0, .ref (m + 1 + 12), .ref (m + 1 + 13), .ref (m + 1 + 14), .ref (m + 1 + 15), .int (nI 4), .int (nI 20), .int (nI 2), .ref (m + 1 + 16), .int 0, .ref (m + 1 + 17), .ref (m + 1 + 18), .ref (m + 1 + 19), .int 0, .ref (m + 1 + 20), .ref (m + 1 + 21), .ref (m + 1 + 22), .int 0, .int 0, .int 0, .int 0, .ref (m + 1 + 23), .null, .null, .null, .null, .null, .null, .null, .null, .null, .int 0]) (zIn.step g26 rfl rfl rfl) fun s27 g27 => ?_
  refine z_aload_n dX12_init_216 rfl ?_
  refine z_sipush (v := nI 256) dX12_init_217 (by decide) ?_
  refine z_newa (at_ := .int) (t0 := 0) (N := 256) (x := (256, .inl (fun _ => 0))) dX12_init_220 zWint rfl rfl (nI_pos (by decide)) (nI_clamp (by decide)) (Nat.le_of_ble_eq_true rfl) (Nat.le_of_ble_eq_true rfl) (Nat.le_of_ble_eq_true rfl) ?_
  refine z_putF dX12_init_222 ff_X12_93 rfl ((zu_ne (by omega)).trans g27.1) rfl rfl (Nat.le_of_ble_eq_true rfl) ?_
  refine zgen (P := fun z => zIn G σ z m 25 [.int 0, .ref (m + 1 + 0), .ref (m + 1 + 1), .ref (m + 1 + 2), .ref (m + 1 + 3), .ref (m + 1 + 4), .ref (m + 1 + 5), .ref (m + 1 + 6), .ref (m + 1 + 7), .ref (m + 1 + 8), .ref (m + 1 + 9), .ref (m + 1 + 10), .ref (m + 1 + 11), .int 0, .ref (m + 1 + 12), .ref (m + 1 + 13), .ref (m + 1 + 14), .ref (m + 1 + 15), .int (nI 4), .int (nI 20), .int (nI 2), .ref (m + 1 + 16), .int 0, .ref (m + 1 + 17), .ref (m + 1 + 18), .ref (m + 1 + 19), .int 0, .ref (m + 1 + 20), .ref (m + 1 + 21), .ref (m + 1 + 22), .int 0, .int 0, .int 0, .int 0, .ref (m + 1 + 23), .ref (m + 1 + 24), .null, .null, .null, .null, .null, .null, .null, .null, .int 0]) (zIn.step g27 rfl rfl rfl) fun s28 g28 => ?_
  refine z_aload_n dX12_init_225 rfl ?_
  refine z_sipush (v := nI 256) dX12_init_226 (by decide) ?_
  refine z_newa (at_ := .int) (t0 := 0) (N := 256) (x := (256, .inl (fun _ => 0))) dX12_init_229 zWint rfl rfl (nI_pos (by decide)) (nI_clamp (by decide)) (Nat.le_of_ble_eq_true rfl) (Nat.le_of_ble_eq_true rfl) (Nat.le_of_ble_eq_true rfl) ?_
  refine z_putF dX12_init_231 ff_X12_96 rfl ((zu_ne (by omega)).trans g28.1) rfl rfl (Nat.le_of_ble_eq_true rfl) ?_
  refine zgen (P := fun z => zIn G σ z m 26 [.int 0, .ref (m + 1 + 0), .ref (m + 1 + 1), .ref (m + 1 + 2), .ref (m + 1 + 3), .ref (m + 1 + 4), .ref (m + 1 + 5), .ref (m + 1 + 6), .ref (m + 1 + 7), .ref (m + 1 + 8), .ref (m + 1 + 9), .ref (m + 1 + 10), .ref (m + 1 + 11), .int 0, .ref (m + 1 + 12), .ref (m + 1 + 13), .ref (m + 1 + 14), .ref (m + 1 + 15), .int (nI 4), .int (nI 20), .int (nI 2), .ref (m + 1 + 16), .int 0, .ref (m + 1 + 17), .ref (m + 1 + 18), .ref (m + 1 + 19), .int 0, .ref (m + 1 + 20), .ref (m + 1 + 21), .ref (m + 1 + 22), .int 0, .int 0, .int 0, .int 0, .ref (m + 1 + 23), .ref (m + 1 + 24), .ref (m + 1 + 25), .null, .null, .null, .null, .null, .null, .null, .int 0]) (zIn.step g28 rfl rfl rfl) fun s29 g29 => ?_
  refine z_aload_n dX12_init_234 rfl ?_
  refine z_sipush (v := nI 256) dX12_init_235 (by decide) ?_
  refine z_newa (at_ := .int) (t0 := 0) (N := 256) (x := (256, .inl (fun _ => 0))) dX12_init_238 zWint rfl rfl (nI_pos (by decide)) (nI_clamp (by decide)) (Nat.le_of_ble_eq_true rfl) (Nat.le_of_ble_eq_true rfl) (Nat.le_of_ble_eq_true rfl) ?_
  refine z_putF dX12_init_240 ff_X12_99 rfl ((zu_ne (by omega)).trans g29.1) rfl rfl (Nat.le_of_ble_eq_true rfl) ?_
  refine zgen (P := fun z => zIn G σ z m 27 [.int 0, .ref (m + 1 + 0), .ref (m + 1 + 1), .ref (m + 1 + 2), .ref (m + 1 + 3), .ref (m + 1 + 4), .ref (m + 1 + 5), .ref (m + 1 + 6), .ref (m + 1 + 7), .ref (m + 1 + 8), .ref (m + 1 + 9), .ref (m + 1 + 10), .ref (m + 1 + 11), .int 0, .ref (m + 1 + 12), .ref (m + 1 + 13), .ref (m + 1 + 14), .ref (m + 1 + 15), .int (nI 4), .int (nI 20), .int (nI 2), .ref (m + 1 + 16), .int 0, .ref (m + 1 + 17), .ref (m + 1 + 18), .ref (m + 1 + 19), .int 0, .ref (m + 1 + 20), .ref (m + 1 + 21), .ref (m + 1 + 22), .int 0, .int 0, .int 0, .int 0, .ref (m + 1 + 23), .ref (m + 1 + 24), .ref (m + 1 + 25), .ref (m + 1 + 26), .null, .null, .null, .null, .null, .null, .int 0]) (zIn.step g29 rfl rfl rfl) fun s30 g30 => ?_
  refine z_aload_n dX12_init_243 rfl ?_
  refine z_sipush (v := nI 256) dX12_init_244 (by decide) ?_
  refine z_newa (at_ := .int) (t0 := 0) (N := 256) (x := (256, .inl (fun _ => 0))) dX12_init_247 zWint rfl rfl (nI_pos (by decide)) (nI_clamp (by decide)) (Nat.le_of_ble_eq_true rfl) (Nat.le_of_ble_eq_true rfl) (Nat.le_of_ble_eq_true rfl) ?_
  refine z_putF dX12_init_249 ff_X12_102 rfl ((zu_ne (by omega)).trans g30.1) rfl rfl (Nat.le_of_ble_eq_true rfl) ?_
  refine zgen (P := fun z => zIn G σ z m 28 [.int 0, .ref (m + 1 + 0), .ref (m + 1 + 1), .ref (m + 1 + 2), .ref (m + 1 + 3), .ref (m + 1 + 4), .ref (m + 1 + 5), .ref (m + 1 + 6), .ref (m + 1 + 7), .ref (m + 1 + 8), .ref (m + 1 + 9), .ref (m + 1 + 10), .ref (m + 1 + 11), .int 0, .ref (m + 1 + 12), .ref (m + 1 + 13), .ref (m + 1 + 14), .ref (m + 1 + 15), .int (nI 4), .int (nI 20), .int (nI 2), .ref (m + 1 + 16), .int 0, .ref (m + 1 + 17), .ref (m + 1 + 18), .ref (m + 1 + 19), .int 0, .ref (m + 1 + 20), .ref (m + 1 + 21), .ref (m + 1 + 22), .int 0, .int 0, .int 0, .int 0, .ref (m + 1 + 23), .ref (m + 1 + 24), .ref (m + 1 + 25), .ref (m + 1 + 26), .ref (m + 1 + 27), .null, .null, .null, .null, .null, .int 0]) (zIn.step g30 rfl rfl rfl) fun s31 g31 => ?_
  refine z_aload_n dX12_init_252 rfl ?_
  refine z_sipush (v := nI 256) dX12_init_253 (by decide) ?_
  refine z_newa (at_ := .boolean) (t0 := 1) (N := 256) (x := (256, .inl (fun _ => 0))) dX12_init_256 zWbool rfl rfl (nI_pos (by decide)) (nI_clamp (by decide)) (Nat.le_of_ble_eq_true rfl) (Nat.le_of_ble_eq_true rfl) (Nat.le_of_ble_eq_true rfl) ?_
  refine z_putF dX12_init_258 ff_X12_105 rfl ((zu_ne (by omega)).trans g31.1) rfl rfl (Nat.le_of_ble_eq_true rfl) ?_
  refine zgen (P := fun z => zIn G σ z m 29 [.int 0, .ref (m + 1 + 0), .ref (m + 1 + 1), .ref (m + 1 + 2), .ref (m + 1 + 3), .ref (m + 1 + 4), .ref (m + 1 + 5), .ref (m + 1 + 6), .ref (m + 1 + 7), .ref (m + 1 + 8), .ref (m + 1 + 9), .ref (m + 1 + 10), .ref (m + 1 + 11), .int 0, .ref (m + 1 + 12), .ref (m + 1 + 13), .ref (m + 1 + 14), .ref (m + 1 + 15), .int (nI 4), .int (nI 20), .int (nI 2), .ref (m + 1 + 16), .int 0, .ref (m + 1 + 17), .ref (m + 1 + 18), .ref (m + 1 + 19), .int 0, .ref (m + 1 + 20), .ref (m + 1 + 21), .ref (m + 1 + 22), .int 0, .int 0, .int 0, .int 0, .ref (m + 1 + 23), .ref (m + 1 + 24), .ref (m + 1 + 25), .ref (m + 1 + 26), .ref (m + 1 + 27), .ref (m + 1 + 28), .null, .null, .null, .null, .int 0]) (zIn.step g31 rfl rfl rfl) fun s32 g32 => ?_
  refine z_aload_n dX12_init_261 rfl ?_
  refine z_bipush (v := nI 8) dX12_init_262 (by decide) ?_
  refine z_newa (at_ := .int) (t0 := 0) (N := 8) (x := (8, .inl (fun _ => 0))) dX12_init_264 zWint rfl rfl (nI_pos (by decide)) (nI_clamp (by decide)) (Nat.le_of_ble_eq_true rfl) (Nat.le_of_ble_eq_true rfl) (Nat.le_of_ble_eq_true rfl) ?_
  refine z_putF dX12_init_266 ff_X12_108 rfl ((zu_ne (by omega)).trans g32.1) rfl rfl (Nat.le_of_ble_eq_true rfl) ?_
  refine zgen (P := fun z => zIn G σ z m 30 [.int 0, .ref (m + 1 + 0), .ref (m + 1 + 1), .ref (m + 1 + 2), .ref (m + 1 + 3), .ref (m + 1 + 4), .ref (m + 1 + 5), .ref (m + 1 + 6), .ref (m + 1 + 7), .ref (m + 1 + 8), .ref (m + 1 + 9), .ref (m + 1 + 10), .ref (m + 1 + 11), .int 0, .ref (m + 1 + 12), .ref (m + 1 + 13), .ref (m + 1 + 14), .ref (m + 1 + 15), .int (nI 4), .int (nI 20), .int (nI 2), .ref (m + 1 + 16), .int 0, .ref (m + 1 + 17), .ref (m + 1 + 18), .ref (m + 1 + 19), .int 0, .ref (m + 1 + 20), .ref (m + 1 + 21), .ref (m + 1 + 22), .int 0, .int 0, .int 0, .int 0, .ref (m + 1 + 23), .ref (m + 1 + 24), .ref (m + 1 + 25), .ref (m + 1 + 26), .ref (m + 1 + 27), .ref (m + 1 + 28), .ref (m + 1 + 29), .null, .null, .null, .int 0]) (zIn.step g32 rfl rfl rfl) fun s33 g33 => ?_
  refine z_aload_n dX12_init_269 rfl ?_
  refine z_bipush (v := nI 8) dX12_init_270 (by decide) ?_
  refine z_newa (at_ := .int) (t0 := 0) (N := 8) (x := (8, .inl (fun _ => 0))) dX12_init_272 zWint rfl rfl (nI_pos (by decide)) (nI_clamp (by decide)) (Nat.le_of_ble_eq_true rfl) (Nat.le_of_ble_eq_true rfl) (Nat.le_of_ble_eq_true rfl) ?_
  refine z_putF dX12_init_274 ff_X12_111 rfl ((zu_ne (by omega)).trans g33.1) rfl rfl (Nat.le_of_ble_eq_true rfl) ?_
  refine zgen (P := fun z => zIn G σ z m 31 [.int 0, .ref (m + 1 + 0), .ref (m + 1 + 1), .ref (m + 1 + 2), .ref (m + 1 + 3), .ref (m + 1 + 4), .ref (m + 1 + 5), .ref (m + 1 + 6), .ref (m + 1 + 7), .ref (m + 1 + 8), .ref (m + 1 + 9), .ref (m + 1 + 10), .ref (m + 1 + 11), .int 0, .ref (m + 1 + 12), .ref (m + 1 + 13), .ref (m + 1 + 14), .ref (m + 1 + 15), .int (nI 4), .int (nI 20), .int (nI 2), .ref (m + 1 + 16), .int 0, .ref (m + 1 + 17), .ref (m + 1 + 18), .ref (m + 1 + 19), .int 0, .ref (m + 1 + 20), .ref (m + 1 + 21), .ref (m + 1 + 22), .int 0, .int 0, .int 0, .int 0, .ref (m + 1 + 23), .ref (m + 1 + 24), .ref (m + 1 + 25), .ref (m + 1 + 26), .ref (m + 1 + 27), .ref (m + 1 + 28), .ref (m + 1 + 29), .ref (m + 1 + 30), .null, .null, .int 0]) (zIn.step g33 rfl rfl rfl) fun s34 g34 => ?_
  refine z_aload_n dX12_init_277 rfl ?_
  refine z_bipush (v := nI 8) dX12_init_278 (by decide) ?_
  refine z_newa (at_ := .boolean) (t0 := 1) (N := 8) (x := (8, .inl (fun _ => 0))) dX12_init_280 zWbool rfl rfl (nI_pos (by decide)) (nI_clamp (by decide)) (Nat.le_of_ble_eq_true rfl) (Nat.le_of_ble_eq_true rfl) (Nat.le_of_ble_eq_true rfl) ?_
  refine z_putF dX12_init_282 ff_X12_114 rfl ((zu_ne (by omega)).trans g34.1) rfl rfl (Nat.le_of_ble_eq_true rfl) ?_
  refine zgen (P := fun z => zIn G σ z m 32 [.int 0, .ref (m + 1 + 0), .ref (m + 1 + 1), .ref (m + 1 + 2), .ref (m + 1 + 3), .ref (m + 1 + 4), .ref (m + 1 + 5), .ref (m + 1 + 6), .ref (m + 1 + 7), .ref (m + 1 + 8), .ref (m + 1 + 9), .ref (m + 1 + 10), .ref (m + 1 + 11), .int 0, .ref (m + 1 + 12), .ref (m + 1 + 13), .ref (m + 1 + 14), .ref (m + 1 + 15), .int (nI 4), .int (nI 20), .int (nI 2), .ref (m + 1 + 16), .int 0, .ref (m + 1 + 17), .ref (m + 1 + 18), .ref (m + 1 + 19), .int 0, .ref (m + 1 + 20), .ref (m + 1 + 21), .ref (m + 1 + 22), .int 0, .int 0, .int 0, .int 0, .ref (m + 1 + 23), .ref (m + 1 + 24), .ref (m + 1 + 25), .ref (m + 1 + 26), .ref (m + 1 + 27), .ref (m + 1 + 28), .ref (m + 1 + 29), .ref (m + 1 + 30), .ref (m + 1 + 31), .null, .int 0]) (zIn.step g34 rfl rfl rfl) fun s35 g35 => ?_
  refine z_aload_n dX12_init_285 rfl ?_
  refine z_iconst (v := nI 4) dX12_init_286 (by decide) ?_
  refine z_newa (at_ := .int) (t0 := 0) (N := 4) (x := (4, .inl (fun _ => 0))) dX12_init_287 zWint rfl rfl (nI_pos (by decide)) (nI_clamp (by decide)) (Nat.le_of_ble_eq_true rfl) (Nat.le_of_ble_eq_true rfl) (Nat.le_of_ble_eq_true rfl) ?_
  refine z_putF dX12_init_289 ff_X12_117 rfl ((zu_ne (by omega)).trans g35.1) rfl rfl (Nat.le_of_ble_eq_true rfl) ?_
  refine zgen (P := fun z => zIn G σ z m 33 [.int 0, .ref (m + 1 + 0), .ref (m + 1 + 1), .ref (m + 1 + 2), .ref (m + 1 + 3), .ref (m + 1 + 4), .ref (m + 1 + 5), .ref (m + 1 + 6), .ref (m + 1 + 7), .ref (m + 1 + 8), .ref (m + 1 + 9), .ref (m + 1 + 10), .ref (m + 1 + 11), .int 0, .ref (m + 1 + 12), .ref (m + 1 + 13), .ref (m + 1 + 14), .ref (m + 1 + 15), .int (nI 4), .int (nI 20), .int (nI 2), .ref (m + 1 + 16), .int 0, .ref (m + 1 + 17), .ref (m + 1 + 18), .ref (m + 1 + 19), .int 0, .ref (m + 1 + 20), .ref (m + 1 + 21), .ref (m + 1 + 22), .int 0, .int 0, .int 0, .int 0, .ref (m + 1 + 23), .ref (m + 1 + 24), .ref (m + 1 + 25), .ref (m + 1 + 26), .ref (m + 1 + 27), .ref (m + 1 + 28), .ref (m + 1 + 29), .ref (m + 1 + 30), .ref (m + 1 + 31), .ref (m + 1 + 32), .int 0]) (zIn.step g35 rfl rfl rfl) fun s36 g36 => ?_
  have loop : ∀ (d k : Nat) (τ : zH), k + d = 4 → zMd G τ m (zM0.1, fun j i => if j = 16 ∧ i < k then 1 else 0) → zFr σ τ m 34 → zWP G kX12_init (zFM G kX12_init.2.2.2.1 Q) 294 [some (.ref m), some (.int (nI k))] [] τ (m + 34) 33 10668 := by
    intro d
    induction d with
    | zero =>
      intro k τ hk h1 h2
      refine z_iload_n dX12_init_294 rfl ?_
      refine z_iconst (v := 4) dX12_init_295 (by decide) ?_
      refine z_icmp_ge (tgt := 312) dX12_init_296 (by decide) (fun _ => ?_) (fun q => absurd (show nI 4 ≤ nI k from nI_le (by omega) (by omega)) q)
      have e4 : k = 4 := by omega
      subst e4
      exact z_vret dX12_init_312 rfl (by decide) (Nat.le_of_ble_eq_true rfl) (hQ _ _ _ ⟨rfl, h1, h2, rfl⟩)
    | succ d ih =>
      intro k τ hk h1 h2
      refine z_iload_n dX12_init_294 rfl ?_
      refine z_iconst (v := 4) dX12_init_295 (by decide) ?_
      refine z_icmp_ge (tgt := 312) dX12_init_296 (by decide) (fun q => absurd q (show ¬ nI 4 ≤ nI k from nI_ge (by omega) (by omega))) (fun _ => ?_)
      refine z_aload_n dX12_init_299 rfl ?_
      refine z_getf dX12_init_300 fl_X12_68 h1.1 rfl ?_
      refine z_iload_n dX12_init_303 rfl ?_
      refine z_iconst (v := 1) dX12_init_304 (by decide) ?_
      refine z_iast (a := m + 1 + 16) (n := 4) dX12_init_305 (h1.2 16 (by decide)) (vp_in_nI (by omega) (by omega)) ?_
      refine z_inc1 dX12_init_306 rfl (by decide) ?_
      refine z_goto (tgt := 294) dX12_init_309 (by decide) ?_
      rw [nI_1, nI_clamp (by omega)]
      have h3 := h1.st (j := 16) (i := k) (x := 1)
      refine ih (k + 1) _ (by omega) ?_ (fun b hb => (zu_ne (by omega)).trans (h2 b hb))
      refine ⟨h3.1, fun j hj => (h3.2 j hj).trans ?_⟩
      congr 2
      funext i
      by_cases e : j = 16
      · subst e
        rw [zST_j]
        by_cases e2 : i = k
        · subst e2; rw [pk_us]; exact (if_pos ⟨rfl, Nat.lt_succ_self _⟩).symm
        · rw [pk_un e2]
          by_cases e3 : i < k
          · exact (if_pos ⟨rfl, e3⟩).trans (if_pos ⟨rfl, Nat.lt_succ_of_lt e3⟩).symm
          · exact (if_neg fun q => e3 q.2).trans (if_neg (fun q => e3 (Nat.lt_of_le_of_ne (Nat.le_of_lt_succ q.2) e2))).symm
      · rw [zST_n _ _ _ e]; exact (if_neg fun q => e q.1).trans (if_neg (fun q => e q.1)).symm
  refine z_iconst (v := 0) dX12_init_292 (by decide) ?_
  refine z_istore_n dX12_init_293 (by decide) ?_
  refine loop 4 0 _ rfl ⟨g36.1, fun j hj => (g36.2.1 j hj).trans ?_⟩ (fun b hb => g36.2.2 b (by omega))
  congr 2
  funext i
  exact (if_neg (fun q => Nat.not_lt_zero _ q.2)).symm
theorem zM0_ok : zrM zM0 [] 4 20 2 (fun _ => 1) 0 [] [] 0 0 0 0 := by
  refine ⟨⟨rfl, Nat.zero_le _, fun i e he => by simp at he, fun i _ _ => ⟨rfl, rfl⟩⟩, ⟨Or.inl rfl, fun q => absurd q (by decide)⟩, ⟨rfl, rfl, rfl, rfl, fun k hk => if_pos ⟨rfl, hk⟩⟩, ⟨fun k hk => rfl, rfl, fun _ => 0, fun i q h => by simp at h, fun i j a b _ h => by simp at h⟩, rfl, rfl, rfl, rfl, Nat.zero_le _, fun k a h => by simp at h⟩
