/-! the share of time -/
theorem z_fconst0 {G : zG} {k : zK} {F : zF} {pc : Nat} {ls : zL} {st : List Value} {σ : zH} {nx ca sl : Nat} (d : decode k.2.1 pc = .ok (.fconst 0, 1)) (kk : zWP G k F (pc + 1) ls (.float FP.fconst0 :: st) σ nx ca sl) : zWP G k F pc ls st σ nx ca sl := by
  intro p l e s m args below meth c A H locs la C hH hS hl
  exact lv_fconst0 C.1 C.2.1 d (kk p l e s m args below meth c A H locs la C hH hS hl)
theorem zsh_ne {tk cs : Nat} (h : tk ≤ 28000000) (h1 : 1 ≤ cs) (h4 : cs ≤ 4) (h0 : tk ≠ 0) : tk * cs < 2 ^ 31 ∧ 0 < tk * cs := by
  have := Nat.mul_le_mul h h4
  have := Nat.mul_le_mul (show 1 ≤ tk by omega) h1
  omega
theorem zshF_ok {A : List zAE} {tk cs : Nat} (hcs : tk ≠ 0 → 1 ≤ cs ∧ cs ≤ 4) (htk : tk ≤ 28000000) : vf_n32 (zshF A tk cs) := by
  unfold zshF
  by_cases h : tk = 0
  · rw [if_pos h]
    unfold vf_n32
    decide
  · rw [if_neg h]
    obtain ⟨c1, c2⟩ := hcs h
    obtain ⟨a, b⟩ := zsh_ne htk c1 c2 h
    refine zfdiv_ok fun w => ?_
    have := (nI_eq (a := tk * cs) (b := 0) a (by omega)).mp w
    omega
theorem z_fcmp {G : zG} {k : zK} {F : zF} {pc : Nat} {ls : zL} {st : List Value} {σ : zH} {nx ca sl : Nat} {x y : UInt32} {op : CmpOp} (d : decode k.2.1 pc = .ok (.fcmp op, 1)) (kk : zWP G k F (pc + 1) ls (.int (Op.cmpValue (FP.fcmp x y) op) :: st) σ nx ca sl) : zWP G k F pc ls (.float y :: .float x :: st) σ nx ca sl := by
  intro p l e s m args below meth c A H locs la C hH hS hl
  exact lv_fcmp C.1 C.2.1 d (kk p l e s m args below meth c A H locs la C hH hS hl)
theorem zfcmp_self {x : UInt32} (h : vf_n32 x) : Op.cmpValue (FP.fcmp x x) .l = 0 := by
  unfold vf_n32 at h
  rw [UInt32.le_iff_toNat_le, UInt32.toNat_and, show (0x7fffffff : UInt32).toNat = 2 ^ 31 - 1 by decide, show (0x7f800000 : UInt32).toNat = 2139095040 by decide, Nat.and_two_pow_sub_one_eq_mod] at h
  rw [show FP.fcmp x x = some .eq from FP.Core.fcmp_self ((FP.Core.ne_nan32 _).mpr h)]
  rfl
section
variable {G : zG} {σ : zH} {b hi nx lim mem wk r tk sp cs : Nat} {nt : zNT} {slow : Nat → Nat} {L : zNS} {A : List zAE} {R : Nat → Nat → Int32}
set_option maxRecDepth 100000 in
theorem c_share_f {nx : Nat} (hcs : tk ≠ 0 → 1 ≤ cs ∧ cs ≤ 4) (htk : tk ≤ 28000000) (h : zTG G σ b hi nt lim mem wk slow r L A tk sp cs) : zM G yX11_share kX11_share [.ref b] σ nx (fun v σ' nx' => v = some (.float (zshF A tk cs)) ∧ σ' = σ ∧ nx' = nx) := by
  refine zM.of (ls := [some (.ref b), none]) (by decide +kernel) ⟨rfl, rfl, rfl⟩ (Nat.le_of_ble_eq_true rfl) (fun _ h => h) ?_
  have lg := h.lg
  obtain ⟨f, l1, l2⟩ := id lg
  refine z_aload_n dX11_share_0 rfl ?_
  refine z_getf dX11_share_1 fl_X11_58 h.1 rfl ?_
  refine z_getf dX11_share_4 fl_X11_295 l1 rfl ?_
  refine z_aload_n dX11_share_7 rfl ?_
  refine z_getf dX11_share_8 fl_X11_58 h.1 rfl ?_
  refine z_getf dX11_share_11 fl_X11_326 l1 rfl ?_
  refine z_imul dX11_share_14 ?_
  rw [pk_mul]
  refine z_istore_n dX11_share_15 (by decide) ?_
  refine z_iload_n dX11_share_16 rfl ?_
  by_cases c : tk = 0
  · have e : zshF A tk cs = FP.fconst0 := if_pos c
    refine z_if_gt (tgt := 24) dX11_share_17 (by decide) (fun q_9 => absurd q_9 ((by rw [c, Nat.zero_mul]; decide))) (fun _ => ?_)
    refine z_fconst0 dX11_share_20 ?_
    refine z_goto (tgt := 35) dX11_share_21 (by decide) ?_
    exact z_fret dX11_share_35 rfl (Nat.le_of_ble_eq_true rfl) (Nat.le_of_ble_eq_true rfl) ⟨by rw [e], rfl, rfl⟩
  · have e : zshF A tk cs = FP.fdiv (FP.i2f (zts A)) (FP.i2f (nI (tk * cs))) := if_neg c
    obtain ⟨z1, z2⟩ := zsh_ne htk (hcs c).1 (hcs c).2 c
    refine z_if_gt (tgt := 24) dX11_share_17 (by decide) (fun _ => ?_) (fun q_9 => absurd ((show (0 : Int32) < nI (tk * cs) from nI_lt (a := 0) z2 z1)) q_9)
    refine z_aload_n dX11_share_24 rfl ?_
    refine z_getf dX11_share_25 fl_X11_58 h.1 rfl ?_
    refine z_callV dX11_share_28 cv_X11_329 (c_X6_ticksOfAttempts lg) rfl l1 rfl rfl ⟨(Nat.le_of_ble_eq_true rfl), (Nat.le_of_ble_eq_true rfl)⟩ (Nat.le_of_ble_eq_true rfl) (Nat.le_of_ble_eq_true rfl) (Nat.le_of_ble_eq_true rfl) (fun v σ1 nx1 hx1 hq1 => ?_)
    obtain ⟨rfl, rfl, rfl⟩ := hq1
    refine z_i2f dX11_share_31 ?_
    refine z_iload_n dX11_share_32 rfl ?_
    refine z_i2f dX11_share_33 ?_
    refine z_fdiv dX11_share_34 (zfdiv_ok fun w => by have := (nI_eq (b := 0) z1 (by decide)).mp w; omega) ?_
    exact z_fret dX11_share_35 rfl (Nat.le_of_ble_eq_true rfl) (Nat.le_of_ble_eq_true rfl) ⟨by rw [e], rfl, rfl⟩
theorem p_share (S : zVs G σ b (nt, lim, mem, wk, slow, r, L, A, tk, sp, cs) R) : zM G yX11_share kX11_share [.ref b] σ nx (fun v σ' nx' => v = some (.float (zshF A tk cs)) ∧ zVs G σ' b (nt, lim, mem, wk, slow, r, L, A, tk, sp, cs) R ∧ nx' = nx) :=
  zM.mono (c_share_f S.2.1.2.2.2.2.2.2.2.2.2.2.2.1 S.2.1.2.2.2.2.2.2.2.2.2.2.1 S.tg) fun v σ' nx' q => ⟨q.1, by rw [q.2.1]; exact S, q.2.2⟩
end
