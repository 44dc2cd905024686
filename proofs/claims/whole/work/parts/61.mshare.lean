-- model
/-! the model: share -/
theorem zfdiv_ok {a b : Int32} (hb : b ≠ 0) : vf_n32 (FP.fdiv (FP.i2f a) (FP.i2f b)) := by
  have hz : ¬ FP.Core.FZero (FP.Core.i2f b) := fun w => FP.Core.i2f_ne_zero hb ((FP.Core.zero_bits232 _).mp w)
  have ha : FP.Core.fIsNaN (FP.Core.i2f a) = false := (FP.Core.notNaN_iff32 _).mpr (FP.Core.i2f_fin a).ne_nan
  have h := FP.Core.fdiv_out ha (FP.Core.i2f_fin b) hz
  have h2 : (FP.Core.fdiv (FP.Core.i2f a) (FP.Core.i2f b)).toNat % 2 ^ 31 ≤ 2139095040 := (FP.Core.ne_nan32 _).mp ((FP.Core.notNaN_iff32 _).mp h)
  unfold vf_n32
  rw [FP.fdiv_core, FP.i2f_core, UInt32.le_iff_toNat_le, UInt32.toNat_and]
  have h3 : (0x7fffffff : UInt32).toNat = 2 ^ 31 - 1 := by decide
  have h4 : (0x7f800000 : UInt32).toNat = 2139095040 := by decide
  rw [h3, h4, Nat.and_two_pow_sub_one_eq_mod]
  exact h2
theorem z_fconst0 {G : zG} {k : zK} {F : zF} {pc : Nat} {ls : zL} {st : List Value} {σ : zH} {nx ca sl : Nat} (d : decode k.2.1 pc = .ok (.fconst 0, 1)) (kk : zWP G k F (pc + 1) ls (.float FP.fconst0 :: st) σ nx ca sl) : zWP G k F pc ls st σ nx ca sl := by
  intro p l e s m args below meth c A H locs la C hH hS hl
  exact lv_fconst0 C.1 C.2.1 d (kk p l e s m args below meth c A H locs la C hH hS hl)
theorem n_fconst0 {G : zG} {k : zK} {m : Nat} {Q : Option Value → zMS → Prop} {pc : Nat} {ls : zL} {st : List Value} {S : zMS} (d : decode k.2.1 pc = .ok (.fconst 0, 1)) (kk : zNW G k m Q (pc + 1) ls (.float FP.fconst0 :: st) S) : zNW G k m Q pc ls st S := fun σ0 σ nx h f => z_fconst0 d (kk σ0 σ nx h f)
noncomputable def zshF (A : List zAE) (tk cs : Nat) : UInt32 := if tk = 0 then FP.fconst0 else FP.fdiv (FP.i2f (zts A)) (FP.i2f (nI (tk * cs)))
theorem zsh_ne {tk cs : Nat} (h : tk ≤ 28000000) (h1 : 1 ≤ cs) (h4 : cs ≤ 4) (h0 : tk ≠ 0) : tk * cs < 2 ^ 31 ∧ 0 < tk * cs := by
  have := Nat.mul_le_mul h h4
  have := Nat.mul_le_mul (show 1 ≤ tk by omega) h1
  omega
section
variable {G : zG} {σ : zH} {b hi m lim mem wk r tk sp cs un : Nat} {nt : zNT} {slow : Nat → Nat} {L : zNS} {A : List zAE} {S S' : zMS}
set_option maxRecDepth 100000 in
theorem c_m_share (hcs : tk ≠ 0 → 1 ≤ cs ∧ cs ≤ 4) (htk : tk ≤ 28000000) (h : zrM S nt lim mem wk slow r L A tk sp cs un) : zMN G yX12_share_ kX12_share_ m [] S (fun v S' => v = some (.float (zshF A tk cs)) ∧ S'.1 11 = 0 ∧ zrM S' nt lim mem wk slow r L A tk sp cs un) := by
  refine zMN.of (ls := [some (.ref m), none, none]) (by decide +kernel) ⟨rfl, rfl, rfl⟩ (Nat.le_of_ble_eq_true rfl) (fun _ h => h) fun Q hQ => ?_
  have h1 := h.thr (x := nI 0)
  have hl := h1.2.2.2.2
  obtain ⟨S1, hS1⟩ : ∃ z, z = zSF S 11 (nI 0) := ⟨_, rfl⟩
  rw [← hS1] at h1 hl
  have e11 : S1.1 11 = 0 := by rw [hS1]; exact zSF_s
  have loop : ∀ (d k : Nat), k + d = A.length → zNW G kX12_share_ m Q 9 [some (.ref m), some (.int (zts (A.take k))), some (.int (nI k))] [] S1 := by
    intro d
    induction d with
    | zero =>
      intro k hk
      have e : k = A.length := by omega
      subst e
      rw [List.take_length]
      refine n_iload_n dX12_share__9 rfl ?_
      refine n_aload_n dX12_share__10 rfl ?_
      refine n_getE dX12_share__11 fl_X12_238 rfl (hl.2.2.2.1) ?_
      refine n_icmp_ge (tgt := 39) dX12_share__14 (by decide) (fun _ => ?_) (fun q => absurd ((nI_le (Nat.le_refl _) (by have := hl.2.2.2.2.1; omega))) q)
      refine n_aload_n dX12_share__39 rfl ?_
      refine n_getE dX12_share__40 fl_X12_258 rfl (hl.1) ?_
      by_cases c : tk = 0
      · have e : zshF A tk cs = FP.fconst0 := if_pos c
        rw [e] at hQ
        refine n_if_ne (tgt := 50) dX12_share__43 (by decide) (fun q => absurd ((by rw [c]; rfl)) q) (fun _ => ?_)
        refine n_fconst0 dX12_share__46 ?_
        refine n_goto (tgt := 63) dX12_share__47 (by decide) ?_
        exact n_fret dX12_share__63 rfl (hQ _ _ ⟨rfl, e11, h1⟩)
      · have e : zshF A tk cs = FP.fdiv (FP.i2f (zts A)) (FP.i2f (nI (tk * cs))) := if_neg c
        obtain ⟨z1, z2⟩ := zsh_ne htk (hcs c).1 (hcs c).2 c
        rw [e] at hQ
        refine n_if_ne (tgt := 50) dX12_share__43 (by decide) (fun _ => ?_) (fun q => absurd q ((fun w => c ((nI_eq (b := 0) (by omega) (by decide)).mp w))))
        refine n_iload_n dX12_share__50 rfl ?_
        refine n_i2f dX12_share__51 ?_
        refine n_aload_n dX12_share__52 rfl ?_
        refine n_getE dX12_share__53 fl_X12_258 rfl (hl.1) ?_
        refine n_aload_n dX12_share__56 rfl ?_
        refine n_getE dX12_share__57 fl_X12_261 rfl (hl.2.2.1) ?_
        refine n_imul dX12_share__60 ?_
        rw [pk_mul]
        refine n_i2f dX12_share__61 ?_
        refine n_fdiv dX12_share__62 (zfdiv_ok fun w => by have := (nI_eq (b := 0) z1 (by decide)).mp w; omega) ?_
        exact n_fret dX12_share__63 rfl (hQ _ _ ⟨rfl, e11, h1⟩)
    | succ d ih =>
      intro k hk
      have hg : A[k]? = some (A[k]'(by omega)) := List.getElem?_eq_getElem _
      generalize A[k]'(by omega) = a at hg
      obtain ⟨-, -, -, r3, r4, -⟩ := hl.2.2.2.2.2 k a hg
      have nx := ih (k + 1) (by omega)
      rw [ztake hg, zts_snoc] at nx
      have hl' := hl.2.2.2.2.1
      refine n_iload_n dX12_share__9 rfl ?_
      refine n_aload_n dX12_share__10 rfl ?_
      refine n_getE dX12_share__11 fl_X12_238 rfl (hl.2.2.2.1) ?_
      refine n_icmp_ge (tgt := 39) dX12_share__14 (by decide) (fun q => absurd q ((nI_ge (show k < A.length by omega) (by omega)))) (fun _ => ?_)
      refine n_iload_n dX12_share__17 rfl ?_
      refine n_aload_n dX12_share__18 rfl ?_
      refine n_get dX12_share__19 fl_X12_102 rfl ?_
      refine n_iload_n dX12_share__22 rfl ?_
      refine n_iald (j := 27) dX12_share__23 (by decide) rfl rfl (show _ < 256 by omega) r4 ?_
      refine n_aload_n dX12_share__24 rfl ?_
      refine n_get dX12_share__25 fl_X12_99 rfl ?_
      refine n_iload_n dX12_share__28 rfl ?_
      refine n_iald (j := 26) dX12_share__29 (by decide) rfl rfl (show _ < 256 by omega) r3 ?_
      refine n_isub dX12_share__30 ?_
      refine n_iadd dX12_share__31 ?_
      refine n_istore_n dX12_share__32 (by decide) ?_
      refine n_inc1 dX12_share__33 rfl (by decide) ?_
      rw [nI_1]
      refine n_goto (tgt := 9) dX12_share__36 (by decide) ?_
      exact nx
  refine n_aload_n dX12_share__0 rfl ?_
  refine n_iconst (v := (nI 0)) dX12_share__1 (by decide) ?_
  refine n_put (j := 11) dX12_share__2 fp_X12_120 (zMFs11 _ _ _) rfl rfl (Nat.le_of_ble_eq_true rfl) ?_
  refine n_iconst (v := (nI 0)) dX12_share__5 (by decide) ?_
  refine n_istore_n dX12_share__6 (by decide) ?_
  refine n_iconst (v := (nI 0)) dX12_share__7 (by decide) ?_
  refine n_istore_n dX12_share__8 (by decide) ?_
  rw [← hS1]
  exact loop A.length 0 (by omega)
set_option maxRecDepth 100000 in
theorem c_share_f {nx : Nat} (hcs : tk ≠ 0 → 1 ≤ cs ∧ cs ≤ 4) (htk : tk ≤ 28000000) (h : zTG G σ b hi nt lim mem wk slow r L A tk sp cs) : zM G yX11_share kX11_share [.ref b] σ nx (fun v σ' nx' => v = some (.float (zshF A tk cs)) ∧ σ' = σ ∧ nx' = nx) := by
  refine zM.of (ls := [some (.ref b), none]) (by decide +kernel) ⟨rfl, rfl, rfl⟩ (Nat.le_of_ble_eq_true rfl) (fun _ h => h) ?_
  have lg := h.lg
  obtain ⟨f, l1, l2⟩ := id lg
  refine z_aload_n dX11_share_0 rfl ?_
  refine z_getf dX11_share_1 fl_X11_58 h.1 rfl ?_
  refine z_getf dX11_share_4 fl_X11_295 l1 rfl ?_
  refine z_aload_n dX11_share_7 rfl ?_
  refine z_getf dX11_share_8 fl_X11_58 h.1 rfl ?_
  refine z_getf dX11_share_11 fl_X11_326 l1 rfl ?_
  refine z_imul dX11_share_14 ?_
  rw [pk_mul]
  refine z_istore_n dX11_share_15 (by decide) ?_
  refine z_iload_n dX11_share_16 rfl ?_
  by_cases c : tk = 0
  · have e : zshF A tk cs = FP.fconst0 := if_pos c
    refine z_if_gt (tgt := 24) dX11_share_17 (by decide) (fun q => absurd q ((by rw [c, Nat.zero_mul]; decide))) (fun _ => ?_)
    refine z_fconst0 dX11_share_20 ?_
    refine z_goto (tgt := 35) dX11_share_21 (by decide) ?_
    exact z_fret dX11_share_35 rfl (Nat.le_of_ble_eq_true rfl) (Nat.le_of_ble_eq_true rfl) ⟨by rw [e], rfl, rfl⟩
  · have e : zshF A tk cs = FP.fdiv (FP.i2f (zts A)) (FP.i2f (nI (tk * cs))) := if_neg c
    obtain ⟨z1, z2⟩ := zsh_ne htk (hcs c).1 (hcs c).2 c
    refine z_if_gt (tgt := 24) dX11_share_17 (by decide) (fun _ => ?_) (fun q => absurd ((show (0 : Int32) < nI (tk * cs) from nI_lt (a := 0) z2 z1)) q)
    refine z_aload_n dX11_share_24 rfl ?_
    refine z_getf dX11_share_25 fl_X11_58 h.1 rfl ?_
    refine z_callV dX11_share_28 cv_X11_329 (c_X6_ticksOfAttempts lg) rfl l1 rfl rfl ⟨(Nat.le_of_ble_eq_true rfl), (Nat.le_of_ble_eq_true rfl)⟩ (Nat.le_of_ble_eq_true rfl) (Nat.le_of_ble_eq_true rfl) (Nat.le_of_ble_eq_true rfl) (fun v σ1 nx1 hx1 hq1 => ?_)
    obtain ⟨rfl, rfl, rfl⟩ := hq1
    refine z_i2f dX11_share_31 ?_
    refine z_iload_n dX11_share_32 rfl ?_
    refine z_i2f dX11_share_33 ?_
    refine z_fdiv dX11_share_34 (zfdiv_ok fun w => by have := (nI_eq (b := 0) z1 (by decide)).mp w; omega) ?_
    exact z_fret dX11_share_35 rfl (Nat.le_of_ble_eq_true rfl) (Nat.le_of_ble_eq_true rfl) ⟨by rw [e], rfl, rfl⟩
end
