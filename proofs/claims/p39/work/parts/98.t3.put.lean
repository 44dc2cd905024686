/-! the law: a row put into a source -/
theorem zpk_cnt {p i : Nat} (hp : 1 ≤ p) (hp4 : p ≤ 4) (hi : i < p) (T : zP2) : (zpk (fun k => k % p == i) 0 T).length = (T.length + p - 1 - i) / p := by
  have key : ∀ n, n ≤ T.length → (zpk (fun k => k % p == i) 0 (T.take n)).length = (n + p - 1 - i) / p := by
    intro n
    induction n with
    | zero =>
      intro _
      rw [List.take_zero]
      show 0 = _
      rw [Nat.div_eq_of_lt (by omega)]
    | succ n ih =>
      intro hn
      have hg : T[n]? = some (T[n]'(by omega)) := List.getElem?_eq_getElem _
      rw [ztake hg, zpk_snoc, List.length_append, ih (by omega), Nat.zero_add, List.length_take, Nat.min_eq_left (by omega)]
      by_cases c : n % p = i
      · rw [if_pos (by simpa using c)]
        show (n + p - 1 - i) / p + 1 = _
        rcases (show p = 1 ∨ p = 2 ∨ p = 3 ∨ p = 4 by omega) with e | e | e | e <;> subst e <;> omega
      · rw [if_neg (by simpa using c)]
        show (n + p - 1 - i) / p + 0 = _
        rcases (show p = 1 ∨ p = 2 ∨ p = 3 ∨ p = 4 by omega) with e | e | e | e <;> subst e <;> omega
  have := key T.length (Nat.le_refl _)
  rwa [List.take_length] at this
theorem zdeal_last {p : Nat} (hp : 1 ≤ p) (hp4 : p ≤ 4) (T : zP2) (q : Int32 × Int32) : zrw (zdeal (T ++ [q]) p) (T.length % p) (T.length / p) = q ∧ T.length / p < zsz (zdeal (T ++ [q]) p) (T.length % p) := by
  have hm := Nat.mod_lt T.length (show p > 0 by omega)
  refine zrw_of ?_
  rw [zdeal, zrng_at hm, zpk_snoc, Nat.zero_add, if_pos (by simp)]
  have hl := zpk_cnt hp hp4 hm T
  have e : (T.length + p - 1 - T.length % p) / p = T.length / p := by
    rcases (show p = 1 ∨ p = 2 ∨ p = 3 ∨ p = 4 by omega) with e | e | e | e <;> subst e <;> omega
  rw [e] at hl
  rw [List.getElem?_append_right (by omega), hl, Nat.sub_self]
  rfl
theorem zRl_same {nt nt' : zNT} {R : Nat → Nat → Int32} (hr : zRl nt R) (h : ∀ (i : Nat) (e' : zNX), nt'[i]? = some e' → ∃ e, nt[i]? = some e ∧ e'.2.1 = e.2.1 ∧ e'.2.2.1 = e.2.2.1) : zRl nt' R := fun i e' he' => by
  obtain ⟨e, he, e1, e2⟩ := h i e' he'
  rw [e1, e2]
  exact hr i e he
section
variable {G : zG} {σ : zH} {b nx : Nat} {R : Nat → Nat → Int32} {nt : zNT} {lim mem wk r tk sp cs : Nat} {slow : Nat → Nat} {L : zNS} {A : List zAE}
set_option maxRecDepth 100000 in
set_option maxHeartbeats 8000000 in
theorem l_isPut {x1 x2 x3 : Nat} (hG : zKap G) (hnx : b + 82 ≤ nx) (S : zVs G σ b (nt, lim, mem, wk, slow, r, L, A, tk, sp, cs) R) (he : zRe (nt, lim, mem, wk, slow, r, L, A, tk, sp, cs) R) (h1 : x1 < 2 ^ 31) : zM G yL_isPut kL_isPut [.ref b, .ref (b + 74 + 0), .ref (b + 81), .int (nI x1), .int (nI x2), .int (nI x3)] σ nx (fun v σ' nx' => v = some (.int 1) ∧ ∃ u', zVs G σ' b u' R ∧ zRe u' R) := by
  refine zM.of (ls := [some (.ref b), some (.ref (b + 74 + 0)), some (.ref (b + 81)), some (.int (nI x1)), some (.int (nI x2)), some (.int (nI x3)), none, none, none, none, none, none]) (by decide +kernel) ⟨rfl, rfl, rfl⟩ (Nat.le_of_ble_eq_true rfl) (fun _ h => h) ?_
  have h14 : nt.length ≤ 14 := S.2.1.2.2.1
  have hw : zWf nt := S.2.1.1
  obtain ⟨hr, hg0, hlim, hg2, hg3, hg4, hsm, hsp, hmz⟩ := id he
  have hmod : x1 % (nt.length + 1) < nt.length + 1 := Nat.mod_lt _ (Nat.succ_pos _)
  have hrem : nI x1 - nI x1 / nI (nt.length + 1) * nI (nt.length + 1) = nI (x1 % (nt.length + 1)) := pk_rem h1 (Nat.succ_pos _) (by omega)
  have hne : ¬ nI (nt.length + 1) = 0 := fun w => absurd ((nI_eq (b := 0) (by omega) (by decide)).mp w) (Nat.succ_ne_zero _)
  obtain ⟨i, hi⟩ : ∃ i, i = x1 % (nt.length + 1) := ⟨_, rfl⟩
  rw [← hi] at hmod hrem
  by_cases c0 : i = nt.length
  · have hzk : zk_put nt (nI i) = 1 := by rw [zk_put, if_pos (znob_no (Or.inr (nI_le (by omega) (by omega))))]
    refine z_iload_n dL_isPut_0 rfl ?_
    refine z_aload_n dL_isPut_1 rfl ?_
    refine z_iconst (v := 0) dL_isPut_2 (by decide) ?_
    refine z_gr dL_isPut_3 S (i := 0) (by decide) hg0 ?_
    refine z_iconst (v := 1) dL_isPut_4 (by decide) ?_
    refine z_iadd dL_isPut_5 ?_
    rw [nI_1]
    refine z_irem dL_isPut_6 hne ?_
    rw [hrem]
    refine z_istore dL_isPut_7 (by decide) ?_
    refine z_iload dL_isPut_9 rfl ?_
    refine z_aload_n dL_isPut_11 rfl ?_
    refine z_iconst (v := 0) dL_isPut_12 (by decide) ?_
    refine z_gr dL_isPut_13 S (i := 0) (by decide) hg0 ?_
    refine z_icmp_eq (tgt := 24) dL_isPut_14 (by decide) (fun _ => ?_) (fun q_9 => absurd (((by rw [c0]))) q_9)
    refine z_aload_n dL_isPut_24 rfl ?_
    refine z_bipush (v := 6) dL_isPut_25 (by decide) ?_
    refine z_iload dL_isPut_27 rfl ?_
    refine z_iload dL_isPut_29 rfl ?_
    refine z_iload dL_isPut_31 rfl ?_
    refine z_callH dL_isPut_33 ch_L_171 (w_makes_put hG hnx S) rfl rfl ⟨(Nat.le_of_ble_eq_true rfl), (Nat.le_of_ble_eq_true rfl)⟩ (Nat.le_of_ble_eq_true rfl) (Nat.le_of_ble_eq_true rfl) (Nat.le_of_ble_eq_true rfl) (fun v σ1 nx1 hx1 hq1 => ?_)
    obtain ⟨rfl, S⟩ := (hq1.bad2 S).1 hzk
    replace hnx := Nat.le_trans hnx hx1
    rw [zxc_I]
    refine z_iload dL_isPut_36 rfl ?_
    refine z_aload_n dL_isPut_38 rfl ?_
    refine z_iconst (v := 0) dL_isPut_39 (by decide) ?_
    refine z_gr dL_isPut_40 S (i := 0) (by decide) hg0 ?_
    refine z_icmp_ne (tgt := 49) dL_isPut_41 (by decide) (fun q_9 => absurd (((by rw [c0]))) q_9) (fun _ => ?_)
    refine z_bipush (v := (-30)) dL_isPut_44 (by decide) ?_
    refine z_goto (tgt := 51) dL_isPut_46 (by decide) ?_
    refine z_icmp_ne (tgt := 58) dL_isPut_51 (by decide) (fun q_9 => absurd ((rfl)) q_9) (fun _ => ?_)
    refine z_iconst (v := 1) dL_isPut_54 (by decide) ?_
    refine z_goto (tgt := 59) dL_isPut_55 (by decide) ?_
    exact z_zret dL_isPut_59 rfl rfl (Nat.le_of_ble_eq_true rfl) (Nat.le_of_ble_eq_true rfl) ⟨rfl, _, S, he⟩
  · have hil : i < nt.length := by omega
    have hgi := zget_of hil
    have nob : ¬ znob nt.length (nI i) = true := znob_in (by omega) hil
    obtain ⟨e, f, s, p0, hg, k6, ke, r0, -, -, -, hp, -, -, -, -, -, -, hcon, -, -, hl1⟩ := zNi (lim := lim) hw h14 hr hil
    have eg : nt.getD i zdf = e := zget_at hg
    by_cases k0 : e.2.1 = 0
    · obtain ⟨p1, p4, ep⟩ := hp (Or.inl k0)
      rw [k0] at r0
      have hcon : zct lim nt i = zdeal e.2.2.2 p0 := by rw [hcon, zcont, if_pos k0, ep]
      have hrows : (zct lim nt i).flatten.length = e.2.2.2.length := by rw [hcon, zdeal_tot (by omega)]
      have hparts : (zct lim nt i).length = p0 := by rw [hcon, zdeal, zrng_len]
      have h12 : e.2.2.2.length ≤ 12 := by
        obtain ⟨_, _, _, -, -, -, -, -, -, -, q, -⟩ := hw i e hg
        exact q k0
      obtain ⟨n, hn⟩ : ∃ n, n = e.2.2.2.length := ⟨_, rfl⟩
      rw [← hn] at hrows h12
      have hpne : ¬ nI p0 = 0 := fun w => absurd ((nI_eq (b := 0) (by omega) (by decide)).mp w) (by omega)
      have hr1 : nI n - nI n / nI p0 * nI p0 = nI (n % p0) := pk_rem (by omega) (by omega) (by omega)
      have hr2 : nI n / nI p0 = nI (n / p0) := pk_div (by omega) (by omega) (by omega)
      by_cases c12 : n = 12
      · have hzk : zk_put nt (nI i) = 2 := by
          rw [zk_put, if_neg nob, nI_clamp (by omega), eg, if_pos (Or.inr (by omega))]
        refine z_iload_n dL_isPut_0 rfl ?_
        refine z_aload_n dL_isPut_1 rfl ?_
        refine z_iconst (v := 0) dL_isPut_2 (by decide) ?_
        refine z_gr dL_isPut_3 S (i := 0) (by decide) hg0 ?_
        refine z_iconst (v := 1) dL_isPut_4 (by decide) ?_
        refine z_iadd dL_isPut_5 ?_
        rw [nI_1]
        refine z_irem dL_isPut_6 hne ?_
        rw [hrem]
        refine z_istore dL_isPut_7 (by decide) ?_
        refine z_iload dL_isPut_9 rfl ?_
        refine z_aload_n dL_isPut_11 rfl ?_
        refine z_iconst (v := 0) dL_isPut_12 (by decide) ?_
        refine z_gr dL_isPut_13 S (i := 0) (by decide) hg0 ?_
        refine z_icmp_eq (tgt := 24) dL_isPut_14 (by decide) (fun q_9 => absurd q_9 (((fun w => c0 ((nI_eq (by omega) (by omega)).mp w))))) (fun _ => ?_)
        refine z_aload_n dL_isPut_17 rfl ?_
        refine z_iload dL_isPut_18 rfl ?_
        refine z_ar dL_isPut_20 S (by decide) (by omega) r0 ?_
        refine z_if_le (tgt := 60) dL_isPut_21 (by decide) (fun _ => ?_) (fun q_9 => absurd (((by decide))) q_9)
        refine z_aload_n dL_isPut_60 rfl ?_
        refine z_iload dL_isPut_61 rfl ?_
        refine z_callV dL_isPut_63 cv0_L_64 (q_rows hG S hil) rfl S.c rfl rfl ⟨(Nat.le_of_ble_eq_true rfl), (Nat.le_of_ble_eq_true rfl)⟩ (Nat.le_of_ble_eq_true rfl) (Nat.le_of_ble_eq_true rfl) (Nat.le_of_ble_eq_true rfl) (fun v σ1 nx1 hx1 hq1 => ?_)
        obtain ⟨rfl, S, rfl⟩ := hq1
        rw [hrows]
        refine z_istore dL_isPut_66 (by decide) ?_
        refine z_iload dL_isPut_68 rfl ?_
        refine z_aload_n dL_isPut_70 rfl ?_
        refine z_iload dL_isPut_71 rfl ?_
        refine z_callV dL_isPut_73 cv0_L_58 (q_partitions hG S hil) rfl S.c rfl rfl ⟨(Nat.le_of_ble_eq_true rfl), (Nat.le_of_ble_eq_true rfl)⟩ (Nat.le_of_ble_eq_true rfl) (Nat.le_of_ble_eq_true rfl) (Nat.le_of_ble_eq_true rfl) (fun v σ1 nx1 hx1 hq1 => ?_)
        obtain ⟨rfl, S, rfl⟩ := hq1
        rw [hparts]
        refine z_irem dL_isPut_76 hpne ?_
        rw [hr1]
        refine z_istore dL_isPut_77 (by decide) ?_
        refine z_aload_n dL_isPut_79 rfl ?_
        refine z_bipush (v := 6) dL_isPut_80 (by decide) ?_
        refine z_iload dL_isPut_82 rfl ?_
        refine z_iload dL_isPut_84 rfl ?_
        refine z_bipush (v := 9) dL_isPut_86 (by decide) ?_
        refine z_irem dL_isPut_88 (by decide) ?_
        refine z_iconst (v := 3) dL_isPut_89 (by decide) ?_
        refine z_isub dL_isPut_90 ?_
        refine z_iload dL_isPut_91 rfl ?_
        refine z_bipush (v := 50) dL_isPut_93 (by decide) ?_
        refine z_irem dL_isPut_95 (by decide) ?_
        refine z_bipush (v := 20) dL_isPut_96 (by decide) ?_
        refine z_isub dL_isPut_98 ?_
        refine z_callH dL_isPut_99 ch_L_171 (w_makes_put hG hnx S) rfl rfl ⟨(Nat.le_of_ble_eq_true rfl), (Nat.le_of_ble_eq_true rfl)⟩ (Nat.le_of_ble_eq_true rfl) (Nat.le_of_ble_eq_true rfl) (Nat.le_of_ble_eq_true rfl) (fun v σ1 nx1 hx1 hq1 => ?_)
        obtain ⟨rfl, S⟩ := (hq1.bad2 S).2 hzk
        replace hnx := Nat.le_trans hnx hx1
        rw [zxc_S]
        refine z_istore dL_isPut_102 (by decide) ?_
        refine z_iload dL_isPut_104 rfl ?_
        refine z_iload dL_isPut_106 rfl ?_
        refine z_bipush (v := 12) dL_isPut_108 (by decide) ?_
        refine z_icmp_ne (tgt := 118) dL_isPut_110 (by decide) (fun q_9 => absurd (((by rw [c12]; rfl))) q_9) (fun _ => ?_)
        refine z_bipush (v := (-10)) dL_isPut_113 (by decide) ?_
        refine z_goto (tgt := 122) dL_isPut_115 (by decide) ?_
        refine z_icmp_ne (tgt := 129) dL_isPut_122 (by decide) (fun q_9 => absurd ((rfl)) q_9) (fun _ => ?_)
        refine z_iconst (v := 1) dL_isPut_125 (by decide) ?_
        refine z_goto (tgt := 130) dL_isPut_126 (by decide) ?_
        refine z_istore dL_isPut_130 (by decide) ?_
        refine z_iconst (v := 0) dL_isPut_132 (by decide) ?_
        refine z_istore dL_isPut_133 (by decide) ?_
        refine z_iload dL_isPut_135 rfl ?_
        refine z_aload_n dL_isPut_137 rfl ?_
        refine z_iconst (v := 0) dL_isPut_138 (by decide) ?_
        refine z_gr dL_isPut_139 S (i := 0) (by decide) hg0 ?_
        refine z_icmp_ge (tgt := 177) dL_isPut_140 (by decide) (fun q_9 => absurd q_9 (((nI_ge (a := 0) (by omega) (by omega))))) (fun _ => ?_)
        refine z_iload dL_isPut_143 rfl ?_
        refine z_if_eq (tgt := 177) dL_isPut_145 (by decide) (fun q_9 => absurd q_9 (((by decide)))) (fun _ => ?_)
        refine z_iload dL_isPut_148 rfl ?_
        refine z_bipush (v := 12) dL_isPut_150 (by decide) ?_
        refine z_icmp_ge (tgt := 177) dL_isPut_152 (by decide) (fun _ => ?_) (fun q_9 => absurd (((by rw [c12]; exact Int32.le_refl _))) q_9)
        refine z_iload dL_isPut_177 rfl ?_
        refine z_if_eq (tgt := 228) dL_isPut_179 (by decide) (fun q_9 => absurd q_9 (((by decide)))) (fun _ => ?_)
        refine z_iload dL_isPut_182 rfl ?_
        refine z_bipush (v := 12) dL_isPut_184 (by decide) ?_
        refine z_icmp_eq (tgt := 224) dL_isPut_186 (by decide) (fun _ => ?_) (fun q_9 => absurd (((by rw [c12]; rfl))) q_9)
        refine z_iconst (v := 1) dL_isPut_224 (by decide) ?_
        refine z_goto (tgt := 229) dL_isPut_225 (by decide) ?_
        exact z_zret dL_isPut_229 rfl rfl (Nat.le_of_ble_eq_true rfl) (Nat.le_of_ble_eq_true rfl) ⟨rfl, _, S, he⟩
      · have hzk : zk_put nt (nI i) = 0 := by
          rw [zk_put, if_neg nob, nI_clamp (by omega), eg, if_neg (fun w => w.elim (fun y => y k0) (fun y => by omega))]
        have hn12 : ¬ nI n = 12 := fun w => c12 ((nI_eq (b := 12) (by omega) (by decide)).mp w)
        refine z_iload_n dL_isPut_0 rfl ?_
        refine z_aload_n dL_isPut_1 rfl ?_
        refine z_iconst (v := 0) dL_isPut_2 (by decide) ?_
        refine z_gr dL_isPut_3 S (i := 0) (by decide) hg0 ?_
        refine z_iconst (v := 1) dL_isPut_4 (by decide) ?_
        refine z_iadd dL_isPut_5 ?_
        rw [nI_1]
        refine z_irem dL_isPut_6 hne ?_
        rw [hrem]
        refine z_istore dL_isPut_7 (by decide) ?_
        refine z_iload dL_isPut_9 rfl ?_
        refine z_aload_n dL_isPut_11 rfl ?_
        refine z_iconst (v := 0) dL_isPut_12 (by decide) ?_
        refine z_gr dL_isPut_13 S (i := 0) (by decide) hg0 ?_
        refine z_icmp_eq (tgt := 24) dL_isPut_14 (by decide) (fun q_9 => absurd q_9 (((fun w => c0 ((nI_eq (by omega) (by omega)).mp w))))) (fun _ => ?_)
        refine z_aload_n dL_isPut_17 rfl ?_
        refine z_iload dL_isPut_18 rfl ?_
        refine z_ar dL_isPut_20 S (by decide) (by omega) r0 ?_
        refine z_if_le (tgt := 60) dL_isPut_21 (by decide) (fun _ => ?_) (fun q_9 => absurd (((by decide))) q_9)
        refine z_aload_n dL_isPut_60 rfl ?_
        refine z_iload dL_isPut_61 rfl ?_
        refine z_callV dL_isPut_63 cv0_L_64 (q_rows hG S hil) rfl S.c rfl rfl ⟨(Nat.le_of_ble_eq_true rfl), (Nat.le_of_ble_eq_true rfl)⟩ (Nat.le_of_ble_eq_true rfl) (Nat.le_of_ble_eq_true rfl) (Nat.le_of_ble_eq_true rfl) (fun v σ1 nx1 hx1 hq1 => ?_)
        obtain ⟨rfl, S, rfl⟩ := hq1
        rw [hrows]
        refine z_istore dL_isPut_66 (by decide) ?_
        refine z_iload dL_isPut_68 rfl ?_
        refine z_aload_n dL_isPut_70 rfl ?_
        refine z_iload dL_isPut_71 rfl ?_
        refine z_callV dL_isPut_73 cv0_L_58 (q_partitions hG S hil) rfl S.c rfl rfl ⟨(Nat.le_of_ble_eq_true rfl), (Nat.le_of_ble_eq_true rfl)⟩ (Nat.le_of_ble_eq_true rfl) (Nat.le_of_ble_eq_true rfl) (Nat.le_of_ble_eq_true rfl) (fun v σ1 nx1 hx1 hq1 => ?_)
        obtain ⟨rfl, S, rfl⟩ := hq1
        rw [hparts]
        refine z_irem dL_isPut_76 hpne ?_
        rw [hr1]
        refine z_istore dL_isPut_77 (by decide) ?_
        refine z_aload_n dL_isPut_79 rfl ?_
        refine z_bipush (v := 6) dL_isPut_80 (by decide) ?_
        refine z_iload dL_isPut_82 rfl ?_
        refine z_iload dL_isPut_84 rfl ?_
        refine z_bipush (v := 9) dL_isPut_86 (by decide) ?_
        refine z_irem dL_isPut_88 (by decide) ?_
        refine z_iconst (v := 3) dL_isPut_89 (by decide) ?_
        refine z_isub dL_isPut_90 ?_
        refine z_iload dL_isPut_91 rfl ?_
        refine z_bipush (v := 50) dL_isPut_93 (by decide) ?_
        refine z_irem dL_isPut_95 (by decide) ?_
        refine z_bipush (v := 20) dL_isPut_96 (by decide) ?_
        refine z_isub dL_isPut_98 ?_
        refine z_callH dL_isPut_99 ch_L_171 (w_makes_put hG hnx S) rfl rfl ⟨(Nat.le_of_ble_eq_true rfl), (Nat.le_of_ble_eq_true rfl)⟩ (Nat.le_of_ble_eq_true rfl) (Nat.le_of_ble_eq_true rfl) (Nat.le_of_ble_eq_true rfl) (fun v σ1 nx1 hx1 hq1 => ?_)
        obtain ⟨u', w, rfl, hP, hT, hF⟩ := hq1.good rfl hzk
        replace hnx := Nat.le_trans hnx hx1
        obtain ⟨y, hy⟩ : ∃ y, y = nI x2 - nI x2 / 9 * 9 - 3 := ⟨_, rfl⟩
        obtain ⟨z, hz⟩ : ∃ z, z = nI x3 - nI x3 / 50 * 50 - 20 := ⟨_, rfl⟩
        have ok' := o_put S.2.1 hzk hP hT
        obtain ⟨rfl, rfl⟩ := hP
        rw [nI_clamp (by omega), ← hy, ← hz] at hT ok'
        have S' : zVs G σ1 b (zput nt i (y, z), lim, mem, wk, slow, r, [], A, tk, sp, cs) R := ⟨hT, ok', S.2.2.fr hF⟩
        rw [nI_clamp (by omega), eg, ← hn]
        clear hT hF S hq1 hzk
        have S := S'
        have hlen' : (zput nt i (y, z)).length = nt.length := by rw [zput, List.length_set]
        have he' : (zput nt i (y, z))[i]? = some (e.1, e.2.1, e.2.2.1, e.2.2.2 ++ [(y, z)]) := by
          rw [zput, eg, List.getElem?_set_self hil]
        have hr' : zRl (zput nt i (y, z)) R := zRl_same hr fun j e9 h9 => by
          rcases zset_get h9 hil with ⟨e1, rfl⟩ | ⟨-, h9⟩
          · exact ⟨e, by rw [e1]; exact hg, by rw [eg], by rw [eg]⟩
          · exact ⟨e9, h9, rfl, rfl⟩
        have hil' : i < (zput nt i (y, z)).length := by omega
        obtain ⟨e9, f9, s9, p9, hg9, -, -, -, -, -, -, hp9, -, -, -, -, -, -, hcon9, -⟩ := zNi (lim := lim) ok'.1 ok'.2.2.1 hr' hil'
        cases Option.some.inj (he'.symm.trans hg9)
        obtain ⟨-, -, ep9⟩ := hp9 (Or.inl k0)
        have hpp : p9 = p0 := ep9.symm.trans ep
        subst hpp
        have hcon9 : zct lim (zput nt i (y, z)) i = zdeal (e.2.2.2 ++ [(y, z)]) p9 := by
          rw [hcon9, zcont, if_pos k0]
          show zdeal _ (ztp false e.2.2.1) = _
          rw [ep]
        obtain ⟨hlast1, hlast2⟩ := zdeal_last p1 p4 e.2.2.2 (y, z)
        rw [← hcon9, ← hn] at hlast1 hlast2
        have hparts9 : (zct lim (zput nt i (y, z)) i).length = p9 := by rw [hcon9, zdeal, zrng_len]
        have hm9 : n % p9 < p9 := Nat.mod_lt _ (by omega)
        have hRe : zRe (zput nt i (y, z), lim, mem, wk, slow, r, [], A, tk, sp, cs) R := ⟨hr', by rw [hlen']; exact hg0, hlim, hg2, hg3, hg4, Nat.zero_le _, hsp, by rw [hlen']; exact hmz⟩
        have loop : ∀ (d j : Nat) (σ2 : zH) (nx2 : Nat), j + d = nt.length → b + 82 ≤ nx2 → zVs G σ2 b (zput nt i (y, z), lim, mem, wk, slow, r, [], A, tk, sp, cs) R →
            zWP G kL_isPut (zFM G kL_isPut.2.2.2.1 (fun v σ' nx' => v = some (.int 1) ∧ ∃ u', zVs G σ' b u' R ∧ zRe u' R)) 135 [some (.ref b), some (.ref (b + 74 + 0)), some (.ref (b + 81)), some (.int (nI x1)), some (.int (nI x2)), some (.int (nI x3)), some (.int (nI i)), some (.int (nI n)), some (.int (nI (n % p9))), some (.int (nI (n + 1))), some (.int 1), some (.int (nI j))] [] σ2 nx2 30 2830 := by
          intro d
          induction d with
          | zero =>
            intro j σ2 nx2 hj hnx S
            refine z_iload dL_isPut_135 rfl ?_
            refine z_aload_n dL_isPut_137 rfl ?_
            refine z_iconst (v := 0) dL_isPut_138 (by decide) ?_
            refine z_gr dL_isPut_139 S (i := 0) (by decide) hg0 ?_
            refine z_icmp_ge (tgt := 177) dL_isPut_140 (by decide) (fun _ => ?_) (fun q_9 => absurd (((nI_le (by omega) (by omega)))) q_9)
            refine z_iload dL_isPut_177 rfl ?_
            refine z_if_eq (tgt := 228) dL_isPut_179 (by decide) (fun q_9 => absurd q_9 (((by decide)))) (fun _ => ?_)
            refine z_iload dL_isPut_182 rfl ?_
            refine z_bipush (v := 12) dL_isPut_184 (by decide) ?_
            refine z_icmp_eq (tgt := 224) dL_isPut_186 (by decide) (fun q_9 => absurd q_9 ((hn12))) (fun _ => ?_)
            refine z_aload_n dL_isPut_189 rfl ?_
            refine z_iload dL_isPut_190 rfl ?_
            refine z_iload dL_isPut_192 rfl ?_
            refine z_iload dL_isPut_194 rfl ?_
            refine z_aload_n dL_isPut_196 rfl ?_
            refine z_iload dL_isPut_197 rfl ?_
            refine z_callV dL_isPut_199 cv0_L_58 (q_partitions hG S hil') rfl S.c rfl rfl ⟨(Nat.le_of_ble_eq_true rfl), (Nat.le_of_ble_eq_true rfl)⟩ (Nat.le_of_ble_eq_true rfl) (Nat.le_of_ble_eq_true rfl) (Nat.le_of_ble_eq_true rfl) (fun v σ1 nx1 hx1 hq1 => ?_)
            obtain ⟨rfl, S, rfl⟩ := hq1
            rw [hparts9]
            refine z_idiv dL_isPut_202 hpne ?_
            rw [hr2]
            refine z_iload dL_isPut_203 rfl ?_
            refine z_bipush (v := 9) dL_isPut_205 (by decide) ?_
            refine z_irem dL_isPut_207 (by decide) ?_
            refine z_iconst (v := 3) dL_isPut_208 (by decide) ?_
            refine z_isub dL_isPut_209 ?_
            refine z_iload dL_isPut_210 rfl ?_
            refine z_bipush (v := 50) dL_isPut_212 (by decide) ?_
            refine z_irem dL_isPut_214 (by decide) ?_
            refine z_bipush (v := 20) dL_isPut_215 (by decide) ?_
            refine z_isub dL_isPut_217 ?_
            rw [← hy, ← hz]
            refine z_callS dL_isPut_218 cv_L_108 (l_isRow hG S hil' (by rw [hparts9]; exact hm9) hlast2 hlast1) rfl rfl ⟨(Nat.le_of_ble_eq_true rfl), (Nat.le_of_ble_eq_true rfl)⟩ (Nat.le_of_ble_eq_true rfl) (Nat.le_of_ble_eq_true rfl) (Nat.le_of_ble_eq_true rfl) (fun v σ1 nx1 hx1 hq1 => ?_)
            obtain ⟨rfl, S, rfl⟩ := hq1
            refine z_if_eq (tgt := 228) dL_isPut_221 (by decide) (fun q_9 => absurd q_9 (((by decide)))) (fun _ => ?_)
            refine z_iconst (v := 1) dL_isPut_224 (by decide) ?_
            refine z_goto (tgt := 229) dL_isPut_225 (by decide) ?_
            exact z_zret dL_isPut_229 rfl rfl (Nat.le_of_ble_eq_true rfl) (Nat.le_of_ble_eq_true rfl) ⟨rfl, _, S, hRe⟩
          | succ d ih =>
            intro j σ2 nx2 hj hnx S
            have nxt := ih (j + 1)
            refine z_iload dL_isPut_135 rfl ?_
            refine z_aload_n dL_isPut_137 rfl ?_
            refine z_iconst (v := 0) dL_isPut_138 (by decide) ?_
            refine z_gr dL_isPut_139 S (i := 0) (by decide) hg0 ?_
            refine z_icmp_ge (tgt := 177) dL_isPut_140 (by decide) (fun q_9 => absurd q_9 ((nI_ge (show j < nt.length by omega) (by omega)))) (fun _ => ?_)
            refine z_iload dL_isPut_143 rfl ?_
            refine z_if_eq (tgt := 177) dL_isPut_145 (by decide) (fun q_9 => absurd q_9 (((by decide)))) (fun _ => ?_)
            refine z_iload dL_isPut_148 rfl ?_
            refine z_bipush (v := 12) dL_isPut_150 (by decide) ?_
            refine z_icmp_ge (tgt := 177) dL_isPut_152 (by decide) (fun q_9 => absurd q_9 (((show ¬ nI 12 ≤ nI n from nI_ge (by omega) (by omega))))) (fun _ => ?_)
            refine z_aload_n dL_isPut_155 rfl ?_
            refine z_iload dL_isPut_156 rfl ?_
            refine z_callV dL_isPut_158 cv0_L_88 (q_isCached hG S (by omega)) rfl S.c rfl rfl ⟨(Nat.le_of_ble_eq_true rfl), (Nat.le_of_ble_eq_true rfl)⟩ (Nat.le_of_ble_eq_true rfl) (Nat.le_of_ble_eq_true rfl) (Nat.le_of_ble_eq_true rfl) (fun v σ1 nx1 hx1 hq1 => ?_)
            obtain ⟨rfl, S, rfl⟩ := hq1
            rw [show zcd [] j = false from rfl, if_neg (by decide)]
            refine z_if_ne (tgt := 168) dL_isPut_161 (by decide) (fun q_9 => absurd ((rfl)) q_9) (fun _ => ?_)
            refine z_iconst (v := 1) dL_isPut_164 (by decide) ?_
            refine z_goto (tgt := 169) dL_isPut_165 (by decide) ?_
            refine z_istore dL_isPut_169 (by decide) ?_
            refine z_inc1 dL_isPut_171 rfl (by decide) ?_
            rw [nI_1]
            refine z_goto (tgt := 135) dL_isPut_174 (by decide) ?_
            exact nxt _ _ (by omega) hnx S
        refine z_widen (ca' := 30) (sl' := 2830) (Nat.le_of_ble_eq_true rfl) (Nat.le_of_ble_eq_true rfl) ?_
        refine z_istore dL_isPut_102 (by decide) ?_
        refine z_iload dL_isPut_104 rfl ?_
        refine z_iload dL_isPut_106 rfl ?_
        refine z_bipush (v := 12) dL_isPut_108 (by decide) ?_
        refine z_icmp_ne (tgt := 118) dL_isPut_110 (by decide) (fun _ => ?_) (fun q_9 => absurd q_9 ((hn12)))
        refine z_iload dL_isPut_118 rfl ?_
        refine z_iconst (v := 1) dL_isPut_120 (by decide) ?_
        refine z_iadd dL_isPut_121 ?_
        rw [nI_1]
        refine z_icmp_ne (tgt := 129) dL_isPut_122 (by decide) (fun q_9 => absurd ((rfl)) q_9) (fun _ => ?_)
        refine z_iconst (v := 1) dL_isPut_125 (by decide) ?_
        refine z_goto (tgt := 130) dL_isPut_126 (by decide) ?_
        refine z_istore dL_isPut_130 (by decide) ?_
        refine z_iconst (v := 0) dL_isPut_132 (by decide) ?_
        refine z_istore dL_isPut_133 (by decide) ?_
        exact loop nt.length 0 _ _ (Nat.zero_add _) hnx S
    · have hzk : zk_put nt (nI i) = 2 := by
        rw [zk_put, if_neg nob, nI_clamp (by omega), eg, if_pos (Or.inl k0)]
      refine z_iload_n dL_isPut_0 rfl ?_
      refine z_aload_n dL_isPut_1 rfl ?_
      refine z_iconst (v := 0) dL_isPut_2 (by decide) ?_
      refine z_gr dL_isPut_3 S (i := 0) (by decide) hg0 ?_
      refine z_iconst (v := 1) dL_isPut_4 (by decide) ?_
      refine z_iadd dL_isPut_5 ?_
      rw [nI_1]
      refine z_irem dL_isPut_6 hne ?_
      rw [hrem]
      refine z_istore dL_isPut_7 (by decide) ?_
      refine z_iload dL_isPut_9 rfl ?_
      refine z_aload_n dL_isPut_11 rfl ?_
      refine z_iconst (v := 0) dL_isPut_12 (by decide) ?_
      refine z_gr dL_isPut_13 S (i := 0) (by decide) hg0 ?_
      refine z_icmp_eq (tgt := 24) dL_isPut_14 (by decide) (fun q_9 => absurd q_9 (((fun w => c0 ((nI_eq (by omega) (by omega)).mp w))))) (fun _ => ?_)
      refine z_aload_n dL_isPut_17 rfl ?_
      refine z_iload dL_isPut_18 rfl ?_
      refine z_ar dL_isPut_20 S (by decide) (by omega) r0 ?_
      refine z_if_le (tgt := 60) dL_isPut_21 (by decide) (fun q_9 => absurd q_9 (((show ¬ nI e.2.1 ≤ nI 0 from nI_ge (by omega) (by omega))))) (fun _ => ?_)
      refine z_aload_n dL_isPut_24 rfl ?_
      refine z_bipush (v := 6) dL_isPut_25 (by decide) ?_
      refine z_iload dL_isPut_27 rfl ?_
      refine z_iload dL_isPut_29 rfl ?_
      refine z_iload dL_isPut_31 rfl ?_
      refine z_callH dL_isPut_33 ch_L_171 (w_makes_put hG hnx S) rfl rfl ⟨(Nat.le_of_ble_eq_true rfl), (Nat.le_of_ble_eq_true rfl)⟩ (Nat.le_of_ble_eq_true rfl) (Nat.le_of_ble_eq_true rfl) (Nat.le_of_ble_eq_true rfl) (fun v σ1 nx1 hx1 hq1 => ?_)
      obtain ⟨rfl, S⟩ := (hq1.bad2 S).2 hzk
      replace hnx := Nat.le_trans hnx hx1
      rw [zxc_S]
      refine z_iload dL_isPut_36 rfl ?_
      refine z_aload_n dL_isPut_38 rfl ?_
      refine z_iconst (v := 0) dL_isPut_39 (by decide) ?_
      refine z_gr dL_isPut_40 S (i := 0) (by decide) hg0 ?_
      refine z_icmp_ne (tgt := 49) dL_isPut_41 (by decide) (fun _ => ?_) (fun q_9 => absurd q_9 (((fun w => c0 ((nI_eq (by omega) (by omega)).mp w)))))
      refine z_bipush (v := (-10)) dL_isPut_49 (by decide) ?_
      refine z_icmp_ne (tgt := 58) dL_isPut_51 (by decide) (fun q_9 => absurd ((rfl)) q_9) (fun _ => ?_)
      refine z_iconst (v := 1) dL_isPut_54 (by decide) ?_
      refine z_goto (tgt := 59) dL_isPut_55 (by decide) ?_
      exact z_zret dL_isPut_59 rfl rfl (Nat.le_of_ble_eq_true rfl) (Nat.le_of_ble_eq_true rfl) ⟨rfl, _, S, he⟩
end
