/-! Taskgraphic: put, the walk -/
theorem zI_ne {G : zG} {n cap : Nat} {f : Nat → Int32} {g : Nat → Option Nat} : (some (zI G n f) : Option va_E) ≠ some (zE G cap g) := fun hz => by
  have w := congrArg (fun q : va_E => match q with | .inl p => (match p.2.2 with | .inl _ => true | .inr _ => false) | .inr _ => false) (Option.some.inj hz)
  exact nomatch w
theorem zRows.ke {G : zG} {σ : zH} {r m : Nat} {R : zP2} {E : List Nat} (h : zRows G σ r m R E) {x cap : Nat} {f : Nat → Option Nat} (h1 : r ≤ x) (h2 : x < r + 7) : σ x ≠ some (zE G cap f) := by
  obtain ⟨kf, vf, ef, a, ⟨b1, b2⟩, ⟨c1, c2⟩, ⟨d1, d2⟩, -⟩ := h
  intro hz
  have : x = r ∨ x = r + 1 ∨ x = r + 1 + 1 ∨ x = r + 3 ∨ x = r + 3 + 1 ∨ x = r + 5 ∨ x = r + 5 + 1 := by omega
  rcases this with e | e | e | e | e | e | e
  · rw [e, a] at hz; exact nomatch hz
  · rw [e, b1] at hz; exact nomatch hz
  · rw [e, b2] at hz; exact zI_ne hz
  · rw [e, c1] at hz; exact nomatch hz
  · rw [e, c2] at hz; exact zI_ne hz
  · rw [e, d1] at hz; exact nomatch hz
  · rw [e, d2] at hz; exact zI_ne hz
section
variable {G : zG} {σ σ' : zH} {b hi lim mem wk r tk sp cs : Nat} {nt : zNT} {slow : Nat → Nat} {L : zNS} {A : List zAE}
set_option maxRecDepth 100000 in
set_option maxHeartbeats 1000000 in
theorem c_put {nx : Nat} {x y z : Int32} (hG : zKap G) (hw : zWf nt) (h : zTG G σ b hi nt lim mem wk slow r L A tk sp cs) : zMX G yX11_put kX11_put [.ref b, .int x, .int y, .int z] σ nx (fun v σ' nx' => (∃ i, i < nt.length ∧ x = nI i ∧ zkd nt i = 0 ∧ (nt.getD i zdf).2.2.2.length < 12 ∧ v = some (.int (nI ((nt.getD i zdf).2.2.2.length + 1))) ∧ zTG G σ' b hi (zput nt i (y, z)) lim mem wk slow r [] A tk sp cs) ∧ zFh σ σ' b hi ∧ nx' = nx) (fun E σ' nx' => σ' = σ ∧ (E = zEI ∧ (x < 0 ∨ nI nt.length ≤ x) ∨ E = zES ∧ ∃ i, i < nt.length ∧ x = nI i ∧ (zkd nt i ≠ 0 ∨ 12 ≤ (nt.getD i zdf).2.2.2.length))) := by
  refine zMX.of (ls := [some (.ref b), some (.int x), some (.int y), some (.int z), none]) (by decide +kernel) ⟨rfl, rfl, rfl⟩ (Nat.le_of_ble_eq_true rfl) (fun _ h => h) ?_
  have hgr := h.gr
  have h14 := hgr.2.2.2.2.2.1
  refine z_aload_n dX11_put_0 rfl ?_
  refine z_iload_n dX11_put_1 rfl ?_
  refine z_callVX dX11_put_2 cv_X11_96 (c_X11_checkNode h.1 hgr) rfl h.1 rfl rfl ⟨(Nat.le_of_ble_eq_true rfl), (Nat.le_of_ble_eq_true rfl)⟩ (Nat.le_of_ble_eq_true rfl) (Nat.le_of_ble_eq_true rfl) (Nat.le_of_ble_eq_true rfl) rfl (fun E σ' nx' _ q => ⟨q.2.1, Or.inl ⟨q.1, q.2.2⟩⟩) (fun v σ1 nx1 hx1 hq1 => ?_)
  obtain ⟨rfl, rfl, rfl, i, hil, rfl⟩ := hq1
  obtain ⟨e, hg, eD, ek, k6, -⟩ := zNfo (lim := lim) hw h14 hil
  obtain ⟨hnode, hhi⟩ := hgr.2.2.2.1 i e hg
  have rw0 := hnode.2
  refine z_aload_n dX11_put_5 rfl ?_
  refine z_getf dX11_put_6 fl_X11_16 h.1 rfl ?_
  refine z_iload_n dX11_put_9 rfl ?_
  refine z_callV dX11_put_10 cv_X11_99 (c_X2_at hgr) rfl hgr.1 rfl rfl ⟨(Nat.le_of_ble_eq_true rfl), (Nat.le_of_ble_eq_true rfl)⟩ (Nat.le_of_ble_eq_true rfl) (Nat.le_of_ble_eq_true rfl) (Nat.le_of_ble_eq_true rfl) (fun v σ2 nx2 hx2 hq2 => ?_)
  obtain ⟨rfl, rfl, rfl⟩ := hq2
  rw [znat_in hg h14]
  refine z_astore dX11_put_13 (by decide) ?_
  refine z_aload dX11_put_15 rfl ?_
  refine z_getf dX11_put_17 fl_X11_103 hnode.1 rfl ?_
  refine z_kind dX11_put_20 (by decide) fs_X11_80 ?_
  by_cases k0 : e.2.1 = 0
  · rw [if_pos k0] at rw0
    refine z_racmp_ne (tgt := 39) dX11_put_23 (by decide) (fun q => absurd ((by rw [k0])) q) (fun _ => ?_)
    refine z_aload dX11_put_26 rfl ?_
    refine z_getf dX11_put_28 fl_X11_106 hnode.1 rfl ?_
    refine z_callV dX11_put_31 cv_X11_110 (c_X9_size rw0) rfl rw0.choose_spec.choose_spec.choose_spec.1 rfl rfl ⟨(Nat.le_of_ble_eq_true rfl), (Nat.le_of_ble_eq_true rfl)⟩ (Nat.le_of_ble_eq_true rfl) (Nat.le_of_ble_eq_true rfl) (Nat.le_of_ble_eq_true rfl) (fun v σ3 nx3 hx3 hq3 => ?_)
    obtain ⟨rfl, rfl, rfl⟩ := hq3
    have l12 : e.2.2.2.length ≤ 12 := by obtain ⟨_, _, _, _, _, _, _, _, _, q, _⟩ := rw0; exact q
    refine z_bipush (v := 12) dX11_put_34 (by decide) ?_
    by_cases c : e.2.2.2.length < 12
    · refine z_icmp_lt (tgt := 49) dX11_put_36 (by decide) (fun _ => ?_) (fun q => absurd ((show nI e.2.2.2.length < nI 12 from nI_lt c (by omega))) q)
      refine z_aload dX11_put_49 rfl ?_
      refine z_getf dX11_put_51 fl_X11_106 hnode.1 rfl ?_
      refine z_iload_n dX11_put_54 rfl ?_
      refine z_iload_n dX11_put_55 rfl ?_
      refine z_callV dX11_put_56 cv_X11_123 (c_X9_add rw0 c) rfl rw0.choose_spec.choose_spec.choose_spec.1 rfl rfl ⟨(Nat.le_of_ble_eq_true rfl), (Nat.le_of_ble_eq_true rfl)⟩ (Nat.le_of_ble_eq_true rfl) (Nat.le_of_ble_eq_true rfl) (Nat.le_of_ble_eq_true rfl) (fun v σ4 nx4 hx4 hq4 => ?_)
      obtain ⟨rfl, row4, k4, rfl⟩ := hq4
      have em : zput nt i (y, z) = nt.set i (e.1, e.2.1, e.2.2.1, e.2.2.2 ++ [(y, z)]) := by unfold zput; rw [eD]
      have hK : zKE G σ3 σ4 := fun w cap f hz => k4 w (by
        rcases Nat.lt_or_ge w (e.1 + 1) with q | q
        · exact Or.inl q
        · rcases Nat.lt_or_ge w (e.1 + 1 + 7) with q2 | q2
          · exact absurd hz (rw0.ke q q2)
          · exact Or.inr q2)
      have n4 : zNode G σ4 e.1 e.2.1 e.2.2.1 (e.2.2.2 ++ [(y, z)]) := ⟨(k4 e.1 (by omega)).trans hnode.1, by rw [if_pos k0]; exact row4⟩
      have gr4 : zGr G σ4 (b + 1) hi (zput nt i (y, z)) (nI lim) := by
        rw [em]
        exact hgr.onNode hg rfl n4 (fun x hx => k4 x (by omega)) hK
      have len : (zput nt i (y, z)).length = nt.length := by rw [em]; exact List.length_set
      have lin : ∀ j, zLin (zput nt i (y, z)) j = zLin nt j := fun j => by
        unfold zLin
        rw [em, List.getD_eq_getElem?_getD, List.getD_eq_getElem?_getD]
        by_cases q : j = i
        · subst q; rw [List.getElem?_set_self hil, hg]; rfl
        · rw [List.getElem?_set_ne (fun w => q w.symm)]
      obtain ⟨h1, ⟨f1, h2⟩, ⟨f2, h3⟩, h4, ⟨t, rf, ⟨u, o, w, q1, q2⟩, h6⟩, h7, h8, ⟨idle, h9⟩, h10⟩ := h
      have ly := hgr.ly
      have old := zold_set (nt := nt) (e' := (e.1, e.2.1, e.2.2.1, e.2.2.2 ++ [(y, z)])) hg rfl rfl
      rw [← em] at old
      have rws : ∀ (ip : Bool) (j : Nat) (w : zNX), nt[j]? = some w → ∀ x, zrr ip w.1 ≤ x → x < zrr ip w.1 + 7 → hi ≤ x ∧ σ4 x = σ3 x := fun ip j w hw x q1 q2 => by
        have := zrr_b ip w.1
        have := ly.1 j w hw
        by_cases q : j = i
        · subst q
          rw [hg] at hw
          cases hw
          exact ⟨by omega, k4 x (by omega)⟩
        · have := ly.ap q hw hg
          exact ⟨by omega, k4 x (by omega)⟩
      have keep : ∀ (ip : Bool) (a : Nat) (fr fr' : Int32) (σ5 : zH), zHo G σ3 (b + 1) a ip lim nt fr → (∀ j, j < 14 → bt fr' j = (bt fr j && !(decide (i ≤ j ∧ j < (zput nt i (y, z)).length) && bt (zLin (zput nt i (y, z)) j) i))) → (∀ x, a < x → x < a + 8 → σ5 x = σ3 x) → (∀ x, hi ≤ x → σ5 x = σ4 x) → σ5 a = some (zHC (b + 1) a ip fr') → zHo G σ5 (b + 1) a ip lim (zput nt i (y, z)) fr' := by
        intro ip a fr fr' σ5 ho hfr hk hu hc
        refine ho.to hc hk (fun j w hw x q1 q2 => ?_) old (fun j w hj q => absurd (zR_lt q) (by omega)) (fun j hj hbj => ?_) (fun j hj o1 hbj => ?_)
        · obtain ⟨p1, p2⟩ := rws ip j w hw x q1 q2
          exact (hu x p1).trans p2
        · rw [hfr j hj] at hbj
          exact ((Bool.and_eq_true _ _).mp hbj).1
        · rw [hfr j hj, len, lin] at hbj
          have hbj := (Bool.and_eq_true _ _).mp hbj
          have hf : bt (zLin nt j) i = false := by
            cases q : bt (zLin nt j) i with
            | false => rfl
            | true =>
              have := (zLin_lt hw h14 j o1).1 i (by omega) q
              rw [q, decide_eq_true ⟨this, o1⟩] at hbj
              exact absurd hbj.2 (by decide)
          exact zcon_put hw h14 hil 14 j hj o1 hf
      have onto : ∀ (ip : Bool) (a : Nat) (fr : Int32), a + 8 ≤ hi → zHB G σ3 (b + 1) a ip nt fr → zHB G σ4 (b + 1) a ip (zput nt i (y, z)) fr := fun ip a fr ha hh => hh.to ((k4 _ (by omega)).trans hh.1) (fun x q1 q2 => k4 x (by omega)) (fun j w hw x q1 q2 => (rws ip j w hw x q1 q2).2) old (fun j w hj q => absurd (zR_lt q) (by omega))
      have ly4 := gr4.ly
      have hb4 : zHB G σ4 (b + 1) (b + 25) false (zput nt i (y, z)) f1 := onto _ _ _ (by omega) h2.2.1.1
      refine z_aload_n dX11_put_59 rfl ?_
      refine z_getf dX11_put_60 fl_X11_25 ((k4 b (by omega)).trans h1) rfl ?_
      refine z_iload_n dX11_put_63 rfl ?_
      refine z_callV dX11_put_64 cv_X11_126 (c_X3_forgetAllOf hb4 gr4 (by omega) (by omega) (by omega)) rfl hb4.1 rfl rfl ⟨(Nat.le_of_ble_eq_true rfl), (Nat.le_of_ble_eq_true rfl)⟩ (Nat.le_of_ble_eq_true rfl) (Nat.le_of_ble_eq_true rfl) (Nat.le_of_ble_eq_true rfl) (fun v σ5 nx5 hx5 hq5 => ?_)
      obtain ⟨rfl, ⟨g1, hb5, hg1⟩, k5, rfl⟩ := hq5
      have hi5 : zHB G σ5 (b + 1) (b + 33) true (zput nt i (y, z)) f2 := (onto _ _ _ (by omega) h3.2.1.1).fr ly4 fun x a => k5 x (by omega)
      have gr5 : zGr G σ5 (b + 1) hi (zput nt i (y, z)) (nI lim) := gr4.fr (fun x a c => k5 x (by omega)) fun x a _ => k5 x (by omega)
      refine z_aload_n dX11_put_67 rfl ?_
      refine z_getf dX11_put_68 fl_X11_29 ((k5 b (by omega)).trans ((k4 b (by omega)).trans h1)) rfl ?_
      refine z_iload_n dX11_put_71 rfl ?_
      refine z_callV dX11_put_72 cv_X11_126 (c_X3_forgetAllOf hi5 gr5 (by omega) (by omega) (by omega)) rfl hi5.1 rfl rfl ⟨(Nat.le_of_ble_eq_true rfl), (Nat.le_of_ble_eq_true rfl)⟩ (Nat.le_of_ble_eq_true rfl) (Nat.le_of_ble_eq_true rfl) (Nat.le_of_ble_eq_true rfl) (fun v σ6 nx6 hx6 hq6 => ?_)
      obtain ⟨rfl, ⟨g2, hb6, hg2⟩, k6', rfl⟩ := hq6
      have ca6 : zCa G σ6 (b + 41) L r := h4.fr fun x a c => (k6' x (by omega)).trans ((k5 x (by omega)).trans (k4 x (by omega)))
      obtain ⟨mm, cc6⟩ := ca6.c
      refine z_aload_n dX11_put_75 rfl ?_
      refine z_getf dX11_put_76 fl_X11_35 ((k6' b (by omega)).trans ((k5 b (by omega)).trans ((k4 b (by omega)).trans h1))) rfl ?_
      refine z_callV dX11_put_79 cv_X11_129 (c_X0_empty ca6) rfl cc6 rfl rfl ⟨(Nat.le_of_ble_eq_true rfl), (Nat.le_of_ble_eq_true rfl)⟩ (Nat.le_of_ble_eq_true rfl) (Nat.le_of_ble_eq_true rfl) (Nat.le_of_ble_eq_true rfl) (fun v σ7 nx7 hx7 hq7 => ?_)
      obtain ⟨rfl, ca7, k7, rfl⟩ := hq7
      have k47 : ∀ x, x ≠ b + 25 → x ≠ b + 33 → x ≠ b + 41 → σ7 x = σ4 x := fun x a1 a2 a3 => (k7 x a3).trans ((k6' x a2).trans (k5 x a1))
      have k : ∀ x, x ≠ b + 25 → x ≠ b + 33 → x ≠ b + 41 → x < e.1 → σ7 x = σ3 x := fun x a1 a2 a3 a4 => (k47 x a1 a2 a3).trans (k4 x (by omega))
      have row7 := row4.fr (σ' := σ7) fun x a c => k47 x (by omega) (by omega) (by omega)
      have gr7 : zGr G σ7 (b + 1) hi (zput nt i (y, z)) (nI lim) := gr4.fr (fun x a c => k47 x (by omega) (by omega) (by omega)) fun x a _ => k47 x (by omega) (by omega) (by omega)
      refine z_aload dX11_put_82 rfl ?_
      refine z_getf dX11_put_84 fl_X11_106 ((k47 e.1 (by omega) (by omega) (by omega)).trans n4.1) rfl ?_
      refine z_callV dX11_put_87 cv_X11_110 (c_X9_size row7) rfl row7.choose_spec.choose_spec.choose_spec.1 rfl rfl ⟨(Nat.le_of_ble_eq_true rfl), (Nat.le_of_ble_eq_true rfl)⟩ (Nat.le_of_ble_eq_true rfl) (Nat.le_of_ble_eq_true rfl) (Nat.le_of_ble_eq_true rfl) (fun v σ8 nx8 hx8 hq8 => ?_)
      obtain ⟨rfl, rfl, rfl⟩ := hq8
      rw [List.length_append, List.length_singleton]
      refine zX ?_
      exact z_iret dX11_put_90 rfl (Nat.le_of_ble_eq_true rfl) (Nat.le_of_ble_eq_true rfl) ⟨⟨i, hil, rfl, by rw [ek]; exact k0, by rw [eD]; exact c, by rw [eD], (k b (by omega) (by omega) (by omega) (by omega)).trans h1, ⟨g1, gr7, keep false (b + 25) f1 g1 σ8 h2.2.1 hg1 (fun x a c => k x (by omega) (by omega) (by omega) (by omega)) (fun x a => k47 x (by omega) (by omega) (by omega)) ((k7 _ (by omega)).trans ((k6' _ (by omega)).trans hb5.1)), by omega, by omega⟩, ⟨g2, gr7, keep true (b + 33) f2 g2 σ8 h3.2.1 hg2 (fun x a c => k x (by omega) (by omega) (by omega) (by omega)) (fun x a => k47 x (by omega) (by omega) (by omega)) ((k7 _ (by omega)).trans hb6.1), by omega, by omega⟩, ca7, ⟨t, rf, ⟨u, o, w, (k _ (by omega) (by omega) (by omega) (by omega)).trans q1, q2⟩, h6.fr fun x a c => k x (by omega) (by omega) (by omega) (by omega)⟩, h7.fr fun x a c => k x (by omega) (by omega) (by omega) (by omega), h8.fr fun x a c => k x (by omega) (by omega) (by omega) (by omega), ⟨idle, h9.fr fun x a c => k x (by omega) (by omega) (by omega) (by omega)⟩, h10⟩, fun x hx => k x (by omega) (by omega) (by omega) (by omega), rfl⟩
    · refine z_icmp_lt (tgt := 49) dX11_put_36 (by decide) (fun q => absurd q ((show ¬ nI e.2.2.2.length < nI 12 from nI_nlt (by omega) (by omega)))) (fun _ => ?_)
      refine z_throw dX11_put_39 dX11_put_42 dX11_put_43 dX11_put_45 dX11_put_48 rfl (by decide +kernel) zth_2 (List.mem_of_getElem? (i := 0) rfl) rfl (Nat.le_of_ble_eq_true rfl) (Nat.le_of_ble_eq_true rfl) (Nat.le_of_ble_eq_true rfl) (Nat.le_of_ble_eq_true rfl) (fun nx9 hn9 => ⟨rfl, Or.inr ⟨rfl, i, hil, rfl, Or.inr (by rw [eD]; omega)⟩⟩)
  · refine z_racmp_ne (tgt := 39) dX11_put_23 (by decide) (fun _ => ?_) (fun q => absurd q ((fun q => k0 (hG _ _ k6 (by omega) q))))
    refine z_throw dX11_put_39 dX11_put_42 dX11_put_43 dX11_put_45 dX11_put_48 rfl (by decide +kernel) zth_2 (List.mem_of_getElem? (i := 0) rfl) rfl (Nat.le_of_ble_eq_true rfl) (Nat.le_of_ble_eq_true rfl) (Nat.le_of_ble_eq_true rfl) (Nat.le_of_ble_eq_true rfl) (fun nx9 hn9 => ⟨rfl, Or.inr ⟨rfl, i, hil, rfl, Or.inl (by rw [ek]; exact k0)⟩⟩)
end
