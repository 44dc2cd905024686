/-! Taskgraphic: setLimit, mark -/
theorem zcont_ip {lim lim' k : Nat} {D : Nat → Int32} {R : zP2} {P S : List zP2} : zcont true lim k D R P S = zcont true lim' k D R P S := by
  unfold zcont
  simp only [Bool.true_eq_false, false_and, if_false]
theorem zall_ip {lim lim' : Nat} (nt : zNT) : zall true lim nt = zall true lim' nt := by
  have : (fun (L : List (List zP2)) (e : zNX) => L ++ [zcont true lim e.2.1 e.2.2.1 e.2.2.2 (zget L (e.2.2.1 1)) (zget L (e.2.2.1 2))]) = fun (L : List (List zP2)) (e : zNX) => L ++ [zcont true lim' e.2.1 e.2.2.1 e.2.2.2 (zget L (e.2.2.1 1)) (zget L (e.2.2.1 2))] := by
    funext L e
    rw [zcont_ip (lim' := lim')]
  unfold zall
  rw [this]
theorem zcon_ip {lim lim' : Nat} (nt : zNT) (i : Nat) : zcon true lim nt i = zcon true lim' nt i := by unfold zcon; rw [zall_ip]
section
variable {G : zG} {σ σ' : zH} {b hi lim mem wk r tk sp cs : Nat} {nt : zNT} {slow : Nat → Nat} {L : zNS} {A : List zAE}
theorem zGr.onLim {g : Nat} {l l' : Int32} (h : zGr G σ g hi nt l) (hg : σ' g = some (.inr (3, [.ref (g + 1), .ref (g + 2), .int l']))) (hf : ∀ x, x ≠ g → σ' x = σ x) : zGr G σ' g hi nt l' := by
  obtain ⟨h1, h2, h3, h4, h5, h6, h7⟩ := h
  exact ⟨hg, h2.fr2 (hf (g + 1) (by omega)) (fun x a _ => hf x (by omega)), h3.fr fun x a c => hf x (by omega), fun i e he => ⟨(h4 i e he).1.fr fun x a c => hf x (by have := (h4 i e he).2; omega), (h4 i e he).2⟩, h5, h6, h7⟩
/-- a holding over another heap, and over another table whose nodes lie where they lay -/
theorem zHB.to {g h : Nat} {ip : Bool} {nt nt' : zNT} {fr fr' : Int32} (hh : zHB G σ g h ip nt fr) (hc : σ' h = some (zHC g h ip fr')) (hk : ∀ x, h < x → x < h + 8 → σ' x = σ x) (hr : ∀ (i : Nat) (e : zNX), nt[i]? = some e → ∀ x, zrr ip e.1 ≤ x → x < zrr ip e.1 + 7 → σ' x = σ x) (hold : ∀ (i : Nat) (e : zNX), nt[i]? = some e → ∃ e', nt'[i]? = some e' ∧ e'.1 = e.1 ∧ zb e' = zb e) (hnew : ∀ (i : Nat) (e' : zNX), nt.length ≤ i → nt'[i]? = some e' → ∃ R E, zRows G σ' (zrr ip e'.1) (zb e') R E) : zHB G σ' g h ip nt' fr' := by
  obtain ⟨-, ⟨R, E, h2⟩, h3⟩ := hh
  refine ⟨hc, ⟨R, E, h2.fr fun x a c => hk x (by omega) (by omega)⟩, fun i e' he' => ?_⟩
  by_cases q : i < nt.length
  · have he : nt[i]? = some (nt[i]'q) := List.getElem?_eq_getElem _
    obtain ⟨e2, q1, q2, q3⟩ := hold i _ he
    rw [he'] at q1
    cases q1
    obtain ⟨R, E, q4⟩ := h3 i _ he
    rw [q2, q3]
    exact ⟨R, E, q4.fr (hr i _ he)⟩
  · exact hnew i e' (by omega) he'
theorem zHo.to {g h lim' : Nat} {ip : Bool} {nt nt' : zNT} {fr fr' : Int32} (ho : zHo G σ g h ip lim nt fr) (hc : σ' h = some (zHC g h ip fr')) (hk : ∀ x, h < x → x < h + 8 → σ' x = σ x) (hr : ∀ (i : Nat) (e : zNX), nt[i]? = some e → ∀ x, zrr ip e.1 ≤ x → x < zrr ip e.1 + 7 → σ' x = σ x) (hold : ∀ (i : Nat) (e : zNX), nt[i]? = some e → ∃ e', nt'[i]? = some e' ∧ e'.1 = e.1 ∧ zb e' = zb e) (hnew : ∀ (i : Nat) (e' : zNX), nt.length ≤ i → nt'[i]? = some e' → ∃ R E, zRows G σ' (zrr ip e'.1) (zb e') R E)
    (hb : ∀ j, j < 14 → bt fr' j = true → bt fr j = true) (hcon : ∀ j, j < 14 → j < nt.length → bt fr' j = true → zcon ip lim' nt' j = zcon ip lim nt j) : zHo G σ' g h ip lim' nt' fr' := by
  refine ⟨ho.1.to hc hk hr hold hnew, fun j hj q => ?_⟩
  obtain ⟨q1, q2⟩ := ho.2 j hj (hb j hj q)
  have he : nt[j]? = some (nt[j]'q1) := List.getElem?_eq_getElem _
  obtain ⟨e2, a1, a2, a3⟩ := hold j _ he
  refine ⟨zR_lt a1, ?_⟩
  rw [zhr_at a1, zhc_at a1, a2, a3, hcon j hj q1 q]
  rw [zhr_at he, zhc_at he] at q2
  exact q2.fr (hr j _ he)
set_option maxRecDepth 100000 in
theorem c_setLimit {nx : Nat} {x : Int32} (h : zTG G σ b hi nt lim mem wk slow r L A tk sp cs) : zMX G yX11_setLimit kX11_setLimit [.ref b, .int x] σ nx (fun v σ' nx' => v = some (.int (nI lim)) ∧ (∃ p, p ≤ 1000 ∧ x = nI p ∧ zTG G σ' b hi nt p mem wk slow r [] A tk sp cs) ∧ zFh σ σ' b hi ∧ nx' = nx) (fun E σ' nx' => E = zEA ∧ σ' = σ ∧ (x < 0 ∨ 1000 < x)) := by
  refine zMX.of (ls := [some (.ref b), some (.int x), none]) (by decide +kernel) ⟨rfl, rfl, rfl⟩ (Nat.le_of_ble_eq_true rfl) (fun _ h => h) ?_
  obtain ⟨h1, ⟨f1, h2⟩, ⟨f2, h3⟩, h4, ⟨t, rf, ⟨u, o, w, q1, q2⟩, h6⟩, h7, h8, ⟨idle, h9⟩, h10⟩ := h
  have g0 := h2.1.1
  refine z_iload_n dX11_setLimit_0 rfl ?_
  refine z_callSX dX11_setLimit_1 cv_X11_246 c_X11_checkSetting rfl rfl ⟨(Nat.le_of_ble_eq_true rfl), (Nat.le_of_ble_eq_true rfl)⟩ (Nat.le_of_ble_eq_true rfl) (Nat.le_of_ble_eq_true rfl) (Nat.le_of_ble_eq_true rfl) rfl w_751 (fun E σ' nx' _ q => q) (fun v σ1 nx1 hx1 hq1 => ?_)
  obtain ⟨rfl, rfl, rfl, p, hp, rfl⟩ := hq1
  refine z_aload_n dX11_setLimit_4 rfl ?_
  refine z_getf dX11_setLimit_5 fl_X11_16 h1 rfl ?_
  refine z_getf dX11_setLimit_8 fl_X11_249 g0 rfl ?_
  refine z_istore_n dX11_setLimit_11 (by decide) ?_
  refine z_aload_n dX11_setLimit_12 rfl ?_
  refine z_getf dX11_setLimit_13 fl_X11_16 h1 rfl ?_
  refine z_iload_n dX11_setLimit_16 rfl ?_
  refine z_putf dX11_setLimit_17 fp_X11_249 g0 rfl rfl (Nat.le_of_ble_eq_true rfl) ?_
  obtain ⟨σ2, e2⟩ : ∃ z, z = zu σ1 (b + 1) (.inr (3, [.ref (b + 1 + 1), .ref (b + 1 + 2), .int (nI p)])) := ⟨_, rfl⟩
  have e2' : zu σ1 (b + 1) (.inr (3, [Value.ref (b + 1 + 1), .ref (b + 1 + 2), .int (nI lim)].set 2 (.int (nI p)))) = σ2 := e2.symm
  rw [e2']
  have k2 : ∀ x, x ≠ b + 1 → σ2 x = σ1 x := fun x hx => by rw [e2]; exact zu_ne hx
  have gr2 : zGr G σ2 (b + 1) hi nt (nI p) := h2.1.onLim (by rw [e2]; exact zu_eq _ _ _) k2
  have ly := h2.1.ly
  have hb2 : zHB G σ2 (b + 1) (b + 25) false nt f1 := h2.2.1.1.fr ly fun x a => k2 x (by omega)
  refine z_aload_n dX11_setLimit_20 rfl ?_
  refine z_getf dX11_setLimit_21 fl_X11_25 ((k2 b (by omega)).trans h1) rfl ?_
  refine z_callV dX11_setLimit_24 cv_X11_252 (c_X3_forgetAll hb2 ly (by omega)) rfl hb2.1 rfl rfl ⟨(Nat.le_of_ble_eq_true rfl), (Nat.le_of_ble_eq_true rfl)⟩ (Nat.le_of_ble_eq_true rfl) (Nat.le_of_ble_eq_true rfl) (Nat.le_of_ble_eq_true rfl) (fun v σ3 nx3 hx3 hq3 => ?_)
  obtain ⟨rfl, hb3, k3, rfl⟩ := hq3
  have ca3 : zCa G σ3 (b + 41) L r := h4.fr fun x a c => (k3 x (by omega)).trans (k2 x (by omega))
  obtain ⟨mm, cc3⟩ := ca3.c
  refine z_aload_n dX11_setLimit_27 rfl ?_
  refine z_getf dX11_setLimit_28 fl_X11_35 ((k3 b (by omega)).trans ((k2 b (by omega)).trans h1)) rfl ?_
  refine z_callV dX11_setLimit_31 cv_X11_129 (c_X0_empty ca3) rfl cc3 rfl rfl ⟨(Nat.le_of_ble_eq_true rfl), (Nat.le_of_ble_eq_true rfl)⟩ (Nat.le_of_ble_eq_true rfl) (Nat.le_of_ble_eq_true rfl) (Nat.le_of_ble_eq_true rfl) (fun v σ4 nx4 hx4 hq4 => ?_)
  obtain ⟨rfl, ca4, k4, rfl⟩ := hq4
  have k : ∀ x, x ≠ b + 1 → x ≠ b + 25 → x ≠ b + 41 → σ4 x = σ1 x := fun x a1 a2 a3 => (k4 x a3).trans ((k3 x a2).trans (k2 x a1))
  have gr4 : zGr G σ4 (b + 1) hi nt (nI p) := gr2.fr (fun x a c => (k4 x (by omega)).trans (k3 x (by omega))) fun x a _ => (k4 x (by omega)).trans (k3 x (by omega))
  refine z_iload_n dX11_setLimit_34 rfl ?_
  refine zX ?_
  exact z_iret dX11_setLimit_35 rfl (Nat.le_of_ble_eq_true rfl) (Nat.le_of_ble_eq_true rfl) ⟨rfl, ⟨p, hp, rfl, (k b (by omega) (by omega) (by omega)).trans h1, ⟨0, gr4, ⟨hb3.fr ly fun x a => k4 x (by omega), fun i hi hb => absurd hb (by rw [b_0]; decide)⟩, by omega, by omega⟩, ⟨f2, gr4, h3.2.1.to ((k _ (by omega) (by omega) (by omega)).trans h3.2.1.1.1) (fun x a c => k x (by omega) (by omega) (by omega)) (fun i e he x a c => by have := ly.1 i e he; have := zrr_b true e.1; exact k x (by omega) (by omega) (by omega)) (fun i e he => ⟨e, he, rfl, rfl⟩) (fun i e he q => absurd (zR_lt q) (by omega)) (fun j _ q => q) (fun j _ _ _ => zcon_ip nt j), by omega, by omega⟩, ca4, ⟨t, rf, ⟨u, o, w, (k _ (by omega) (by omega) (by omega)).trans q1, q2⟩, h6.fr fun x a c => k x (by omega) (by omega) (by omega)⟩, h7.fr fun x a c => k x (by omega) (by omega) (by omega), h8.fr fun x a c => k x (by omega) (by omega) (by omega), ⟨idle, h9.fr fun x a c => k x (by omega) (by omega) (by omega)⟩, h10⟩, fun x hx => k x (by omega) (by omega) (by omega), rfl⟩
end
