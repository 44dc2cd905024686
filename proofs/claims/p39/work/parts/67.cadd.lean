/-! Taskgraphic: a node more -/
/-- the lineage of the next node -/
def zLW (nt : zNT) (b : Nat) (x y : Int32) : Int32 := zwith ((znat nt (b + 1) x).2.2.1 12 ||| (znat nt (b + 1) y).2.2.1 12) nt.length
theorem zcon_snoc {ip : Bool} {lim j : Nat} {nt : zNT} {e : zNX} (hj : j < nt.length) : zcon ip lim (nt ++ [e]) j = zcon ip lim nt j := by
  have l := (zall_take ip lim nt nt.length (Nat.le_refl _)).1
  rw [List.take_length] at l
  unfold zcon
  rw [zall_snoc, List.getD_eq_getElem?_getD, List.getD_eq_getElem?_getD, List.getElem?_append_left (by omega)]
section
variable {G : zG} {σ σ' : zH} {b hi lim mem wk r tk sp cs : Nat} {nt nt' : zNT} {slow : Nat → Nat} {L : zNS} {A : List zAE}
/-- every node lies below what is free -/
theorem zTG.below {nx : Nat} (h : zTG G σ b hi nt lim mem wk slow r L A tk sp cs) (hd : ∀ a e, σ a = some e → a < nx) : ∀ (i : Nat) (e : zNX), nt[i]? = some e → e.1 + 22 ≤ nx := fun i e he => by
  obtain ⟨_, _, ⟨f2, h3⟩, _⟩ := h
  obtain ⟨R, E, _, _, _, _, -, -, ⟨-, q⟩, -⟩ := h3.2.1.1.2.2 i e he
  have q := hd _ _ q
  have e15 : zrr true e.1 = e.1 + 15 := rfl
  omega
/-- a new node, its bound given as an int -/
theorem c_X7_initI {n k bd : Nat} {x1 x2 x3 x4 : Int32} (hG : zKap G) (hk : k < 6) (h3 : x3 = nI bd) (hbd : bd ≤ 300) (h : σ n = some (.inr (7, [.null, .int 0, .int 0, .int 0, .int 0, .null, .null, .null, .int 0, .int 0, .int 0, .int 0, .int 0, .int 0, .int 0]))) : zM G yX7_init kX7_init [.ref n, .ref (G.2.2 k), .int x1, .int x2, .int x3, .int x4] σ (n + 1) (fun v σ' nx' => v = none ∧ zNode G σ' n k (zD0 x1 x2 x3 x4) [] ∧ zRows G σ' (n + 8) bd [] [] ∧ zRows G σ' (n + 15) bd [] [] ∧ zFr σ σ' n 22 ∧ nx' = n + 22) := by
  subst h3
  exact c_X7_init hG hk hbd h
/-- a node more in the table -/
theorem zTG.onNew {σ4 σ5 : zH} {nx n k bd : Nat} {D : Nat → Int32} (h : zTG G σ b hi nt lim mem wk slow r L A tk sp cs) (hin : hi ≤ n) (low : ∀ (i : Nat) (e : zNX), nt[i]? = some e → e.1 + 22 ≤ n) (k4 : ∀ y, y < n → σ4 y = σ y) (gr5 : zGr G σ5 (b + 1) hi (nt ++ [(n, k, D, [])]) (nI lim)) (hD : D 3 = nI bd) (hbd : bd ≤ 300) (r4 : zRows G σ4 (n + 8) bd [] []) (i4 : zRows G σ4 (n + 15) bd [] [])
    (k5 : ∀ x, x ≠ b + 1 + 1 → x ≠ n → x < nx → ((∀ cap f, σ4 x ≠ some (zE G cap f)) ∨ x < hi) → σ5 x = σ4 x) (hnx : n + 22 ≤ nx) : zTG G σ5 b hi (nt ++ [(n, k, D, [])]) lim mem wk slow r L A tk sp cs := by
  obtain ⟨h1, ⟨f1, h2⟩, ⟨f2, h3⟩, h4, ⟨t, rf, ⟨u, o, w, q1, q2⟩, h6⟩, h7, h8, ⟨idle, h9⟩, h10⟩ := h
  have ly := h2.1.ly
  have hb : zb (n, k, D, []) = bd := by show (D 3).toNatClampNeg = bd; rw [hD, nI_clamp (by omega)]
  have lo : ∀ x, x < hi → x ≠ b + 1 + 1 → σ5 x = σ x := fun x a c => (k5 x c (by omega) (by omega) (Or.inr a)).trans (k4 x (by omega))
  have hold : ∀ (i : Nat) (e : zNX), nt[i]? = some e → ∃ e', (nt ++ [(n, k, D, [])])[i]? = some e' ∧ e'.1 = e.1 ∧ zb e' = zb e := fun i e he => ⟨e, by rw [List.getElem?_append_left (zR_lt he)]; exact he, rfl, rfl⟩
  have hnew : ∀ (ip : Bool) (i : Nat) (e' : zNX), nt.length ≤ i → (nt ++ [(n, k, D, [])])[i]? = some e' → ∃ R E, zRows G σ5 (zrr ip e'.1) (zb e') R E := fun ip i e' hl he => by
    have hl2 := zR_lt he
    rw [List.length_append, List.length_singleton] at hl2
    have ei : i = nt.length := by omega
    subst ei
    rw [List.getElem?_append_right (Nat.le_refl _), Nat.sub_self] at he
    cases he
    rw [hb]
    have go : ∀ r, n + 8 ≤ r → r + 7 ≤ n + 22 → zRows G σ4 r bd [] [] → ∃ R E, zRows G σ5 r bd R E := fun r r1 r2 hr => ⟨[], [], hr.fr fun x a c => k5 x (by omega) (by omega) (by omega) (Or.inl fun cap f => hr.ke a c)⟩
    cases ip with
    | true => exact go (n + 15) (by omega) (by omega) i4
    | false => exact go (n + 8) (by omega) (by omega) r4
  have up : ∀ (a : Nat) (ip : Bool) (f : Int32), b + 25 ≤ a → a + 8 ≤ b + 74 → zHo G σ (b + 1) a ip lim nt f → zHo G σ5 (b + 1) a ip lim (nt ++ [(n, k, D, [])]) f := fun a ip f a1 a2 ho => ho.to ((lo _ (by omega) (by omega)).trans ho.1.1) (fun x q1 q2 => lo x (by omega) (by omega)) (fun i e he x q1 q2 => by
      obtain ⟨R, E, hr⟩ := ho.1.2.2 i e he
      have := zrr_b ip e.1
      have := low i e he
      have := ly.1 i e he
      have e4 := k4 x (by omega)
      exact (k5 x (by omega) (by omega) (by omega) (Or.inl fun cap f => by rw [e4]; exact hr.ke q1 q2)).trans e4) hold (hnew ip) (fun j _ q => q) (fun j _ hj _ => zcon_snoc hj)
  exact ⟨(lo b (by omega) (by omega)).trans h1, ⟨f1, gr5, up _ _ _ (by omega) (by omega) h2.2.1, by omega, by omega⟩, ⟨f2, gr5, up _ _ _ (by omega) (by omega) h3.2.1, by omega, by omega⟩, h4.fr fun x a c => lo x (by omega) (by omega), ⟨t, rf, ⟨u, o, w, (lo _ (by omega) (by omega)).trans q1, q2⟩, h6.fr fun x a c => lo x (by omega) (by omega)⟩, h7.fr fun x a c => lo x (by omega) (by omega), h8.fr fun x a c => lo x (by omega) (by omega), ⟨idle, h9.fr fun x a c => lo x (by omega) (by omega)⟩, h10⟩
/-- a node's bound -/
theorem zWf.bd (hw : zWf nt) {i : Nat} {e : zNX} (he : nt[i]? = some e) : e.2.2.1 3 = nI (zb e) ∧ zb e ≤ 300 := by
  obtain ⟨f, s, p, -, ⟨q1, q2, -⟩, -⟩ := hw i e he
  exact ⟨q1, q2⟩
end
