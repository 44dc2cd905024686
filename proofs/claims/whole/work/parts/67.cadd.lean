/-! Taskgraphic: a node more -/
/-- the lineage of the next node -/
def zLW (nt : zNT) (b : Nat) (x y : Int32) : Int32 := zwith ((znat nt (b + 1) x).2.2.1 12 ||| (znat nt (b + 1) y).2.2.1 12) nt.length
theorem zcon_snoc {ip : Bool} {lim j : Nat} {nt : zNT} {e : zNX} (hj : j < nt.length) : zcon ip lim (nt ++ [e]) j = zcon ip lim nt j := by
  have l := (zall_take ip lim nt nt.length (Nat.le_refl _)).1
  rw [List.take_length] at l
  unfold zcon
  rw [zall_snoc, List.getD_eq_getElem?_getD, List.getD_eq_getElem?_getD, List.getElem?_append_left (by omega)]
section
variable {G : zG} {σ σ' : zH} {b hi lim mem wk r tk sp cs : Nat} {nt nt' : zNT} {slow : Nat → Nat} {L : zNS} {A : List zAE}
theorem zTG.onGr (h : zTG G σ b hi nt lim mem wk slow r L A tk sp cs) (hgr : zGr G σ' (b + 1) hi nt' (nI lim)) (hf : ∀ x, x < b + 272 → x ≠ b + 1 + 1 → σ' x = σ x) (hlen : nt.length ≤ nt'.length) (hcon : ∀ (ip : Bool) (j : Nat), j < nt.length → zcon ip lim nt' j = zcon ip lim nt j) : zTG G σ' b hi nt' lim mem wk slow r L A tk sp cs := by
  obtain ⟨h1, ⟨f1, h2⟩, ⟨f2, h3⟩, h4, ⟨t, rf, ⟨u, o, w, q1, q2⟩, h6⟩, h7, h8, ⟨idle, h9⟩, h10⟩ := h
  have hold : ∀ (a : Nat) (ip : Bool) (f : Int32), b + 11 ≤ a → a + 114 ≤ b + 272 → zHo G σ (b + 1) a ip lim nt f → zHo G σ' (b + 1) a ip lim nt' f := fun a ip f ha1 ha ho => ⟨ho.1.fr fun x q1 q2 => hf x (by omega) (by omega), fun j hj hb => ⟨by have := (ho.2 j hj hb).1; omega, by rw [hcon ip j (ho.2 j hj hb).1]; exact (ho.2 j hj hb).2.fr fun x q1 q2 => hf x (by unfold zhr at *; omega) (by unfold zhr at *; omega)⟩⟩
  exact ⟨(hf b (by omega) (by omega)).trans h1, ⟨f1, hgr, hold _ _ _ (by omega) (by omega) h2.2.1, by omega, by omega⟩, ⟨f2, hgr, hold _ _ _ (by omega) (by omega) h3.2.1, by omega, by omega⟩, h4.fr fun x a c => hf x (by omega) (by omega), ⟨t, rf, ⟨u, o, w, (hf _ (by omega) (by omega)).trans q1, q2⟩, h6.fr fun x a c => hf x (by omega) (by omega)⟩, h7.fr fun x a c => hf x (by omega) (by omega), h8.fr fun x a c => hf x (by omega) (by omega), ⟨idle, h9.fr fun x a c => hf x (by omega) (by omega)⟩, h10⟩
/-- every node lies below what is free -/
theorem zGr.below {g nx : Nat} {l : Int32} (h : zGr G σ g hi nt l) (hd : ∀ a e, σ a = some e → a < nx) : ∀ (i : Nat) (e : zNX), nt[i]? = some e → e.1 + 8 ≤ nx := fun i e he => by
  obtain ⟨_, _, _, _, -, -, ⟨-, q⟩, -⟩ := (h.2.2.2.1 i e he).1.2
  have := hd _ _ q
  omega
end
