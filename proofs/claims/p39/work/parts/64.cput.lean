/-! Taskgraphic: put -/
theorem zcon_put {ip : Bool} {lim i : Nat} {q : Int32 × Int32} {nt : zNT} (hw : zWf nt) (hl : nt.length ≤ 14) (hi : i < nt.length) : ∀ (d j : Nat), j < d → j < nt.length → bt (zLin nt j) i = false → zcon ip lim (zput nt i q) j = zcon ip lim nt j
  | 0, j, hd, _, _ => absurd hd (Nat.not_lt_zero _)
  | d + 1, j, hd, hj, hb => by
    obtain ⟨e, hei, eD, ek, k6, ff, ss, pp, lf, ls, -, -, own⟩ := zNfo (lim := lim) hw hl hj
    have ne : j ≠ i := fun w => by rw [w] at own hb; rw [own] at hb; exact nomatch hb
    have he' : (zput nt i q)[j]? = some e := by unfold zput; rw [List.getElem?_set_ne (fun w => ne w.symm)]; exact hei
    have hl' : (zput nt i q).length ≤ 14 := by unfold zput; rw [List.length_set]; exact hl
    rw [zcon_at he' hl' k6 ff ss, zcon_at hei hl k6 ff ss]
    refine zcont_irr (fun w => ?_) fun w => ?_
    · have f1 := (ff w).1
      refine zcon_put hw hl hi d _ (by omega) (by omega) ?_
      cases c : bt (zLin nt (zf1 nt j)) i with
      | false => rfl
      | true => rw [lf w i (by omega) c] at hb; exact nomatch hb
    · have w : e.2.1 = 3 ∨ e.2.1 = 5 := by omega
      have f1 := (ss w).1
      refine zcon_put hw hl hi d _ (by omega) (by omega) ?_
      cases c : bt (zLin nt (zf2 nt j)) i with
      | false => rfl
      | true => rw [ls w i (by omega) c] at hb; exact nomatch hb
