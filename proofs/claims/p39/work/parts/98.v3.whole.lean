/-! the law from its entry -/
set_option maxRecDepth 100000 in
theorem whole_start {p : Program} {e : Env} {s : State} {m : MethodId} {below : List Frame} {meth : Method} {c : Code} (l : Launch) (hflags : l.flags = flags0) {b L : Nat} {xs : Nat → Int32} (hL : L ≤ 260) (hnm : meth.name = "law") (het : c.exceptionTable.toList = []) (C0 : lw_At p s m meth c b L xs) : W p l e room_1 s m #[Value.ref b] below meth c s.heap [] 0 0 (lw_Z below #[Value.ref b] s) (entryFrame m ([Value.ref b] : List Value).toArray 12) := by
  obtain ⟨G, hG, hK, hO, rfl, rfl⟩ := z_begin C0
  have hts := z_hts C0
  obtain ⟨hx, hb, hr, hml, hown, -, hX, hbl, hlocks, -⟩ := C0
  have hst : l.stackTraces = false := by
    unfold Launch.stackTraces
    rw [hflags]
    decide +kernel
  have CC : zC G kL_law p l s m #[Value.ref (G.2.2 8)] meth c (fun q => s.heap.size ≤ q) := ⟨hx, hb, hml, hown, hts, hK, fun q h => h, hlocks, hr, hnm, het, hO, hst⟩
  have hH : zHR G (fun q => s.heap.size ≤ q) (fun _ => none) s.heap.size s.heap := ⟨rfl, [], fun k q h => by simp at h, ⟨fun i j p q h => by simp at h, fun k q h => by simp at h⟩, fun a e => ⟨(fun h => nomatch h), (fun h => absurd h List.not_mem_nil)⟩⟩
  have hl := lv_entry ([.ref (G.2.2 8)]) (n := 12) (Nat.le_of_ble_eq_true rfl)
  rw [lg_entry_eq]
  generalize (lg_sl ([.ref (G.2.2 8)]) ++ List.replicate (12 - (lg_sl ([.ref (G.2.2 8)])).length) Slot.unset).toArray = la at hl ⊢
  have K := law_entry (b := s.heap.size) hL hG p l e s m #[Value.ref (G.2.2 8)] below meth c (fun q => s.heap.size ≤ q) s.heap [] la CC hH va_S.rf hl
  intro T hT X
  obtain ⟨t, a1, b1⟩ := K T hT X
  exact ⟨t, a1, b1 rfl fun q h => h⟩
