/-! the rows in front of a place -/
def zpx (P : List zP2) (p j : Nat) : zP2 := (P.take p).flatten ++ (P.getD p []).take j
theorem zpx_0 (P : List zP2) : zpx P 0 0 = [] := rfl
theorem zpx_e (P : List zP2) : zpx P P.length 0 = P.flatten := by rw [zpx, List.take_length, List.take_zero, List.append_nil]
theorem zpx_s {P : List zP2} {p j : Nat} (h : j < zsz P p) : zpx P p (j + 1) = zpx P p j ++ [zrw P p j] := by
  have h : j < (P.getD p []).length := h
  have hg : (P.getD p [])[j]? = some ((P.getD p [])[j]'h) := List.getElem?_eq_getElem _
  rw [zpx, zpx, ztake hg, ← List.append_assoc]
  congr 2
  rw [zrw, List.getD_eq_getElem?_getD (l := P.getD p []), hg]
  rfl
theorem zpx_n {P : List zP2} {p : Nat} (h : p < P.length) : zpx P p (zsz P p) = zpx P (p + 1) 0 := by
  have hg : P[p]? = some (P[p]'h) := List.getElem?_eq_getElem _
  have e : P.getD p [] = P[p]'h := by rw [List.getD_eq_getElem?_getD, hg]; rfl
  rw [zpx, zpx, ztake hg, List.take_zero, List.append_nil, List.flatten_append, zsz, e, List.take_length]
  simp
theorem zpx_len {P : List zP2} {p j : Nat} (h : j < zsz P p) : (zpx P p j).length < P.flatten.length := by
  have hp : p < P.length := by
    rcases Nat.lt_or_ge p P.length with c | c
    · exact c
    · rw [zsz, List.getD_eq_getElem?_getD, List.getElem?_eq_none c] at h
      exact absurd h (Nat.not_lt_zero _)
  have h2 := zrw_at hp h
  have h3 := zR_lt h2
  rw [zpx, List.length_append, List.length_take]
  have : j < (P.getD p []).length := h
  omega
theorem zpx_mem {P : List zP2} {p j : Nat} (h : j < zsz P p) : zrw P p j ∈ P.flatten := by
  have hp : p < P.length := by
    rcases Nat.lt_or_ge p P.length with c | c
    · exact c
    · rw [zsz, List.getD_eq_getElem?_getD, List.getElem?_eq_none c] at h
      exact absurd h (Nat.not_lt_zero _)
  exact List.mem_of_getElem? (zrw_at hp h)
theorem zsz_map (f : zP2 → zP2) (hf : f [] = []) (P : List zP2) (p : Nat) : zsz (P.map f) p = (f (P.getD p [])).length := by
  rw [zsz, List.getD_eq_getElem?_getD, List.getD_eq_getElem?_getD, List.getElem?_map]
  cases P[p]? with
  | none => simp [hf]
  | some q => rfl
theorem zgetD_map (f : zP2 → zP2) (hf : f [] = []) (P : List zP2) (p : Nat) : (P.map f).getD p [] = f (P.getD p []) := by
  rw [List.getD_eq_getElem?_getD, List.getD_eq_getElem?_getD, List.getElem?_map]
  cases P[p]? with
  | none => exact hf.symm
  | some q => rfl
/-! grouped: how many rows have a key, and what their values make -/
def zgs (h : Nat) (s : Nat × Int32) (y : Int32) : Nat × Int32 := (s.1 + 1, if h = 0 then s.2 + y else if h = 1 then (if s.1 = 0 ∨ y < s.2 then y else s.2) else if s.1 = 0 ∨ s.2 < y then y else s.2)
def zgf (h : Nat) (x : Int32) (T : zP2) : Nat × Int32 := (zkf x T).foldl (fun s q => zgs h s q.2) (0, 0)
def zgo (h : Nat) (x : Int32) (T : zP2) : Int32 := if h = 3 then nI (zgf h x T).1 else (zgf h x T).2
theorem zgf_y {h : Nat} {x : Int32} {T : zP2} {q : Int32 × Int32} (e : q.1 = x) : zgf h x (T ++ [q]) = zgs h (zgf h x T) q.2 := by
  rw [zgf, zkf_app, zkf_cons_t e, List.foldl_append]
  rfl
theorem zgf_n {h : Nat} {x : Int32} {T : zP2} {q : Int32 × Int32} (e : q.1 ≠ x) : zgf h x (T ++ [q]) = zgf h x T := by
  have : zkf x ([] : zP2) = [] := rfl
  rw [zgf, zkf_app, zkf_cons_f e, this, List.append_nil]
  rfl
theorem zgf_len (h : Nat) (x : Int32) (T : zP2) : (zgf h x T).1 = (zkf x T).length := by
  have key : ∀ (F : zP2) (s : Nat × Int32), (F.foldl (fun s q => zgs h s q.2) s).1 = s.1 + F.length := by
    intro F
    induction F with
    | nil => intro s; rfl
    | cons a F ih =>
      intro s
      rw [List.foldl_cons, ih, List.length_cons]
      show s.1 + 1 + F.length = _
      omega
  rw [zgf, key]
  omega
theorem zkf_le (x : Int32) (T : zP2) : (zkf x T).length ≤ T.length := List.length_filter_le _ _
