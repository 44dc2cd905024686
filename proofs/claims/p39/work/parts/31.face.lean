/-! Taskgraphic: how its parts change -/
section
variable {G : zG} {σ σ' : zH} {b hi lim mem wk r tk sp cs : Nat} {nt : zNT} {slow : Nat → Nat} {L : zNS} {A : List zAE}
theorem zTG.onCrew {wk' : Nat} {slow' : Nat → Nat} (h : zTG G σ b hi nt lim mem wk slow r L A tk sp cs) (hf : ∀ x, (x < b + 69 ∨ b + 74 ≤ x) → σ' x = σ x) (hc : ∃ idle, zCr G σ' (b + 49 + 20) (b + 49 + 7) slow' idle wk') : zTG G σ' b hi nt lim mem wk' slow' r L A tk sp cs := by
  obtain ⟨h1, ⟨f1, h2⟩, ⟨f2, h3⟩, h4, ⟨t, rf, ⟨u, o, w, q1, q2⟩, h6⟩, h7, h8, -, h10⟩ := h
  exact ⟨(hf b (by omega)).trans h1, ⟨f1, h2.fr fun x q => hf x (by omega)⟩, ⟨f2, h3.fr fun x q => hf x (by omega)⟩, h4.fr fun x a c => hf x (by omega), ⟨t, rf, ⟨u, o, w, (hf _ (by omega)).trans q1, q2⟩, h6.fr fun x a c => hf x (by omega)⟩, h7.fr fun x a c => hf x (by omega), h8.fr fun x a c => hf x (by omega), hc, h10⟩
theorem zTG.onMem {mem' : Nat} (h : zTG G σ b hi nt lim mem wk slow r L A tk sp cs) (hf : ∀ x, x ≠ b → σ' x = σ x) (hc : σ' b = some (zTC b mem')) : zTG G σ' b hi nt lim mem' wk slow r L A tk sp cs := by
  obtain ⟨h1, ⟨f1, h2⟩, ⟨f2, h3⟩, h4, ⟨t, rf, ⟨u, o, w, q1, q2⟩, h6⟩, h7, h8, ⟨idle, h9⟩, h10⟩ := h
  exact ⟨hc, ⟨f1, h2.fr fun x q => hf x (by omega)⟩, ⟨f2, h3.fr fun x q => hf x (by omega)⟩, h4.fr fun x a c => hf x (by omega), ⟨t, rf, ⟨u, o, w, (hf _ (by omega)).trans q1, q2⟩, h6.fr fun x a c => hf x (by omega)⟩, h7.fr fun x a c => hf x (by omega), h8.fr fun x a c => hf x (by omega), ⟨idle, h9.fr fun x a c => hf x (by omega)⟩, h10⟩
theorem zTG.onCache {r' : Nat} {L' : zNS} (h : zTG G σ b hi nt lim mem wk slow r L A tk sp cs) (hf : ∀ x, (x < b + 41 ∨ b + 46 ≤ x) → σ' x = σ x) (hc : zCa G σ' (b + 41) L' r') : zTG G σ' b hi nt lim mem wk slow r' L' A tk sp cs := by
  obtain ⟨h1, ⟨f1, h2⟩, ⟨f2, h3⟩, h4, ⟨t, rf, ⟨u, o, w, q1, q2⟩, h6⟩, h7, h8, ⟨idle, h9⟩, h10⟩ := h
  exact ⟨(hf b (by omega)).trans h1, ⟨f1, h2.fr fun x q => hf x (by omega)⟩, ⟨f2, h3.fr fun x q => hf x (by omega)⟩, hc, ⟨t, rf, ⟨u, o, w, (hf _ (by omega)).trans q1, q2⟩, h6.fr fun x a c => hf x (by omega)⟩, h7.fr fun x a c => hf x (by omega), h8.fr fun x a c => hf x (by omega), ⟨idle, h9.fr fun x a c => hf x (by omega)⟩, h10⟩
theorem zTG.onSpread (h : zTG G σ b hi nt lim mem wk slow r L A tk sp cs) (hf : zHf nt false (b + 25) σ σ') (hc : ∃ fr, zGH G σ' (b + 1) (b + 25) hi false lim nt fr) : zTG G σ' b hi nt lim mem wk slow r L A tk sp cs := by
  obtain ⟨h1, ⟨f1, h2⟩, ⟨f2, h3⟩, h4, ⟨t, rf, ⟨u, o, w, q1, q2⟩, h6⟩, h7, h8, ⟨idle, h9⟩, h10⟩ := h
  have ly := h2.1.ly
  have lo : ∀ x, x < hi → (x < b + 25 ∨ b + 33 ≤ x) → σ' x = σ x := fun x q1 q2 => hf x (by omega) (zOut_lo ly q1)
  obtain ⟨fr, c1⟩ := hc
  exact ⟨(lo b (by omega) (by omega)).trans h1, ⟨fr, c1⟩, ⟨f2, c1.1, h3.2.1.op (ip := false) ly (by omega) (by omega) (by omega) hf, h3.2.2⟩, h4.fr fun x a c => lo x (by omega) (by omega), ⟨t, rf, ⟨u, o, w, (lo _ (by omega) (by omega)).trans q1, q2⟩, h6.fr fun x a c => lo x (by omega) (by omega)⟩, h7.fr fun x a c => lo x (by omega) (by omega), h8.fr fun x a c => lo x (by omega) (by omega), ⟨idle, h9.fr fun x a c => lo x (by omega) (by omega)⟩, h10⟩
theorem zTG.onInPl (h : zTG G σ b hi nt lim mem wk slow r L A tk sp cs) (hf : zHf nt true (b + 33) σ σ') (hc : ∃ fr, zGH G σ' (b + 1) (b + 33) hi true lim nt fr) : zTG G σ' b hi nt lim mem wk slow r L A tk sp cs := by
  obtain ⟨h1, ⟨f1, h2⟩, ⟨f2, h3⟩, h4, ⟨t, rf, ⟨u, o, w, q1, q2⟩, h6⟩, h7, h8, ⟨idle, h9⟩, h10⟩ := h
  have ly := h2.1.ly
  have lo : ∀ x, x < hi → (x < b + 33 ∨ b + 41 ≤ x) → σ' x = σ x := fun x q1 q2 => hf x (by omega) (zOut_lo ly q1)
  obtain ⟨fr, c1⟩ := hc
  exact ⟨(lo b (by omega) (by omega)).trans h1, ⟨f1, c1.1, h2.2.1.op (ip := true) ly (by omega) (by omega) (by omega) hf, h2.2.2⟩, ⟨fr, c1⟩, h4.fr fun x a c => lo x (by omega) (by omega), ⟨t, rf, ⟨u, o, w, (lo _ (by omega) (by omega)).trans q1, q2⟩, h6.fr fun x a c => lo x (by omega) (by omega)⟩, h7.fr fun x a c => lo x (by omega) (by omega), h8.fr fun x a c => lo x (by omega) (by omega), ⟨idle, h9.fr fun x a c => lo x (by omega) (by omega)⟩, h10⟩
theorem zHf.fh {ip : Bool} {a : Nat} (hf : zHf nt ip a σ σ') (ly : zLy nt hi) (h1 : b ≤ a) (h2 : a + 8 ≤ b + 74) (h3 : b + 74 ≤ hi) : zFh σ σ' b hi := fun x q => hf x (by omega) (zOut_lo ly (by omega))
theorem zTG.onPlan (h : zTG G σ b hi nt lim mem wk slow r L A tk sp cs) (hf : ∀ x, (x < b + 46 ∨ b + 49 ≤ x) → σ' x = σ x) (hc : ∃ t rf, zPl G σ' (b + 46) (b + 1) (b + 25) (b + 41) t ∧ zInts G σ' (b + 46 + 1) 112 rf) : zTG G σ' b hi nt lim mem wk slow r L A tk sp cs := by
  obtain ⟨h1, ⟨f1, h2⟩, ⟨f2, h3⟩, h4, -, h7, h8, ⟨idle, h9⟩, h10⟩ := h
  exact ⟨(hf b (by omega)).trans h1, ⟨f1, h2.fr fun x q => hf x (by omega)⟩, ⟨f2, h3.fr fun x q => hf x (by omega)⟩, h4.fr fun x a c => hf x (by omega), hc, h7.fr fun x a c => hf x (by omega), h8.fr fun x a c => hf x (by omega), ⟨idle, h9.fr fun x a c => hf x (by omega)⟩, h10⟩
theorem zTG.onRun {A' : List zAE} {tk' sp' cs' : Nat} (h : zTG G σ b hi nt lim mem wk slow r L A tk sp cs) (hf : ∀ x, (x < b + 49 ∨ b + 74 ≤ x) → σ' x = σ x) (hs : zSt0 G σ' (b + 49)) (hl : zLg G σ' (b + 49 + 7) A' tk' sp' cs') (hc : ∃ idle, zCr G σ' (b + 49 + 20) (b + 49 + 7) slow idle wk) : zTG G σ' b hi nt lim mem wk slow r L A' tk' sp' cs' := by
  obtain ⟨h1, ⟨f1, h2⟩, ⟨f2, h3⟩, h4, ⟨t, rf, ⟨u, o, w, q1, q2⟩, h6⟩, h7, h8, ⟨idle, h9⟩, h10⟩ := h
  exact ⟨(hf b (by omega)).trans h1, ⟨f1, h2.fr fun x q => hf x (by omega)⟩, ⟨f2, h3.fr fun x q => hf x (by omega)⟩, h4.fr fun x a c => hf x (by omega), ⟨t, rf, ⟨u, o, w, (hf _ (by omega)).trans q1, q2⟩, h6.fr fun x a c => hf x (by omega)⟩, hs, hl, hc, h10⟩
theorem zTG.gr (h : zTG G σ b hi nt lim mem wk slow r L A tk sp cs) : zGr G σ (b + 1) hi nt (nI lim) := by obtain ⟨_, ⟨f1, h2⟩, _⟩ := h; exact h2.1
theorem zTG.lg (h : zTG G σ b hi nt lim mem wk slow r L A tk sp cs) : zLg G σ (b + 49 + 7) A tk sp cs := by obtain ⟨_, _, _, _, _, _, h8, _⟩ := h; exact h8
theorem zTG.ca (h : zTG G σ b hi nt lim mem wk slow r L A tk sp cs) : zCa G σ (b + 41) L r := by obtain ⟨_, _, _, h4, _⟩ := h; exact h4
theorem zTG.cr (h : zTG G σ b hi nt lim mem wk slow r L A tk sp cs) : ∃ idle, zCr G σ (b + 49 + 20) (b + 49 + 7) slow idle wk := by obtain ⟨_, _, _, _, _, _, _, h8, _⟩ := h; exact h8
-- getters
set_option maxRecDepth 100000 in
theorem c_nodes {nx : Nat} (h : zTG G σ b hi nt lim mem wk slow r L A tk sp cs) : zM G yX11_nodes kX11_nodes [.ref b] σ nx (fun v σ' nx' => v = some (.int (nI nt.length)) ∧ σ' = σ ∧ nx' = nx) := by
  refine zM.of (ls := [some (.ref b)]) (by decide +kernel) ⟨rfl, rfl, rfl⟩ (Nat.le_of_ble_eq_true rfl) (fun _ h => h) ?_
  refine z_aload_n dX11_nodes_0 rfl ?_
  refine z_getf dX11_nodes_1 fl_X11_16 h.1 rfl ?_
  refine z_callV dX11_nodes_4 cv_X11_186 (c_X2_size h.gr) rfl h.gr.1 rfl rfl ⟨(Nat.le_of_ble_eq_true rfl), (Nat.le_of_ble_eq_true rfl)⟩ (Nat.le_of_ble_eq_true rfl) (Nat.le_of_ble_eq_true rfl) (Nat.le_of_ble_eq_true rfl) (fun v σ1 nx1 hx1 hq1 => ?_)
  obtain ⟨rfl, rfl, rfl⟩ := hq1
  exact z_iret dX11_nodes_7 rfl (Nat.le_of_ble_eq_true rfl) (Nat.le_of_ble_eq_true rfl) ⟨rfl, rfl, rfl⟩
set_option maxRecDepth 100000 in
theorem c_ticks {nx : Nat} (h : zTG G σ b hi nt lim mem wk slow r L A tk sp cs) : zM G yX11_ticks kX11_ticks [.ref b] σ nx (fun v σ' nx' => v = some (.int (nI tk)) ∧ σ' = σ ∧ nx' = nx) := by
  refine zM.of (ls := [some (.ref b)]) (by decide +kernel) ⟨rfl, rfl, rfl⟩ (Nat.le_of_ble_eq_true rfl) (fun _ h => h) ?_
  refine z_aload_n dX11_ticks_0 rfl ?_
  refine z_getf dX11_ticks_1 fl_X11_58 h.1 rfl ?_
  refine z_getf dX11_ticks_4 fl_X11_295 h.lg.c rfl ?_
  exact z_iret dX11_ticks_7 rfl (Nat.le_of_ble_eq_true rfl) (Nat.le_of_ble_eq_true rfl) ⟨rfl, rfl, rfl⟩
set_option maxRecDepth 100000 in
theorem c_spilled {nx : Nat} (h : zTG G σ b hi nt lim mem wk slow r L A tk sp cs) : zM G yX11_spilled kX11_spilled [.ref b] σ nx (fun v σ' nx' => v = some (.int (nI sp)) ∧ σ' = σ ∧ nx' = nx) := by
  refine zM.of (ls := [some (.ref b)]) (by decide +kernel) ⟨rfl, rfl, rfl⟩ (Nat.le_of_ble_eq_true rfl) (fun _ h => h) ?_
  refine z_aload_n dX11_spilled_0 rfl ?_
  refine z_getf dX11_spilled_1 fl_X11_58 h.1 rfl ?_
  refine z_getf dX11_spilled_4 fl_X11_301 h.lg.c rfl ?_
  exact z_iret dX11_spilled_7 rfl (Nat.le_of_ble_eq_true rfl) (Nat.le_of_ble_eq_true rfl) ⟨rfl, rfl, rfl⟩
set_option maxRecDepth 100000 in
theorem c_attempts {nx : Nat} (h : zTG G σ b hi nt lim mem wk slow r L A tk sp cs) : zM G yX11_attempts kX11_attempts [.ref b] σ nx (fun v σ' nx' => v = some (.int (nI A.length)) ∧ σ' = σ ∧ nx' = nx) := by
  refine zM.of (ls := [some (.ref b)]) (by decide +kernel) ⟨rfl, rfl, rfl⟩ (Nat.le_of_ble_eq_true rfl) (fun _ h => h) ?_
  refine z_aload_n dX11_attempts_0 rfl ?_
  refine z_getf dX11_attempts_1 fl_X11_58 h.1 rfl ?_
  refine z_getf dX11_attempts_4 fl_X11_304 h.lg.c rfl ?_
  exact z_iret dX11_attempts_7 rfl (Nat.le_of_ble_eq_true rfl) (Nat.le_of_ble_eq_true rfl) ⟨rfl, rfl, rfl⟩
set_option maxRecDepth 100000 in
theorem c_nodeOf {nx : Nat} {x : Int32} (h : zTG G σ b hi nt lim mem wk slow r L A tk sp cs) : zMX G yX11_nodeOf kX11_nodeOf [.ref b, .int x] σ nx (fun v σ' nx' => (∃ (i : Nat) (a : zAE), A[i]? = some a ∧ x = nI i ∧ v = some (.int (zAc a 0))) ∧ σ' = σ ∧ nx' = nx) (fun E σ' nx' => E = zEI ∧ σ' = σ ∧ (x < 0 ∨ nI A.length ≤ x)) := by
  refine zMX.of (ls := [some (.ref b), some (.int x)]) (by decide +kernel) ⟨rfl, rfl, rfl⟩ (Nat.le_of_ble_eq_true rfl) (fun _ h => h) ?_
  obtain ⟨f, f1, f2, f3, f4⟩ := h.lg
  refine z_aload_n dX11_nodeOf_0 rfl ?_
  refine z_iload_n dX11_nodeOf_1 rfl ?_
  refine z_callVX dX11_nodeOf_2 cv_X11_307 (c_X11_checkAttempt h.1 h.lg) rfl h.1 rfl rfl ⟨(Nat.le_of_ble_eq_true rfl), (Nat.le_of_ble_eq_true rfl)⟩ (Nat.le_of_ble_eq_true rfl) (Nat.le_of_ble_eq_true rfl) (Nat.le_of_ble_eq_true rfl) rfl (fun E σ' nx' _ q => q) (fun v σ1 nx1 hx1 hq1 => ?_)
  obtain ⟨rfl, rfl, rfl, i, hi, rfl⟩ := hq1
  have hg : A[i]? = some (A[i]'hi) := List.getElem?_eq_getElem _
  have a5 : zInts G σ1 (b + 49 + 7 + 1 + 2 * 0) 224 (f 0) := f2 0 (by decide)
  refine z_aload_n dX11_nodeOf_5 rfl ?_
  refine z_getf dX11_nodeOf_6 fl_X11_58 h.1 rfl ?_
  refine z_getf dX11_nodeOf_9 fl_X11_310 f1 rfl ?_
  refine z_iload_n dX11_nodeOf_12 rfl ?_
  refine z_callV dX11_nodeOf_13 cv_X11_239 (c_X4_at a5 (by omega)) rfl a5.1 rfl rfl ⟨(Nat.le_of_ble_eq_true rfl), (Nat.le_of_ble_eq_true rfl)⟩ (Nat.le_of_ble_eq_true rfl) (Nat.le_of_ble_eq_true rfl) (Nat.le_of_ble_eq_true rfl) (fun v σ2 nx2 hx2 hq2 => ?_)
  obtain ⟨rfl, rfl, rfl⟩ := hq2
  rw [zrd_nI (by omega) (by omega), f3 i _ hg 0 (by decide)]
  refine zX ?_
  exact z_iret dX11_nodeOf_16 rfl (Nat.le_of_ble_eq_true rfl) (Nat.le_of_ble_eq_true rfl) ⟨⟨i, _, hg, rfl, rfl⟩, rfl, rfl⟩
set_option maxRecDepth 100000 in
theorem c_partitionOf {nx : Nat} {x : Int32} (h : zTG G σ b hi nt lim mem wk slow r L A tk sp cs) : zMX G yX11_partitionOf kX11_partitionOf [.ref b, .int x] σ nx (fun v σ' nx' => (∃ (i : Nat) (a : zAE), A[i]? = some a ∧ x = nI i ∧ v = some (.int (zAc a 1))) ∧ σ' = σ ∧ nx' = nx) (fun E σ' nx' => E = zEI ∧ σ' = σ ∧ (x < 0 ∨ nI A.length ≤ x)) := by
  refine zMX.of (ls := [some (.ref b), some (.int x)]) (by decide +kernel) ⟨rfl, rfl, rfl⟩ (Nat.le_of_ble_eq_true rfl) (fun _ h => h) ?_
  obtain ⟨f, f1, f2, f3, f4⟩ := h.lg
  refine z_aload_n dX11_partitionOf_0 rfl ?_
  refine z_iload_n dX11_partitionOf_1 rfl ?_
  refine z_callVX dX11_partitionOf_2 cv_X11_307 (c_X11_checkAttempt h.1 h.lg) rfl h.1 rfl rfl ⟨(Nat.le_of_ble_eq_true rfl), (Nat.le_of_ble_eq_true rfl)⟩ (Nat.le_of_ble_eq_true rfl) (Nat.le_of_ble_eq_true rfl) (Nat.le_of_ble_eq_true rfl) rfl (fun E σ' nx' _ q => q) (fun v σ1 nx1 hx1 hq1 => ?_)
  obtain ⟨rfl, rfl, rfl, i, hi, rfl⟩ := hq1
  have hg : A[i]? = some (A[i]'hi) := List.getElem?_eq_getElem _
  have a5 : zInts G σ1 (b + 49 + 7 + 1 + 2 * 1) 224 (f 1) := f2 1 (by decide)
  refine z_aload_n dX11_partitionOf_5 rfl ?_
  refine z_getf dX11_partitionOf_6 fl_X11_58 h.1 rfl ?_
  refine z_getf dX11_partitionOf_9 fl_X11_312 f1 rfl ?_
  refine z_iload_n dX11_partitionOf_12 rfl ?_
  refine z_callV dX11_partitionOf_13 cv_X11_239 (c_X4_at a5 (by omega)) rfl a5.1 rfl rfl ⟨(Nat.le_of_ble_eq_true rfl), (Nat.le_of_ble_eq_true rfl)⟩ (Nat.le_of_ble_eq_true rfl) (Nat.le_of_ble_eq_true rfl) (Nat.le_of_ble_eq_true rfl) (fun v σ2 nx2 hx2 hq2 => ?_)
  obtain ⟨rfl, rfl, rfl⟩ := hq2
  rw [zrd_nI (by omega) (by omega), f3 i _ hg 1 (by decide)]
  refine zX ?_
  exact z_iret dX11_partitionOf_16 rfl (Nat.le_of_ble_eq_true rfl) (Nat.le_of_ble_eq_true rfl) ⟨⟨i, _, hg, rfl, rfl⟩, rfl, rfl⟩
set_option maxRecDepth 100000 in
theorem c_workerOf {nx : Nat} {x : Int32} (h : zTG G σ b hi nt lim mem wk slow r L A tk sp cs) : zMX G yX11_workerOf kX11_workerOf [.ref b, .int x] σ nx (fun v σ' nx' => (∃ (i : Nat) (a : zAE), A[i]? = some a ∧ x = nI i ∧ v = some (.int (zAc a 2))) ∧ σ' = σ ∧ nx' = nx) (fun E σ' nx' => E = zEI ∧ σ' = σ ∧ (x < 0 ∨ nI A.length ≤ x)) := by
  refine zMX.of (ls := [some (.ref b), some (.int x)]) (by decide +kernel) ⟨rfl, rfl, rfl⟩ (Nat.le_of_ble_eq_true rfl) (fun _ h => h) ?_
  obtain ⟨f, f1, f2, f3, f4⟩ := h.lg
  refine z_aload_n dX11_workerOf_0 rfl ?_
  refine z_iload_n dX11_workerOf_1 rfl ?_
  refine z_callVX dX11_workerOf_2 cv_X11_307 (c_X11_checkAttempt h.1 h.lg) rfl h.1 rfl rfl ⟨(Nat.le_of_ble_eq_true rfl), (Nat.le_of_ble_eq_true rfl)⟩ (Nat.le_of_ble_eq_true rfl) (Nat.le_of_ble_eq_true rfl) (Nat.le_of_ble_eq_true rfl) rfl (fun E σ' nx' _ q => q) (fun v σ1 nx1 hx1 hq1 => ?_)
  obtain ⟨rfl, rfl, rfl, i, hi, rfl⟩ := hq1
  have hg : A[i]? = some (A[i]'hi) := List.getElem?_eq_getElem _
  have a5 : zInts G σ1 (b + 49 + 7 + 1 + 2 * 2) 224 (f 2) := f2 2 (by decide)
  refine z_aload_n dX11_workerOf_5 rfl ?_
  refine z_getf dX11_workerOf_6 fl_X11_58 h.1 rfl ?_
  refine z_getf dX11_workerOf_9 fl_X11_314 f1 rfl ?_
  refine z_iload_n dX11_workerOf_12 rfl ?_
  refine z_callV dX11_workerOf_13 cv_X11_239 (c_X4_at a5 (by omega)) rfl a5.1 rfl rfl ⟨(Nat.le_of_ble_eq_true rfl), (Nat.le_of_ble_eq_true rfl)⟩ (Nat.le_of_ble_eq_true rfl) (Nat.le_of_ble_eq_true rfl) (Nat.le_of_ble_eq_true rfl) (fun v σ2 nx2 hx2 hq2 => ?_)
  obtain ⟨rfl, rfl, rfl⟩ := hq2
  rw [zrd_nI (by omega) (by omega), f3 i _ hg 2 (by decide)]
  refine zX ?_
  exact z_iret dX11_workerOf_16 rfl (Nat.le_of_ble_eq_true rfl) (Nat.le_of_ble_eq_true rfl) ⟨⟨i, _, hg, rfl, rfl⟩, rfl, rfl⟩
set_option maxRecDepth 100000 in
theorem c_startOf {nx : Nat} {x : Int32} (h : zTG G σ b hi nt lim mem wk slow r L A tk sp cs) : zMX G yX11_startOf kX11_startOf [.ref b, .int x] σ nx (fun v σ' nx' => (∃ (i : Nat) (a : zAE), A[i]? = some a ∧ x = nI i ∧ v = some (.int (zAc a 3))) ∧ σ' = σ ∧ nx' = nx) (fun E σ' nx' => E = zEI ∧ σ' = σ ∧ (x < 0 ∨ nI A.length ≤ x)) := by
  refine zMX.of (ls := [some (.ref b), some (.int x)]) (by decide +kernel) ⟨rfl, rfl, rfl⟩ (Nat.le_of_ble_eq_true rfl) (fun _ h => h) ?_
  obtain ⟨f, f1, f2, f3, f4⟩ := h.lg
  refine z_aload_n dX11_startOf_0 rfl ?_
  refine z_iload_n dX11_startOf_1 rfl ?_
  refine z_callVX dX11_startOf_2 cv_X11_307 (c_X11_checkAttempt h.1 h.lg) rfl h.1 rfl rfl ⟨(Nat.le_of_ble_eq_true rfl), (Nat.le_of_ble_eq_true rfl)⟩ (Nat.le_of_ble_eq_true rfl) (Nat.le_of_ble_eq_true rfl) (Nat.le_of_ble_eq_true rfl) rfl (fun E σ' nx' _ q => q) (fun v σ1 nx1 hx1 hq1 => ?_)
  obtain ⟨rfl, rfl, rfl, i, hi, rfl⟩ := hq1
  have hg : A[i]? = some (A[i]'hi) := List.getElem?_eq_getElem _
  have a5 : zInts G σ1 (b + 49 + 7 + 1 + 2 * 3) 224 (f 3) := f2 3 (by decide)
  refine z_aload_n dX11_startOf_5 rfl ?_
  refine z_getf dX11_startOf_6 fl_X11_58 h.1 rfl ?_
  refine z_getf dX11_startOf_9 fl_X11_317 f1 rfl ?_
  refine z_iload_n dX11_startOf_12 rfl ?_
  refine z_callV dX11_startOf_13 cv_X11_239 (c_X4_at a5 (by omega)) rfl a5.1 rfl rfl ⟨(Nat.le_of_ble_eq_true rfl), (Nat.le_of_ble_eq_true rfl)⟩ (Nat.le_of_ble_eq_true rfl) (Nat.le_of_ble_eq_true rfl) (Nat.le_of_ble_eq_true rfl) (fun v σ2 nx2 hx2 hq2 => ?_)
  obtain ⟨rfl, rfl, rfl⟩ := hq2
  rw [zrd_nI (by omega) (by omega), f3 i _ hg 3 (by decide)]
  refine zX ?_
  exact z_iret dX11_startOf_16 rfl (Nat.le_of_ble_eq_true rfl) (Nat.le_of_ble_eq_true rfl) ⟨⟨i, _, hg, rfl, rfl⟩, rfl, rfl⟩
set_option maxRecDepth 100000 in
theorem c_endOf {nx : Nat} {x : Int32} (h : zTG G σ b hi nt lim mem wk slow r L A tk sp cs) : zMX G yX11_endOf kX11_endOf [.ref b, .int x] σ nx (fun v σ' nx' => (∃ (i : Nat) (a : zAE), A[i]? = some a ∧ x = nI i ∧ v = some (.int (zAc a 4))) ∧ σ' = σ ∧ nx' = nx) (fun E σ' nx' => E = zEI ∧ σ' = σ ∧ (x < 0 ∨ nI A.length ≤ x)) := by
  refine zMX.of (ls := [some (.ref b), some (.int x)]) (by decide +kernel) ⟨rfl, rfl, rfl⟩ (Nat.le_of_ble_eq_true rfl) (fun _ h => h) ?_
  obtain ⟨f, f1, f2, f3, f4⟩ := h.lg
  refine z_aload_n dX11_endOf_0 rfl ?_
  refine z_iload_n dX11_endOf_1 rfl ?_
  refine z_callVX dX11_endOf_2 cv_X11_307 (c_X11_checkAttempt h.1 h.lg) rfl h.1 rfl rfl ⟨(Nat.le_of_ble_eq_true rfl), (Nat.le_of_ble_eq_true rfl)⟩ (Nat.le_of_ble_eq_true rfl) (Nat.le_of_ble_eq_true rfl) (Nat.le_of_ble_eq_true rfl) rfl (fun E σ' nx' _ q => q) (fun v σ1 nx1 hx1 hq1 => ?_)
  obtain ⟨rfl, rfl, rfl, i, hi, rfl⟩ := hq1
  have hg : A[i]? = some (A[i]'hi) := List.getElem?_eq_getElem _
  have a5 : zInts G σ1 (b + 49 + 7 + 1 + 2 * 4) 224 (f 4) := f2 4 (by decide)
  refine z_aload_n dX11_endOf_5 rfl ?_
  refine z_getf dX11_endOf_6 fl_X11_58 h.1 rfl ?_
  refine z_getf dX11_endOf_9 fl_X11_320 f1 rfl ?_
  refine z_iload_n dX11_endOf_12 rfl ?_
  refine z_callV dX11_endOf_13 cv_X11_239 (c_X4_at a5 (by omega)) rfl a5.1 rfl rfl ⟨(Nat.le_of_ble_eq_true rfl), (Nat.le_of_ble_eq_true rfl)⟩ (Nat.le_of_ble_eq_true rfl) (Nat.le_of_ble_eq_true rfl) (Nat.le_of_ble_eq_true rfl) (fun v σ2 nx2 hx2 hq2 => ?_)
  obtain ⟨rfl, rfl, rfl⟩ := hq2
  rw [zrd_nI (by omega) (by omega), f3 i _ hg 4 (by decide)]
  refine zX ?_
  exact z_iret dX11_endOf_16 rfl (Nat.le_of_ble_eq_true rfl) (Nat.le_of_ble_eq_true rfl) ⟨⟨i, _, hg, rfl, rfl⟩, rfl, rfl⟩
set_option maxRecDepth 100000 in
theorem c_isCopy {nx : Nat} {x : Int32} (h : zTG G σ b hi nt lim mem wk slow r L A tk sp cs) : zMX G yX11_isCopy kX11_isCopy [.ref b, .int x] σ nx (fun v σ' nx' => (∃ (i : Nat) (a : zAE), A[i]? = some a ∧ x = nI i ∧ v = some (.int (zAc a 5))) ∧ σ' = σ ∧ nx' = nx) (fun E σ' nx' => E = zEI ∧ σ' = σ ∧ (x < 0 ∨ nI A.length ≤ x)) := by
  refine zMX.of (ls := [some (.ref b), some (.int x)]) (by decide +kernel) ⟨rfl, rfl, rfl⟩ (Nat.le_of_ble_eq_true rfl) (fun _ h => h) ?_
  obtain ⟨f, f1, f2, f3, f4⟩ := h.lg
  refine z_aload_n dX11_isCopy_0 rfl ?_
  refine z_iload_n dX11_isCopy_1 rfl ?_
  refine z_callVX dX11_isCopy_2 cv_X11_307 (c_X11_checkAttempt h.1 h.lg) rfl h.1 rfl rfl ⟨(Nat.le_of_ble_eq_true rfl), (Nat.le_of_ble_eq_true rfl)⟩ (Nat.le_of_ble_eq_true rfl) (Nat.le_of_ble_eq_true rfl) (Nat.le_of_ble_eq_true rfl) rfl (fun E σ' nx' _ q => q) (fun v σ1 nx1 hx1 hq1 => ?_)
  obtain ⟨rfl, rfl, rfl, i, hi, rfl⟩ := hq1
  have hg : A[i]? = some (A[i]'hi) := List.getElem?_eq_getElem _
  generalize A[i]'hi = a at hg
  have a5 : zInts G σ1 (b + 49 + 7 + 1 + 2 * 5) 224 (f 5) := f2 5 (by decide)
  refine z_aload_n dX11_isCopy_5 rfl ?_
  refine z_getf dX11_isCopy_6 fl_X11_58 h.1 rfl ?_
  refine z_getf dX11_isCopy_9 fl_X11_323 f1 rfl ?_
  refine z_iload_n dX11_isCopy_12 rfl ?_
  refine z_callV dX11_isCopy_13 cv_X11_239 (c_X4_at a5 (by omega)) rfl a5.1 rfl rfl ⟨(Nat.le_of_ble_eq_true rfl), (Nat.le_of_ble_eq_true rfl)⟩ (Nat.le_of_ble_eq_true rfl) (Nat.le_of_ble_eq_true rfl) (Nat.le_of_ble_eq_true rfl) (fun v σ2 nx2 hx2 hq2 => ?_)
  obtain ⟨rfl, rfl, rfl⟩ := hq2
  rw [zrd_nI (by omega) (by omega), f3 i _ hg 5 (by decide)]
  have e5 : zAc a 5 = if a.2.2.2.2.2 then 1 else 0 := rfl
  cases hc : a.2.2.2.2.2 with
  | true =>
    rw [hc, if_pos rfl] at e5
    rw [e5]
    refine z_if_eq (tgt := 23) dX11_isCopy_16 (by decide) (fun q => absurd q ((by decide))) (fun _ => ?_)
    refine z_iconst (v := 1) dX11_isCopy_19 (by decide) ?_
    refine z_goto (tgt := 24) dX11_isCopy_20 (by decide) ?_
    refine zX ?_
    exact z_zret dX11_isCopy_24 rfl rfl (Nat.le_of_ble_eq_true rfl) (Nat.le_of_ble_eq_true rfl) ⟨⟨i, _, hg, rfl, by rw [e5]⟩, rfl, rfl⟩
  | false =>
    rw [hc, if_neg (by decide)] at e5
    rw [e5]
    refine z_if_eq (tgt := 23) dX11_isCopy_16 (by decide) (fun _ => ?_) (fun q => absurd (rfl) q)
    refine z_iconst (v := 0) dX11_isCopy_23 (by decide) ?_
    refine zX ?_
    exact z_zret dX11_isCopy_24 rfl rfl (Nat.le_of_ble_eq_true rfl) (Nat.le_of_ble_eq_true rfl) ⟨⟨i, _, hg, rfl, by rw [e5]⟩, rfl, rfl⟩
set_option maxRecDepth 100000 in
theorem c_isCached {nx : Nat} {x : Int32} (h : zTG G σ b hi nt lim mem wk slow r L A tk sp cs) : zMX G yX11_isCached kX11_isCached [.ref b, .int x] σ nx (fun v σ' nx' => (∃ i, i < nt.length ∧ x = nI i ∧ v = some (.int (if zcd L i then 1 else 0))) ∧ σ' = σ ∧ nx' = nx) (fun E σ' nx' => E = zEI ∧ σ' = σ ∧ (x < 0 ∨ nI nt.length ≤ x)) := by
  refine zMX.of (ls := [some (.ref b), some (.int x)]) (by decide +kernel) ⟨rfl, rfl, rfl⟩ (Nat.le_of_ble_eq_true rfl) (fun _ h => h) ?_
  have h14 := h.gr.2.2.2.2.2.1
  obtain ⟨mm, hcc⟩ := h.ca.c
  refine z_aload_n dX11_isCached_0 rfl ?_
  refine z_iload_n dX11_isCached_1 rfl ?_
  refine z_callVX dX11_isCached_2 cv_X11_96 (c_X11_checkNode h.1 h.gr) rfl h.1 rfl rfl ⟨(Nat.le_of_ble_eq_true rfl), (Nat.le_of_ble_eq_true rfl)⟩ (Nat.le_of_ble_eq_true rfl) (Nat.le_of_ble_eq_true rfl) (Nat.le_of_ble_eq_true rfl) rfl (fun E σ' nx' _ q => q) (fun v σ1 nx1 hx1 hq1 => ?_)
  obtain ⟨rfl, rfl, rfl, i, hi, rfl⟩ := hq1
  refine z_aload_n dX11_isCached_5 rfl ?_
  refine z_getf dX11_isCached_6 fl_X11_35 h.1 rfl ?_
  refine z_iload_n dX11_isCached_9 rfl ?_
  refine z_callV dX11_isCached_10 cv_X11_265 (c_X0_holds h.ca (by omega)) rfl hcc rfl rfl ⟨(Nat.le_of_ble_eq_true rfl), (Nat.le_of_ble_eq_true rfl)⟩ (Nat.le_of_ble_eq_true rfl) (Nat.le_of_ble_eq_true rfl) (Nat.le_of_ble_eq_true rfl) (fun v σ2 nx2 hx2 hq2 => ?_)
  obtain ⟨⟨bb, rfl, hb⟩, rfl, rfl⟩ := hq2
  rw [← zcd_iff] at hb
  have e : zcd L i = bb := by cases bb with | true => exact hb.mp rfl | false => cases hz : zcd L i with | true => exact nomatch hb.mpr hz | false => rfl
  refine zX ?_
  refine z_zret dX11_isCached_13 rfl (by cases bb <;> rfl) (Nat.le_of_ble_eq_true rfl) (Nat.le_of_ble_eq_true rfl) ⟨⟨i, hi, rfl, by rw [e]⟩, rfl, rfl⟩
-- settings
set_option maxRecDepth 100000 in
theorem c_setWorkers {nx : Nat} {x : Int32} (h : zTG G σ b hi nt lim mem wk slow r L A tk sp cs) : zMX G yX11_setWorkers kX11_setWorkers [.ref b, .int x] σ nx (fun v σ' nx' => v = some (.int (nI wk)) ∧ (∃ p, 1 ≤ p ∧ p ≤ 4 ∧ x = nI p ∧ zTG G σ' b hi nt lim mem p slow r L A tk sp cs) ∧ zFh σ σ' b hi ∧ nx' = nx) (fun E σ' nx' => E = zEA ∧ σ' = σ ∧ (x < 1 ∨ 4 < x)) := by
  refine zMX.of (ls := [some (.ref b), some (.int x), none]) (by decide +kernel) ⟨rfl, rfl, rfl⟩ (Nat.le_of_ble_eq_true rfl) (fun _ h => h) ?_
  have hhi := h.2.2.2.2.2.2.2.2
  obtain ⟨idle, sf, jf, c1, c2, c3, c4⟩ := h.cr
  refine z_iload_n dX11_setWorkers_0 rfl ?_
  refine z_iconst (v := 1) dX11_setWorkers_1 (by decide) ?_
  by_cases q1 : x < 1
  · refine z_icmp_lt (tgt := 10) dX11_setWorkers_2 (by decide) (fun _ => ?_) (fun q => absurd (q1) q)
    refine z_throw dX11_setWorkers_10 dX11_setWorkers_13 dX11_setWorkers_14 dX11_setWorkers_16 dX11_setWorkers_19 rfl (by decide +kernel) zth_1 (List.mem_of_getElem? (i := 6) rfl) rfl (Nat.le_of_ble_eq_true rfl) (Nat.le_of_ble_eq_true rfl) (Nat.le_of_ble_eq_true rfl) (Nat.le_of_ble_eq_true rfl) (fun nx9 hn9 => ⟨rfl, rfl, Or.inl q1⟩)
  · refine z_icmp_lt (tgt := 10) dX11_setWorkers_2 (by decide) (fun q => absurd q (q1)) (fun _ => ?_)
    refine z_iload_n dX11_setWorkers_5 rfl ?_
    refine z_iconst (v := 4) dX11_setWorkers_6 (by decide) ?_
    by_cases q2 : x ≤ 4
    · obtain ⟨p, p1, p2, rfl⟩ := nI_four (n := 4) (by decide) q1 q2
      refine z_icmp_le (tgt := 20) dX11_setWorkers_7 (by decide) (fun _ => ?_) (fun q => absurd (q2) q)
      refine z_aload_n dX11_setWorkers_20 rfl ?_
      refine z_getf dX11_setWorkers_21 fl_X11_67 h.1 rfl ?_
      refine z_getf dX11_setWorkers_24 fl_X11_226 c1 rfl ?_
      refine z_istore_n dX11_setWorkers_27 (by decide) ?_
      refine z_aload_n dX11_setWorkers_28 rfl ?_
      refine z_getf dX11_setWorkers_29 fl_X11_67 h.1 rfl ?_
      refine z_iload_n dX11_setWorkers_32 rfl ?_
      refine z_putf dX11_setWorkers_33 fp_X11_226 c1 rfl rfl (Nat.le_of_ble_eq_true rfl) ?_
      refine z_iload_n dX11_setWorkers_36 rfl ?_
      refine zX ?_
      exact z_iret dX11_setWorkers_37 rfl (Nat.le_of_ble_eq_true rfl) (Nat.le_of_ble_eq_true rfl) ⟨rfl, ⟨p, p1, p2, rfl, h.onCrew (fun x hx => zu_ne (by omega)) ⟨idle, sf, jf, zu_eq _ _ _, c2.fr fun x a c => zu_ne (by omega), c3.fr fun x a c => zu_ne (by omega), c4⟩⟩, fun x hx => zu_ne (by omega), rfl⟩
    · refine z_icmp_le (tgt := 20) dX11_setWorkers_7 (by decide) (fun q => absurd q (q2)) (fun _ => ?_)
      refine z_throw dX11_setWorkers_10 dX11_setWorkers_13 dX11_setWorkers_14 dX11_setWorkers_16 dX11_setWorkers_19 rfl (by decide +kernel) zth_1 (List.mem_of_getElem? (i := 6) rfl) rfl (Nat.le_of_ble_eq_true rfl) (Nat.le_of_ble_eq_true rfl) (Nat.le_of_ble_eq_true rfl) (Nat.le_of_ble_eq_true rfl) (fun nx9 hn9 => ⟨rfl, rfl, Or.inr (Int32.not_le.mp q2)⟩)
set_option maxRecDepth 100000 in
theorem c_setSlowness {nx : Nat} {x y : Int32} (h : zTG G σ b hi nt lim mem wk slow r L A tk sp cs) : zMX G yX11_setSlowness kX11_setSlowness [.ref b, .int x, .int y] σ nx (fun v σ' nx' => (∃ k p, k < 4 ∧ x = nI k ∧ 1 ≤ p ∧ p ≤ 9 ∧ y = nI p ∧ v = some (.int (nI (slow k))) ∧ zTG G σ' b hi nt lim mem wk (zun slow k p) r L A tk sp cs) ∧ zFh σ σ' b hi ∧ nx' = nx) (fun E σ' nx' => σ' = σ ∧ ((E = zEI ∧ (x < 0 ∨ 4 ≤ x)) ∨ (E = zEA ∧ ¬ x < 0 ∧ x < 4 ∧ (y < 1 ∨ 9 < y)))) := by
  refine zMX.of (ls := [some (.ref b), some (.int x), some (.int y), none]) (by decide +kernel) ⟨rfl, rfl, rfl⟩ (Nat.le_of_ble_eq_true rfl) (fun _ h => h) ?_
  have hhi := h.2.2.2.2.2.2.2.2
  obtain ⟨idle, sf, jf, c1, c2, c3, c4⟩ := h.cr
  refine z_iload_n dX11_setSlowness_0 rfl ?_
  by_cases q0 : x < 0
  · refine z_if_lt (tgt := 9) dX11_setSlowness_1 (by decide) (fun _ => ?_) (fun q => absurd (q0) q)
    refine z_throw dX11_setSlowness_9 dX11_setSlowness_12 dX11_setSlowness_13 dX11_setSlowness_15 dX11_setSlowness_18 rfl (by decide +kernel) zth_0 (List.mem_of_getElem? (i := 7) rfl) rfl (Nat.le_of_ble_eq_true rfl) (Nat.le_of_ble_eq_true rfl) (Nat.le_of_ble_eq_true rfl) (Nat.le_of_ble_eq_true rfl) (fun nx9 hn9 => ⟨rfl, Or.inl ⟨rfl, Or.inl q0⟩⟩)
  · refine z_if_lt (tgt := 9) dX11_setSlowness_1 (by decide) (fun q => absurd q (q0)) (fun _ => ?_)
    refine z_iload_n dX11_setSlowness_4 rfl ?_
    refine z_iconst (v := 4) dX11_setSlowness_5 (by decide) ?_
    by_cases q1 : x < 4
    · obtain ⟨k, hk0, rfl⟩ := nI_of q0
      have hk : k < 4 := (nI_ltI (b := 4) hk0 (by decide)).mp q1
      refine z_icmp_lt (tgt := 19) dX11_setSlowness_6 (by decide) (fun _ => ?_) (fun q => absurd (q1) q)
      refine z_iload_n dX11_setSlowness_19 rfl ?_
      refine z_iconst (v := 1) dX11_setSlowness_20 (by decide) ?_
      by_cases q2 : y < 1
      · refine z_icmp_lt (tgt := 30) dX11_setSlowness_21 (by decide) (fun _ => ?_) (fun q => absurd (q2) q)
        refine z_throw dX11_setSlowness_30 dX11_setSlowness_33 dX11_setSlowness_34 dX11_setSlowness_36 dX11_setSlowness_39 rfl (by decide +kernel) zth_1 (List.mem_of_getElem? (i := 8) rfl) rfl (Nat.le_of_ble_eq_true rfl) (Nat.le_of_ble_eq_true rfl) (Nat.le_of_ble_eq_true rfl) (Nat.le_of_ble_eq_true rfl) (fun nx9 hn9 => ⟨rfl, Or.inr ⟨rfl, q0, q1, Or.inl q2⟩⟩)
      · refine z_icmp_lt (tgt := 30) dX11_setSlowness_21 (by decide) (fun q => absurd q (q2)) (fun _ => ?_)
        refine z_iload_n dX11_setSlowness_24 rfl ?_
        refine z_bipush (v := 9) dX11_setSlowness_25 (by decide) ?_
        by_cases q3 : y ≤ 9
        · obtain ⟨p, p1, p2, rfl⟩ := nI_four (n := 9) (by decide) q2 q3
          refine z_icmp_le (tgt := 40) dX11_setSlowness_27 (by decide) (fun _ => ?_) (fun q => absurd (q3) q)
          refine z_aload_n dX11_setSlowness_40 rfl ?_
          refine z_getf dX11_setSlowness_41 fl_X11_67 h.1 rfl ?_
          refine z_getf dX11_setSlowness_44 fl_X11_235 c1 rfl ?_
          refine z_iload_n dX11_setSlowness_47 rfl ?_
          refine z_callV dX11_setSlowness_48 cv_X11_239 (c_X4_at c2 (by omega)) rfl c2.1 rfl rfl ⟨(Nat.le_of_ble_eq_true rfl), (Nat.le_of_ble_eq_true rfl)⟩ (Nat.le_of_ble_eq_true rfl) (Nat.le_of_ble_eq_true rfl) (Nat.le_of_ble_eq_true rfl) (fun v σ1 nx1 hx1 hq1 => ?_)
          obtain ⟨rfl, rfl, rfl⟩ := hq1
          rw [zrd_nI (by omega) (by omega), (c4 k hk).1]
          refine z_istore_n dX11_setSlowness_51 (by decide) ?_
          refine z_aload_n dX11_setSlowness_52 rfl ?_
          refine z_getf dX11_setSlowness_53 fl_X11_67 h.1 rfl ?_
          refine z_getf dX11_setSlowness_56 fl_X11_235 c1 rfl ?_
          refine z_iload_n dX11_setSlowness_59 rfl ?_
          refine z_iload_n dX11_setSlowness_60 rfl ?_
          refine z_callV dX11_setSlowness_61 cv_X11_243 (c_X4_set c2 (by omega)) rfl c2.1 rfl rfl ⟨(Nat.le_of_ble_eq_true rfl), (Nat.le_of_ble_eq_true rfl)⟩ (Nat.le_of_ble_eq_true rfl) (Nat.le_of_ble_eq_true rfl) (Nat.le_of_ble_eq_true rfl) (fun v σ2 nx2 hx2 hq2 => ?_)
          obtain ⟨rfl, g2, k2, rfl⟩ := hq2
          rw [zwr_nI (by omega) (by omega)] at g2
          refine z_iload_n dX11_setSlowness_64 rfl ?_
          refine zX ?_
          refine z_iret dX11_setSlowness_65 rfl (Nat.le_of_ble_eq_true rfl) (Nat.le_of_ble_eq_true rfl) ⟨⟨k, p, hk, rfl, p1, p2, rfl, rfl, h.onCrew (fun x hx => k2 x (by omega)) ⟨idle, _, jf, (k2 _ (by omega)).trans c1, g2, c3.fr fun x a c => k2 x (by omega), fun i hi => ⟨?_, (c4 i hi).2⟩⟩⟩, fun x hx => k2 x (by omega), rfl⟩
          by_cases e : i = k
          · subst e; rw [pk_us, zun_s]
          · rw [pk_un e, zun_n e]; exact (c4 i hi).1
        · refine z_icmp_le (tgt := 40) dX11_setSlowness_27 (by decide) (fun q => absurd q (q3)) (fun _ => ?_)
          refine z_throw dX11_setSlowness_30 dX11_setSlowness_33 dX11_setSlowness_34 dX11_setSlowness_36 dX11_setSlowness_39 rfl (by decide +kernel) zth_1 (List.mem_of_getElem? (i := 8) rfl) rfl (Nat.le_of_ble_eq_true rfl) (Nat.le_of_ble_eq_true rfl) (Nat.le_of_ble_eq_true rfl) (Nat.le_of_ble_eq_true rfl) (fun nx9 hn9 => ⟨rfl, Or.inr ⟨rfl, q0, q1, Or.inr (Int32.not_le.mp q3)⟩⟩)
    · refine z_icmp_lt (tgt := 19) dX11_setSlowness_6 (by decide) (fun q => absurd q (q1)) (fun _ => ?_)
      refine z_throw dX11_setSlowness_9 dX11_setSlowness_12 dX11_setSlowness_13 dX11_setSlowness_15 dX11_setSlowness_18 rfl (by decide +kernel) zth_0 (List.mem_of_getElem? (i := 7) rfl) rfl (Nat.le_of_ble_eq_true rfl) (Nat.le_of_ble_eq_true rfl) (Nat.le_of_ble_eq_true rfl) (Nat.le_of_ble_eq_true rfl) (fun nx9 hn9 => ⟨rfl, Or.inl ⟨rfl, Or.inr (Int32.not_lt.mp q1)⟩⟩)
set_option maxRecDepth 100000 in
theorem c_setMemory {nx : Nat} {x : Int32} (h : zTG G σ b hi nt lim mem wk slow r L A tk sp cs) : zMX G yX11_setMemory kX11_setMemory [.ref b, .int x] σ nx (fun v σ' nx' => v = some (.int (nI mem)) ∧ (∃ p, p ≤ 1000 ∧ x = nI p ∧ zTG G σ' b hi nt lim p wk slow r L A tk sp cs) ∧ zFh σ σ' b hi ∧ nx' = nx) (fun E σ' nx' => E = zEA ∧ σ' = σ ∧ (x < 0 ∨ 1000 < x)) := by
  refine zMX.of (ls := [some (.ref b), some (.int x), none]) (by decide +kernel) ⟨rfl, rfl, rfl⟩ (Nat.le_of_ble_eq_true rfl) (fun _ h => h) ?_
  have hhi := h.2.2.2.2.2.2.2.2
  refine z_iload_n dX11_setMemory_0 rfl ?_
  refine z_callSX dX11_setMemory_1 cv_X11_246 c_X11_checkSetting rfl rfl ⟨(Nat.le_of_ble_eq_true rfl), (Nat.le_of_ble_eq_true rfl)⟩ (Nat.le_of_ble_eq_true rfl) (Nat.le_of_ble_eq_true rfl) (Nat.le_of_ble_eq_true rfl) rfl w_751 (fun E σ' nx' _ q => q) (fun v σ1 nx1 hx1 hq1 => ?_)
  obtain ⟨rfl, rfl, rfl, p, hp, rfl⟩ := hq1
  refine z_aload_n dX11_setMemory_4 rfl ?_
  refine z_getf dX11_setMemory_5 fl_X11_9 h.1 rfl ?_
  refine z_istore_n dX11_setMemory_8 (by decide) ?_
  refine z_aload_n dX11_setMemory_9 rfl ?_
  refine z_iload_n dX11_setMemory_10 rfl ?_
  refine z_putf dX11_setMemory_11 fp_X11_9 h.1 rfl rfl (Nat.le_of_ble_eq_true rfl) ?_
  refine z_iload_n dX11_setMemory_14 rfl ?_
  refine zX ?_
  exact z_iret dX11_setMemory_15 rfl (Nat.le_of_ble_eq_true rfl) (Nat.le_of_ble_eq_true rfl) ⟨rfl, ⟨p, hp, rfl, h.onMem (fun x hx => zu_ne hx) (zu_eq _ _ _)⟩, fun x hx => zu_ne (by omega), rfl⟩
set_option maxRecDepth 100000 in
theorem c_setRoom {nx : Nat} {x : Int32} (h : zTG G σ b hi nt lim mem wk slow r L A tk sp cs) : zMX G yX11_setRoom kX11_setRoom [.ref b, .int x] σ nx (fun v σ' nx' => (∃ p, p ≤ 1000 ∧ x = nI p ∧ v = some (.int (nI (L.length - (zmkr p 0 L).length))) ∧ zTG G σ' b hi nt lim mem wk slow p (zmkr p 0 L) A tk sp cs) ∧ zFh σ σ' b hi ∧ nx' = nx) (fun E σ' nx' => E = zEA ∧ σ' = σ ∧ (x < 0 ∨ 1000 < x)) := by
  refine zMX.of (ls := [some (.ref b), some (.int x)]) (by decide +kernel) ⟨rfl, rfl, rfl⟩ (Nat.le_of_ble_eq_true rfl) (fun _ h => h) ?_
  have hhi := h.2.2.2.2.2.2.2.2
  obtain ⟨uf, sf, mm, c1, c2, c3, c4, c5, c6, c7⟩ := h.ca
  refine z_iload_n dX11_setRoom_0 rfl ?_
  refine z_callSX dX11_setRoom_1 cv_X11_246 c_X11_checkSetting rfl rfl ⟨(Nat.le_of_ble_eq_true rfl), (Nat.le_of_ble_eq_true rfl)⟩ (Nat.le_of_ble_eq_true rfl) (Nat.le_of_ble_eq_true rfl) (Nat.le_of_ble_eq_true rfl) rfl w_751 (fun E σ' nx' _ q => q) (fun v σ1 nx1 hx1 hq1 => ?_)
  obtain ⟨rfl, rfl, rfl, p, hp, rfl⟩ := hq1
  refine z_aload_n dX11_setRoom_4 rfl ?_
  refine z_getf dX11_setRoom_5 fl_X11_35 h.1 rfl ?_
  refine z_iload_n dX11_setRoom_8 rfl ?_
  refine z_putf dX11_setRoom_9 fp_X11_255 c1 rfl rfl (Nat.le_of_ble_eq_true rfl) ?_
  obtain ⟨σ2, e2⟩ : ∃ z, z = zu σ1 (b + 41) (zCC (b + 41) L.length (zsm L) p mm) := ⟨_, rfl⟩
  have ca2 : zCa G σ2 (b + 41) L p := by
    rw [e2]
    exact ⟨uf, sf, mm, zu_eq _ _ _, c2.fr fun x a c => zu_ne (by omega), c3.fr fun x a c => zu_ne (by omega), c4, c5, c6, hp⟩
  have k2 : ∀ x, x ≠ b + 41 → σ2 x = σ1 x := fun x hx => by rw [e2]; exact zu_ne hx
  have e2' : zu σ1 (b + 41) (.inr (1, [Value.ref (b + 41 + 1), .ref (b + 41 + 3), .int (nI L.length), .int mm, .int (nI (zsm L)), .int (nI r)].set 5 (.int (nI p)))) = σ2 := e2.symm
  rw [e2']
  obtain ⟨m2, hc2⟩ := ca2.c
  refine z_aload_n dX11_setRoom_12 rfl ?_
  refine z_getf dX11_setRoom_13 fl_X11_35 ((k2 b (by omega)).trans h.1) rfl ?_
  refine z_iconst (v := 0) dX11_setRoom_16 (by decide) ?_
  refine z_callV dX11_setRoom_17 cv_X11_258 (c_X0_makeRoomFor (s := 0) ca2 (by omega)) rfl hc2 rfl rfl ⟨Nat.le_of_ble_eq_true rfl, Nat.le_of_ble_eq_true rfl⟩ (Nat.le_of_ble_eq_true rfl) (Nat.le_of_ble_eq_true rfl) (Nat.le_of_ble_eq_true rfl) (fun v σ3 nx3 hx3 hq3 => ?_)
  obtain ⟨rfl, g3, k3, rfl⟩ := hq3
  refine zX ?_
  exact z_iret dX11_setRoom_20 rfl (Nat.le_of_ble_eq_true rfl) (Nat.le_of_ble_eq_true rfl) ⟨⟨p, hp, rfl, rfl, h.onCache (fun x hx => (k3 x (by omega)).trans (k2 x (by omega))) g3⟩, fun x hx => (k3 x (by omega)).trans (k2 x (by omega)), rfl⟩
end
