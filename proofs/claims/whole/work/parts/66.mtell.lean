-- model
/-! the model: what it tells, with no throw -/
section
variable {G : zG} {m : Nat} {nt : zNT} {lim mem wk r tk sp cs un : Nat} {slow : Nat → Nat} {L : zNS} {A : List zAE} {S S' : zMS}
set_option maxRecDepth 100000 in
theorem c_q_nodes (h : zrM S nt lim mem wk slow r L A tk sp cs un) : zMN G yX12_nodes kX12_nodes m [] S (fun v S' => zQm v S' 0 (v = some (.int (nI nt.length)) ∧ zrM S' nt lim mem wk slow r L A tk sp cs un) True) := by
  refine zMN.of (ls := [some (.ref m)]) (by decide +kernel) ⟨rfl, rfl, rfl⟩ (Nat.le_of_ble_eq_true rfl) (fun _ h => h) fun Q hQ => ?_
  refine n_aload_n dX12_nodes_0 rfl ?_
  refine n_aload_n dX12_nodes_1 rfl ?_
  refine n_getE dX12_nodes_2 fl_X12_123 rfl (h.1.1) ?_
  refine n_call dX12_nodes_5 cv_X12_144 c_tells rfl rfl rfl ⟨(Nat.le_of_ble_eq_true rfl), (Nat.le_of_ble_eq_true rfl)⟩ rfl rfl (Nat.le_of_ble_eq_true rfl) (fun v S1 hq1 => ?_)
  obtain ⟨rfl, rfl⟩ := hq1
  exact n_iret dX12_nodes_8 rfl (hQ _ _ (zQm.ok zSF_s rfl ⟨rfl, h.thr⟩))
set_option maxRecDepth 100000 in
theorem c_q_ticks (h : zrM S nt lim mem wk slow r L A tk sp cs un) : zMN G yX12_ticks kX12_ticks m [] S (fun v S' => zQm v S' 0 (v = some (.int (nI tk)) ∧ zrM S' nt lim mem wk slow r L A tk sp cs un) True) := by
  refine zMN.of (ls := [some (.ref m)]) (by decide +kernel) ⟨rfl, rfl, rfl⟩ (Nat.le_of_ble_eq_true rfl) (fun _ h => h) fun Q hQ => ?_
  refine n_aload_n dX12_ticks_0 rfl ?_
  refine n_aload_n dX12_ticks_1 rfl ?_
  refine n_getE dX12_ticks_2 fl_X12_258 rfl (h.2.2.2.2.1) ?_
  refine n_call dX12_ticks_5 cv_X12_144 c_tells rfl rfl rfl ⟨(Nat.le_of_ble_eq_true rfl), (Nat.le_of_ble_eq_true rfl)⟩ rfl rfl (Nat.le_of_ble_eq_true rfl) (fun v S1 hq1 => ?_)
  obtain ⟨rfl, rfl⟩ := hq1
  exact n_iret dX12_ticks_8 rfl (hQ _ _ (zQm.ok zSF_s rfl ⟨rfl, h.thr⟩))
set_option maxRecDepth 100000 in
theorem c_q_spilled (h : zrM S nt lim mem wk slow r L A tk sp cs un) : zMN G yX12_spilled kX12_spilled m [] S (fun v S' => zQm v S' 0 (v = some (.int (nI sp)) ∧ zrM S' nt lim mem wk slow r L A tk sp cs un) True) := by
  refine zMN.of (ls := [some (.ref m)]) (by decide +kernel) ⟨rfl, rfl, rfl⟩ (Nat.le_of_ble_eq_true rfl) (fun _ h => h) fun Q hQ => ?_
  refine n_aload_n dX12_spilled_0 rfl ?_
  refine n_aload_n dX12_spilled_1 rfl ?_
  refine n_getE dX12_spilled_2 fl_X12_248 rfl (h.2.2.2.2.2.1) ?_
  refine n_call dX12_spilled_5 cv_X12_144 c_tells rfl rfl rfl ⟨(Nat.le_of_ble_eq_true rfl), (Nat.le_of_ble_eq_true rfl)⟩ rfl rfl (Nat.le_of_ble_eq_true rfl) (fun v S1 hq1 => ?_)
  obtain ⟨rfl, rfl⟩ := hq1
  exact n_iret dX12_spilled_8 rfl (hQ _ _ (zQm.ok zSF_s rfl ⟨rfl, h.thr⟩))
set_option maxRecDepth 100000 in
theorem c_q_attempts (h : zrM S nt lim mem wk slow r L A tk sp cs un) : zMN G yX12_attempts kX12_attempts m [] S (fun v S' => zQm v S' 0 (v = some (.int (nI A.length)) ∧ zrM S' nt lim mem wk slow r L A tk sp cs un) True) := by
  refine zMN.of (ls := [some (.ref m)]) (by decide +kernel) ⟨rfl, rfl, rfl⟩ (Nat.le_of_ble_eq_true rfl) (fun _ h => h) fun Q hQ => ?_
  refine n_aload_n dX12_attempts_0 rfl ?_
  refine n_aload_n dX12_attempts_1 rfl ?_
  refine n_getE dX12_attempts_2 fl_X12_238 rfl (h.2.2.2.2.2.2.2.1) ?_
  refine n_call dX12_attempts_5 cv_X12_144 c_tells rfl rfl rfl ⟨(Nat.le_of_ble_eq_true rfl), (Nat.le_of_ble_eq_true rfl)⟩ rfl rfl (Nat.le_of_ble_eq_true rfl) (fun v S1 hq1 => ?_)
  obtain ⟨rfl, rfl⟩ := hq1
  exact n_iret dX12_attempts_8 rfl (hQ _ _ (zQm.ok zSF_s rfl ⟨rfl, h.thr⟩))
end
