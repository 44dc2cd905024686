/-! the law: its loop, its begin and its end -/
abbrev kL_law : zK := (RL, cL_law, 12, ⟨16, 600130, 7301079, 726⟩, (some .boolean), "law", [])
/-- the end of the law -/
def zLF (a : Nat) : zF := fun below args s A t => args = #[.ref a] → (∀ q, A q → s.heap.size ≤ q) → lw_Z below args s t
abbrev zLl (G : zG) (b : Nat) (l10 l11 : Option Value) : zL := [some (.ref (G.2.2 8)), some (.ref b), some (.ref (b + 74 + 0)), some (.ref (b + 74 + 1)), some (.ref (b + 74 + 2)), some (.ref (b + 74 + 3)), some (.ref (b + 74 + 4)), some (.ref (b + 74 + 5)), some (.ref (b + 74 + 6)), some (.ref (b + 81)), l10, l11]
theorem z_lawret {G : zG} {a nx : Nat} {σ : zH} {ls : zL} : zWP G kL_law (zLF a) 339 ls [.int 1] σ nx 600130 7301079 := by
  intro p l e s m args below meth c A H locs la C hH hS hl
  by_cases h : args = #[.ref a] ∧ ∀ q, A q → s.heap.size ≤ q
  · obtain ⟨rfl, hA⟩ := h
    obtain ⟨hx, hb, -, -, -, -, -, hlk, hret, -⟩ := C
    have K : W p l e room_1 s m #[.ref a] below meth c H locs 600130 7301079 (lw_Z below #[.ref a] s) (F0 m 339 la [.int 1]) :=
      va_forget (fun q hq => hA _ (hS.2.2 q hq)) (W.base (lw_ret (d0 := s.drawn) (Drawn.sameBut.refl s.drawn lw_cs) hx hb hret hlk dL_law_339))
    intro T hT X
    obtain ⟨t, a1, b1⟩ := K T hT X
    exact ⟨t, a1, fun _ _ => b1⟩
  · exact fun T hT X => ⟨_, Steps.refl _, fun q1 q2 => absurd ⟨q1, q2⟩ h⟩
section
variable {G : zG} {b : Nat}
set_option maxRecDepth 100000 in
set_option maxHeartbeats 4000000 in
theorem law_end {σ : zH} {nx : Nat} {R : Nat → Nat → Int32} {nt : zNT} {lim mem wk r tk sp cs : Nat} {slow : Nat → Nat} {L : zNS} {A : List zAE} {l11 : Option Value} (hG : zKap G) (hnx : b + 82 ≤ nx) (S : zVs G σ b (nt, lim, mem, wk, slow, r, L, A, tk, sp, cs) R) (he : zRe (nt, lim, mem, wk, slow, r, L, A, tk, sp, cs) R) : zWP G kL_law (zLF (G.2.2 8)) 189 (zLl G b (some (.int 1)) l11) [] σ nx 70000 700000 := by
  have h14 : nt.length ≤ 14 := S.2.1.2.2.1
  have n14 : znob nt.length 14 = true := znob_no (Or.inr (nI_le (b := 14) h14 (by decide)))
  have n1 : znob nt.length (-1) = true := znob_no (Or.inl (by decide))
  have k0 : zk_source nt.length 0 = 1 := if_pos (Or.inl (by decide))
  have k1 : zk_map nt.length 14 9 0 = 1 := if_pos n14
  have k2 : zk_group nt.length (-1) 0 0 = 1 := if_pos n1
  have k3 : zk_slow 4 0 = 1 := if_pos (Or.inr (by decide))
  have k4 : zk_work 5 ≠ 0 := by decide
  have k5 : zk_node nt.length 14 ≠ 0 := by rw [zk_node, if_pos n14]; decide
  have k6 : zk_node nt.length (-1) ≠ 0 := by rw [zk_node, if_pos n1]; decide
  refine z_iload dL_law_189 rfl ?_
  refine z_if_eq (tgt := 307) dL_law_191 (by decide) (fun q_9 => absurd q_9 (((by decide)))) (fun _ => ?_)
  refine z_aload_n dL_law_194 rfl ?_
  refine z_iconst (v := 0) dL_law_195 (by decide) ?_
  refine z_iconst (v := 0) dL_law_196 (by decide) ?_
  refine z_iconst (v := 0) dL_law_197 (by decide) ?_
  refine z_iconst (v := 0) dL_law_198 (by decide) ?_
  refine z_callH dL_law_199 ch_L_171 (w_makes_source hG hnx S) rfl rfl ⟨(Nat.le_of_ble_eq_true rfl), (Nat.le_of_ble_eq_true rfl)⟩ (Nat.le_of_ble_eq_true rfl) (Nat.le_of_ble_eq_true rfl) (Nat.le_of_ble_eq_true rfl) (fun v σ1 nx1 hx1 hq1 => ?_)
  obtain ⟨rfl, S⟩ := (hq1.bad2 S).1 k0
  replace hnx := Nat.le_trans hnx hx1
  rw [zxc_A]
  refine z_bipush (v := (-20)) dL_law_202 (by decide) ?_
  refine z_icmp_ne (tgt := 307) dL_law_204 (by decide) (fun q_9 => absurd ((rfl)) q_9) (fun _ => ?_)
  refine z_aload_n dL_law_207 rfl ?_
  refine z_iconst (v := 1) dL_law_208 (by decide) ?_
  refine z_bipush (v := 14) dL_law_209 (by decide) ?_
  refine z_bipush (v := 9) dL_law_211 (by decide) ?_
  refine z_iconst (v := 0) dL_law_213 (by decide) ?_
  refine z_callH dL_law_214 ch_L_171 (w_makes_map hG hnx S) rfl rfl ⟨(Nat.le_of_ble_eq_true rfl), (Nat.le_of_ble_eq_true rfl)⟩ (Nat.le_of_ble_eq_true rfl) (Nat.le_of_ble_eq_true rfl) (Nat.le_of_ble_eq_true rfl) (fun v σ1 nx1 hx1 hq1 => ?_)
  obtain ⟨rfl, S⟩ := (hq1.bad3 S).1 k1
  replace hnx := Nat.le_trans hnx hx1
  rw [zxc_I]
  refine z_bipush (v := (-30)) dL_law_217 (by decide) ?_
  refine z_icmp_ne (tgt := 307) dL_law_219 (by decide) (fun q_9 => absurd ((rfl)) q_9) (fun _ => ?_)
  refine z_aload_n dL_law_222 rfl ?_
  refine z_iconst (v := 4) dL_law_223 (by decide) ?_
  refine z_iconst (v := (-1)) dL_law_224 (by decide) ?_
  refine z_iconst (v := 0) dL_law_225 (by decide) ?_
  refine z_iconst (v := 0) dL_law_226 (by decide) ?_
  refine z_callH dL_law_227 ch_L_171 (w_makes_group hG hnx S) rfl rfl ⟨(Nat.le_of_ble_eq_true rfl), (Nat.le_of_ble_eq_true rfl)⟩ (Nat.le_of_ble_eq_true rfl) (Nat.le_of_ble_eq_true rfl) (Nat.le_of_ble_eq_true rfl) (fun v σ1 nx1 hx1 hq1 => ?_)
  obtain ⟨rfl, S⟩ := (hq1.bad3 S).1 k2
  replace hnx := Nat.le_trans hnx hx1
  rw [zxc_I]
  refine z_bipush (v := (-30)) dL_law_230 (by decide) ?_
  refine z_icmp_ne (tgt := 307) dL_law_232 (by decide) (fun q_9 => absurd ((rfl)) q_9) (fun _ => ?_)
  refine z_aload_n dL_law_235 rfl ?_
  refine z_iconst (v := 1) dL_law_236 (by decide) ?_
  refine z_iconst (v := 4) dL_law_237 (by decide) ?_
  refine z_iconst (v := 0) dL_law_238 (by decide) ?_
  refine z_callH dL_law_239 ch_L_174 (w_sets_setSlowness hG hnx S) rfl rfl ⟨(Nat.le_of_ble_eq_true rfl), (Nat.le_of_ble_eq_true rfl)⟩ (Nat.le_of_ble_eq_true rfl) (Nat.le_of_ble_eq_true rfl) (Nat.le_of_ble_eq_true rfl) (fun v σ1 nx1 hx1 hq1 => ?_)
  obtain ⟨rfl, S⟩ := (hq1.bad2 S).1 k3
  replace hnx := Nat.le_trans hnx hx1
  rw [zxc_I]
  refine z_bipush (v := (-30)) dL_law_242 (by decide) ?_
  refine z_icmp_ne (tgt := 307) dL_law_244 (by decide) (fun q_9 => absurd ((rfl)) q_9) (fun _ => ?_)
  refine z_aload_n dL_law_247 rfl ?_
  refine z_iconst (v := 0) dL_law_248 (by decide) ?_
  refine z_iconst (v := 5) dL_law_249 (by decide) ?_
  refine z_iconst (v := 0) dL_law_250 (by decide) ?_
  refine z_callH dL_law_251 ch_L_174 (w_sets_setWorkers hG hnx S) rfl rfl ⟨(Nat.le_of_ble_eq_true rfl), (Nat.le_of_ble_eq_true rfl)⟩ (Nat.le_of_ble_eq_true rfl) (Nat.le_of_ble_eq_true rfl) (Nat.le_of_ble_eq_true rfl) (fun v σ1 nx1 hx1 hq1 => ?_)
  obtain ⟨rfl, S⟩ := hq1.badA k4 S
  replace hnx := Nat.le_trans hnx hx1
  refine z_bipush (v := (-20)) dL_law_254 (by decide) ?_
  refine z_icmp_ne (tgt := 307) dL_law_256 (by decide) (fun q_9 => absurd ((rfl)) q_9) (fun _ => ?_)
  refine z_aload_n dL_law_259 rfl ?_
  refine z_bipush (v := 6) dL_law_260 (by decide) ?_
  refine z_bipush (v := 14) dL_law_262 (by decide) ?_
  refine z_iconst (v := 0) dL_law_264 (by decide) ?_
  refine z_iconst (v := 0) dL_law_265 (by decide) ?_
  refine z_callH dL_law_266 ch_L_102 (w_asks_stages hG hnx S) rfl rfl ⟨(Nat.le_of_ble_eq_true rfl), (Nat.le_of_ble_eq_true rfl)⟩ (Nat.le_of_ble_eq_true rfl) (Nat.le_of_ble_eq_true rfl) (Nat.le_of_ble_eq_true rfl) (fun v σ1 nx1 hx1 hq1 => ?_)
  obtain ⟨rfl, S⟩ := hq1.badI k5 S
  replace hnx := Nat.le_trans hnx hx1
  refine z_bipush (v := (-30)) dL_law_269 (by decide) ?_
  refine z_icmp_ne (tgt := 307) dL_law_271 (by decide) (fun q_9 => absurd ((rfl)) q_9) (fun _ => ?_)
  refine z_aload_n dL_law_274 rfl ?_
  refine z_bipush (v := 11) dL_law_275 (by decide) ?_
  refine z_bipush (v := 14) dL_law_277 (by decide) ?_
  refine z_iconst (v := 0) dL_law_279 (by decide) ?_
  refine z_iconst (v := 0) dL_law_280 (by decide) ?_
  refine z_callH dL_law_281 ch_L_102 (w_asks_digestInPlace hG hnx S) rfl rfl ⟨(Nat.le_of_ble_eq_true rfl), (Nat.le_of_ble_eq_true rfl)⟩ (Nat.le_of_ble_eq_true rfl) (Nat.le_of_ble_eq_true rfl) (Nat.le_of_ble_eq_true rfl) (fun v σ1 nx1 hx1 hq1 => ?_)
  obtain ⟨rfl, S⟩ := hq1.badI k5 S
  replace hnx := Nat.le_trans hnx hx1
  refine z_bipush (v := (-30)) dL_law_284 (by decide) ?_
  refine z_icmp_ne (tgt := 307) dL_law_286 (by decide) (fun q_9 => absurd ((rfl)) q_9) (fun _ => ?_)
  refine z_aload_n dL_law_289 rfl ?_
  refine z_bipush (v := 10) dL_law_290 (by decide) ?_
  refine z_iconst (v := (-1)) dL_law_292 (by decide) ?_
  refine z_iconst (v := 0) dL_law_293 (by decide) ?_
  refine z_iconst (v := 0) dL_law_294 (by decide) ?_
  refine z_callH dL_law_295 ch_L_102 (w_asks_isCached hG hnx S) rfl rfl ⟨(Nat.le_of_ble_eq_true rfl), (Nat.le_of_ble_eq_true rfl)⟩ (Nat.le_of_ble_eq_true rfl) (Nat.le_of_ble_eq_true rfl) (Nat.le_of_ble_eq_true rfl) (fun v σ1 nx1 hx1 hq1 => ?_)
  obtain ⟨rfl, S⟩ := hq1.badI k6 S
  replace hnx := Nat.le_trans hnx hx1
  refine z_bipush (v := (-30)) dL_law_298 (by decide) ?_
  refine z_icmp_ne (tgt := 307) dL_law_300 (by decide) (fun q_9 => absurd ((rfl)) q_9) (fun _ => ?_)
  refine z_iconst (v := 1) dL_law_303 (by decide) ?_
  refine z_goto (tgt := 308) dL_law_304 (by decide) ?_
  refine z_istore dL_law_308 (by decide) ?_
  refine z_iload dL_law_310 rfl ?_
  refine z_if_eq (tgt := 338) dL_law_312 (by decide) (fun q_9 => absurd q_9 (((by decide)))) (fun _ => ?_)
  refine z_aload_n dL_law_315 rfl ?_
  refine z_aload_n dL_law_316 rfl ?_
  refine z_aload_n dL_law_317 rfl ?_
  refine z_aload dL_law_318 rfl ?_
  refine z_aload dL_law_320 rfl ?_
  refine z_aload dL_law_322 rfl ?_
  refine z_aload dL_law_324 rfl ?_
  refine z_aload dL_law_326 rfl ?_
  refine z_callS dL_law_328 cv_L_205 (l_areNodes hG hnx S he) rfl rfl ⟨(Nat.le_of_ble_eq_true rfl), (Nat.le_of_ble_eq_true rfl)⟩ (Nat.le_of_ble_eq_true rfl) (Nat.le_of_ble_eq_true rfl) (Nat.le_of_ble_eq_true rfl) (fun v σ1 nx1 hx1 hq1 => ?_)
  obtain ⟨rfl, S⟩ := hq1
  replace hnx := Nat.le_trans hnx hx1
  refine z_if_eq (tgt := 338) dL_law_331 (by decide) (fun q_9 => absurd q_9 (((by decide)))) (fun _ => ?_)
  refine z_iconst (v := 1) dL_law_334 (by decide) ?_
  refine z_goto (tgt := 339) dL_law_335 (by decide) ?_
  exact z_widen (ca' := 600130) (sl' := 7301079) (Nat.le_of_ble_eq_true rfl) (Nat.le_of_ble_eq_true rfl) z_lawret
set_option maxRecDepth 100000 in
set_option maxHeartbeats 4000000 in
theorem law_loop (hX : G.2.2 9 ≤ 260) (hG : zKap G) : ∀ (d j nx : Nat) (σ : zH), j + d = 60 → b + 82 ≤ nx → (∃ u R, zVs G σ b u R ∧ zRe u R) → zWP G kL_law (zLF (G.2.2 8)) 109 (zLl G b (some (.int 1)) (some (.int (nI j)))) [] σ nx (200 + 1040 * j) (60000 + 9000 * j) := by
  intro d
  induction d with
  | zero =>
    intro j nx σ hj hnx hS
    obtain ⟨⟨nt, lim, mem, wk, slow, r, L, A, tk, sp, cs⟩, R, S, he⟩ := hS
    refine z_widen (ca' := 70000) (sl' := 700000) (by omega) (by omega) ?_
    refine z_iload dL_law_109 rfl ?_
    refine z_bipush (v := 60) dL_law_111 (by decide) ?_
    refine z_icmp_ge (tgt := 189) dL_law_113 (by decide) (fun _ => ?_) (fun q_9 => absurd (((show nI 60 ≤ nI j from nI_le (by omega) (by omega)))) q_9)
    exact law_end hG hnx S he
  | succ d ih =>
    intro j nx σ hj hnx hS
    obtain ⟨⟨nt, lim, mem, wk, slow, r, L, A, tk, sp, cs⟩, R, S, he⟩ := hS
    have nxt := ih (j + 1)
    have e4 : 4 * nI j = nI (4 * j) := pk_mul 4 j
    have e12 : nI j - nI j / 12 * 12 = nI (j % 12) := pk_rem (d := 12) (by omega) (by decide) (by decide)
    refine z_iload dL_law_109 rfl ?_
    refine z_bipush (v := 60) dL_law_111 (by decide) ?_
    refine z_icmp_ge (tgt := 189) dL_law_113 (by decide) (fun q_9 => absurd q_9 (((show ¬ nI 60 ≤ nI j from nI_ge (by omega) (by decide))))) (fun _ => ?_)
    refine z_iload dL_law_116 rfl ?_
    refine z_if_eq (tgt := 189) dL_law_118 (by decide) (fun q_9 => absurd q_9 (((by decide)))) (fun _ => ?_)
    refine z_aload_n dL_law_121 rfl ?_
    refine z_aload_n dL_law_122 rfl ?_
    refine z_iconst (v := 4) dL_law_123 (by decide) ?_
    refine z_iload dL_law_124 rfl ?_
    refine z_imul dL_law_126 ?_
    rw [e4]
    refine z_aload_n dL_law_127 rfl ?_
    refine z_aload_n dL_law_128 rfl ?_
    refine z_aload dL_law_129 rfl ?_
    refine z_aload dL_law_131 rfl ?_
    refine z_aload dL_law_133 rfl ?_
    refine z_aload dL_law_135 rfl ?_
    refine z_aload dL_law_137 rfl ?_
    refine z_aload dL_law_139 rfl ?_
    refine z_callS dL_law_141 cv_L_201 (l_isDone hX hG hnx S he (by omega)) rfl rfl ⟨(Nat.le_of_ble_eq_true rfl), (Nat.le_of_ble_eq_true rfl)⟩ (by show 200 + 1040 * j + 40 ≤ 600130; omega) (by show 60000 + 9000 * j + 3000 ≤ 7301079; omega) (Nat.le_of_ble_eq_true rfl) (fun v σ1 nx1 hx1 hq1 => ?_)
    obtain ⟨rfl, ⟨nt, lim, mem, wk, slow, r, L, A, tk, sp, cs⟩, R, S, he⟩ := hq1
    replace hnx := Nat.le_trans hnx hx1
    refine z_if_eq (tgt := 180) dL_law_144 (by decide) (fun q_9 => absurd q_9 (((by decide)))) (fun _ => ?_)
    refine z_iload dL_law_147 rfl ?_
    refine z_bipush (v := 12) dL_law_149 (by decide) ?_
    refine z_irem dL_law_151 (by decide) ?_
    rw [e12]
    refine z_bipush (v := 11) dL_law_152 (by decide) ?_
    by_cases c : j % 12 < 11
    · refine z_icmp_lt (tgt := 176) dL_law_154 (by decide) (fun _ => ?_) (fun q_9 => absurd (((nI_lt (a := j % 12) (b := 11) c (by decide)))) q_9)
      refine z_iconst (v := 1) dL_law_176 (by decide) ?_
      refine z_goto (tgt := 181) dL_law_177 (by decide) ?_
      refine z_istore dL_law_181 (by decide) ?_
      refine z_inc1 dL_law_183 rfl (by decide) ?_
      rw [nI_1]
      refine z_goto (tgt := 109) dL_law_186 (by decide) ?_
      exact z_widen (ca' := 200 + 1040 * (j + 1)) (sl' := 60000 + 9000 * (j + 1)) (by show 200 + 1040 * j + 40 ≤ _; omega) (by show 60000 + 9000 * j + 3000 ≤ _; omega) (nxt _ _ (by omega) hnx ⟨_, R, S, he⟩)
    · refine z_icmp_lt (tgt := 176) dL_law_154 (by decide) (fun q_9 => absurd q_9 (((nI_nlt (a := j % 12) (b := 11) (by omega) (by omega))))) (fun _ => ?_)
      refine z_aload_n dL_law_157 rfl ?_
      refine z_aload_n dL_law_158 rfl ?_
      refine z_aload_n dL_law_159 rfl ?_
      refine z_aload dL_law_160 rfl ?_
      refine z_aload dL_law_162 rfl ?_
      refine z_aload dL_law_164 rfl ?_
      refine z_aload dL_law_166 rfl ?_
      refine z_aload dL_law_168 rfl ?_
      refine z_callS dL_law_170 cv_L_205 (l_areNodes hG hnx S he) rfl rfl ⟨(Nat.le_of_ble_eq_true rfl), (Nat.le_of_ble_eq_true rfl)⟩ (by show 200 + 1040 * j + 40 + 1000 ≤ 600130; omega) (by show 60000 + 9000 * j + 3000 + 6000 ≤ 7301079; omega) (Nat.le_of_ble_eq_true rfl) (fun v σ1 nx1 hx1 hq1 => ?_)
      obtain ⟨rfl, S⟩ := hq1
      replace hnx := Nat.le_trans hnx hx1
      refine z_if_eq (tgt := 180) dL_law_173 (by decide) (fun q_9 => absurd q_9 (((by decide)))) (fun _ => ?_)
      refine z_iconst (v := 1) dL_law_176 (by decide) ?_
      refine z_goto (tgt := 181) dL_law_177 (by decide) ?_
      refine z_istore dL_law_181 (by decide) ?_
      refine z_inc1 dL_law_183 rfl (by decide) ?_
      rw [nI_1]
      refine z_goto (tgt := 109) dL_law_186 (by decide) ?_
      exact z_widen (ca' := 200 + 1040 * (j + 1)) (sl' := 60000 + 9000 * (j + 1)) (by show 200 + 1040 * j + 40 + 1000 ≤ _; omega) (by show 60000 + 9000 * j + 3000 + 6000 ≤ _; omega) (nxt _ _ (by omega) hnx ⟨_, R, S, he⟩)
set_option maxRecDepth 100000 in
set_option maxHeartbeats 4000000 in
theorem law_entry (hX : G.2.2 9 ≤ 260) (hG : zKap G) : zWP G kL_law (zLF (G.2.2 8)) 0 [some (.ref (G.2.2 8)), none, none, none, none, none, none, none, none, none, none, none] [] (fun _ => none) b 0 0 := by
  refine z_new dL_law_0 nw_L_9 (Nat.le_of_ble_eq_true rfl) (Nat.le_of_ble_eq_true rfl) ?_
  refine z_dup dL_law_3 rfl ?_
  refine z_callI dL_law_4 cv_L_200 (c_X11_init (b := b) (hi := b + 82) hG (by omega) (zu_eq _ _ _)) rfl rfl ⟨(Nat.le_of_ble_eq_true rfl), (Nat.le_of_ble_eq_true rfl)⟩ (Nat.le_of_ble_eq_true rfl) (Nat.le_of_ble_eq_true rfl) (Nat.le_of_ble_eq_true rfl) (fun v s1 n1 hx1 hq1 => ?_)
  obtain ⟨rfl, hT, -, rfl⟩ := hq1
  refine z_astore_n dL_law_7 (by decide) ?_
  refine z_bipush (v := 14) dL_law_8 (by decide) ?_
  refine z_newa (at_ := .int) (t0 := 0) (N := 14) (x := (14, .inl (fun _ => 0))) dL_law_10 zWint rfl rfl (by decide) (by decide) (by decide) (Nat.le_of_ble_eq_true rfl) (Nat.le_of_ble_eq_true rfl) ?_
  refine z_astore_n dL_law_12 (by decide) ?_
  refine z_bipush (v := 14) dL_law_13 (by decide) ?_
  refine z_newa (at_ := .int) (t0 := 0) (N := 14) (x := (14, .inl (fun _ => 0))) dL_law_15 zWint rfl rfl (by decide) (by decide) (by decide) (Nat.le_of_ble_eq_true rfl) (Nat.le_of_ble_eq_true rfl) ?_
  refine z_astore_n dL_law_17 (by decide) ?_
  refine z_bipush (v := 14) dL_law_18 (by decide) ?_
  refine z_newa (at_ := .int) (t0 := 0) (N := 14) (x := (14, .inl (fun _ => 0))) dL_law_20 zWint rfl rfl (by decide) (by decide) (by decide) (Nat.le_of_ble_eq_true rfl) (Nat.le_of_ble_eq_true rfl) ?_
  refine z_astore dL_law_22 (by decide) ?_
  refine z_bipush (v := 14) dL_law_24 (by decide) ?_
  refine z_newa (at_ := .int) (t0 := 0) (N := 14) (x := (14, .inl (fun _ => 0))) dL_law_26 zWint rfl rfl (by decide) (by decide) (by decide) (Nat.le_of_ble_eq_true rfl) (Nat.le_of_ble_eq_true rfl) ?_
  refine z_astore dL_law_28 (by decide) ?_
  refine z_bipush (v := 14) dL_law_30 (by decide) ?_
  refine z_newa (at_ := .int) (t0 := 0) (N := 14) (x := (14, .inl (fun _ => 0))) dL_law_32 zWint rfl rfl (by decide) (by decide) (by decide) (Nat.le_of_ble_eq_true rfl) (Nat.le_of_ble_eq_true rfl) ?_
  refine z_astore dL_law_34 (by decide) ?_
  refine z_bipush (v := 14) dL_law_36 (by decide) ?_
  refine z_newa (at_ := .int) (t0 := 0) (N := 14) (x := (14, .inl (fun _ => 0))) dL_law_38 zWint rfl rfl (by decide) (by decide) (by decide) (Nat.le_of_ble_eq_true rfl) (Nat.le_of_ble_eq_true rfl) ?_
  refine z_astore dL_law_40 (by decide) ?_
  refine z_bipush (v := 14) dL_law_42 (by decide) ?_
  refine z_newa (at_ := .int) (t0 := 0) (N := 14) (x := (14, .inl (fun _ => 0))) dL_law_44 zWint rfl rfl (by decide) (by decide) (by decide) (Nat.le_of_ble_eq_true rfl) (Nat.le_of_ble_eq_true rfl) ?_
  refine z_astore dL_law_46 (by decide) ?_
  refine z_iconst (v := 5) dL_law_48 (by decide) ?_
  refine z_newa (at_ := .int) (t0 := 0) (N := 5) (x := (5, .inl (fun _ => 0))) dL_law_49 zWint rfl rfl (by decide) (by decide) (by decide) (Nat.le_of_ble_eq_true rfl) (Nat.le_of_ble_eq_true rfl) ?_
  refine z_astore dL_law_51 (by decide) ?_
  generalize hσ : zu (zu (zu (zu (zu (zu (zu (zu s1 (b + 74) _) _ _) _ _) _ _) _ _) _ _) _ _) _ _ = σ
  have at7 : ∀ i, i < 7 → σ (b + 74 + i) = some (zI G 14 (fun _ => 0)) := by
    intro i hi
    subst hσ
    rcases (show i = 0 ∨ i = 1 ∨ i = 2 ∨ i = 3 ∨ i = 4 ∨ i = 5 ∨ i = 6 by omega) with h | h | h | h | h | h | h <;> subst h
    · exact (zu_ne (by omega)).trans ((zu_ne (by omega)).trans ((zu_ne (by omega)).trans ((zu_ne (by omega)).trans ((zu_ne (by omega)).trans ((zu_ne (by omega)).trans ((zu_ne (by omega)).trans (zu_eq _ _ _)))))))
    · exact (zu_ne (by omega)).trans ((zu_ne (by omega)).trans ((zu_ne (by omega)).trans ((zu_ne (by omega)).trans ((zu_ne (by omega)).trans ((zu_ne (by omega)).trans (zu_eq _ _ _))))))
    · exact (zu_ne (by omega)).trans ((zu_ne (by omega)).trans ((zu_ne (by omega)).trans ((zu_ne (by omega)).trans ((zu_ne (by omega)).trans (zu_eq _ _ _)))))
    · exact (zu_ne (by omega)).trans ((zu_ne (by omega)).trans ((zu_ne (by omega)).trans ((zu_ne (by omega)).trans (zu_eq _ _ _))))
    · exact (zu_ne (by omega)).trans ((zu_ne (by omega)).trans ((zu_ne (by omega)).trans (zu_eq _ _ _)))
    · exact (zu_ne (by omega)).trans ((zu_ne (by omega)).trans (zu_eq _ _ _))
    · exact (zu_ne (by omega)).trans (zu_eq _ _ _)
  have at8 : σ (b + 81) = some (zI G 5 (fun _ => 0)) := by
    subst hσ
    exact zu_eq _ _ _
  have hT : zTG G σ b (b + 82) [] 4 20 2 (fun _ => 1) 0 [] [] 0 0 0 := by
    refine zTG.fr hT fun x q => ?_
    subst hσ
    exact (zu_ne (by omega)).trans ((zu_ne (by omega)).trans ((zu_ne (by omega)).trans ((zu_ne (by omega)).trans ((zu_ne (by omega)).trans ((zu_ne (by omega)).trans ((zu_ne (by omega)).trans (zu_ne (by omega))))))))
  have hO : zOk ([], 4, 20, 2, fun _ => 1, 0, [], [], 0, 0, 0) := ⟨fun i e h => by simp at h, fun i e h => by simp at h, by decide, by decide, by decide, by decide, fun k hk => ⟨Nat.le_refl 1, (show 1 ≤ 9 by decide)⟩, by decide, zLok_nil, fun i q h => by simp at h, by decide, fun h => absurd rfl h, fun i e h => by simp at h⟩
  have S : zVs G σ b ([], 4, 20, 2, fun _ => 1, 0, [], [], 0, 0, 0) (fun _ _ => 0) := ⟨hT, hO, at7, at8⟩
  clear hT hO at7 at8 hσ
  refine z_widen (ca' := 190) (sl' := 59000) (Nat.le_of_ble_eq_true rfl) (Nat.le_of_ble_eq_true rfl) ?_
  refine z_aload dL_law_53 rfl ?_
  refine z_iconst (v := 1) dL_law_55 (by decide) ?_
  refine z_iconst (v := 4) dL_law_56 (by decide) ?_
  refine z_gs dL_law_57 S (i := 1) (by decide) (fun σ1 S => ?_)
  refine z_aload dL_law_58 rfl ?_
  refine z_iconst (v := 2) dL_law_60 (by decide) ?_
  refine z_iconst (v := 2) dL_law_61 (by decide) ?_
  refine z_gs dL_law_62 S (i := 2) (by decide) (fun σ1 S => ?_)
  refine z_aload dL_law_63 rfl ?_
  refine z_iconst (v := 3) dL_law_65 (by decide) ?_
  refine z_bipush (v := 20) dL_law_66 (by decide) ?_
  refine z_gs dL_law_68 S (i := 3) (by decide) (fun σ1 S => ?_)
  refine z_aload_n dL_law_69 rfl ?_
  refine z_callV dL_law_70 cv_L_139 (p_nodes S) rfl S.c rfl rfl ⟨(Nat.le_of_ble_eq_true rfl), (Nat.le_of_ble_eq_true rfl)⟩ (Nat.le_of_ble_eq_true rfl) (Nat.le_of_ble_eq_true rfl) (Nat.le_of_ble_eq_true rfl) (fun v σ1 nx1 hx1 hq1 => ?_)
  obtain ⟨rfl, S, rfl⟩ := hq1
  refine z_if_ne (tgt := 103) dL_law_73 (by decide) (fun q_9 => absurd ((rfl)) q_9) (fun _ => ?_)
  refine z_aload_n dL_law_76 rfl ?_
  refine z_callV dL_law_77 cv_L_150 (p_ticks S) rfl S.c rfl rfl ⟨(Nat.le_of_ble_eq_true rfl), (Nat.le_of_ble_eq_true rfl)⟩ (Nat.le_of_ble_eq_true rfl) (Nat.le_of_ble_eq_true rfl) (Nat.le_of_ble_eq_true rfl) (fun v σ1 nx1 hx1 hq1 => ?_)
  obtain ⟨rfl, S, rfl⟩ := hq1
  refine z_if_ne (tgt := 103) dL_law_80 (by decide) (fun q_9 => absurd ((rfl)) q_9) (fun _ => ?_)
  refine z_aload_n dL_law_83 rfl ?_
  refine z_callV dL_law_84 cv_L_147 (p_attempts S) rfl S.c rfl rfl ⟨(Nat.le_of_ble_eq_true rfl), (Nat.le_of_ble_eq_true rfl)⟩ (Nat.le_of_ble_eq_true rfl) (Nat.le_of_ble_eq_true rfl) (Nat.le_of_ble_eq_true rfl) (fun v σ1 nx1 hx1 hq1 => ?_)
  obtain ⟨rfl, S, rfl⟩ := hq1
  refine z_if_ne (tgt := 103) dL_law_87 (by decide) (fun q_9 => absurd ((rfl)) q_9) (fun _ => ?_)
  refine z_aload_n dL_law_90 rfl ?_
  refine z_callV dL_law_91 cv_L_168 (p_share S) rfl S.c rfl rfl ⟨(Nat.le_of_ble_eq_true rfl), (Nat.le_of_ble_eq_true rfl)⟩ (Nat.le_of_ble_eq_true rfl) (Nat.le_of_ble_eq_true rfl) (Nat.le_of_ble_eq_true rfl) (fun v σ1 nx1 hx1 hq1 => ?_)
  obtain ⟨rfl, S, rfl⟩ := hq1
  have e0 : zshF [] 0 0 = FP.fconst0 := if_pos rfl
  rw [e0]
  refine z_fconst0 dL_law_94 ?_
  refine z_fcmp dL_law_95 ?_
  rw [zfcmp_self (by unfold vf_n32; decide)]
  refine z_if_ne (tgt := 103) dL_law_96 (by decide) (fun q_9 => absurd ((rfl)) q_9) (fun _ => ?_)
  refine z_iconst (v := 1) dL_law_99 (by decide) ?_
  refine z_goto (tgt := 104) dL_law_100 (by decide) ?_
  refine z_istore dL_law_104 (by decide) ?_
  refine z_iconst (v := 0) dL_law_106 (by decide) ?_
  refine z_istore dL_law_107 (by decide) ?_
  refine z_widen (ca' := 200 + 1040 * 0) (sl' := 60000 + 9000 * 0) (Nat.le_of_ble_eq_true rfl) (Nat.le_of_ble_eq_true rfl) ?_
  refine law_loop hX hG 60 0 _ _ rfl (Nat.le_refl _) ⟨_, _, S, ?_⟩
  refine ⟨fun i e h => by simp at h, ?_, ?_, ?_, ?_, ?_, Nat.le_refl _, by decide, fun i _ => ?_⟩
  · rfl
  · rfl
  · rfl
  · rfl
  · rfl
  · rfl
end
