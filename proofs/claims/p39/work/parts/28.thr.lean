/-! the words of throwing -/
theorem zWN {ws : List Cond} (ps : List Nat) (hp : ws = ps.filterMap (fun i => lw_tbl[i]?)) (h : (ws.all fun w => goodWord w || zIsN w) = true) : ∀ w ∈ ws, w ∈ zW ∨ w ∈ zN := by
  intro w hw
  have h1 := List.all_eq_true.mp h w hw
  rw [hp] at hw
  obtain ⟨i, -, hi⟩ := List.mem_filterMap.mp hw
  rw [Bool.or_eq_true] at h1
  exact h1.imp (fun g => zW_in (List.mem_of_getElem? hi) g) (fun g => List.mem_filter.mpr ⟨List.mem_of_getElem? hi, g⟩)
theorem zth_0 : ∀ w ∈ Cond.classLink RX11 228 "java/lang/IndexOutOfBoundsException" :: Cond.initialized "java/lang/IndexOutOfBoundsException" :: vx_atS RX11 232 "java/lang/IndexOutOfBoundsException" zNm, w ∈ zW ∨ w ∈ zN := zWN [682, 58, 48, 519, 528, 532, 535, 537, 520, 521, 66, 67, 522, 527, 533, 553, 509, 554, 511, 555, 513, 523, 525, 515, 549, 550, 552, 515, 693, 694, 695, 543, 501, 543, 544, 545, 546, 503, 546, 547, 548, 549, 505, 692, 683, 684, 685, 531, 686, 687, 688, 689, 518, 517, 690] (by decide +kernel) (by decide +kernel)
theorem zth_1 : ∀ w ∈ Cond.classLink RX11 132 "java/lang/IllegalArgumentException" :: Cond.initialized "java/lang/IllegalArgumentException" :: vx_atS RX11 136 "java/lang/IllegalArgumentException" zNm, w ∈ zW ∨ w ∈ zN := zWN [497, 51, 48, 519, 528, 532, 535, 537, 520, 521, 66, 67, 522, 527, 533, 553, 509, 554, 511, 555, 513, 523, 525, 515, 549, 550, 552, 515, 540, 541, 542, 543, 501, 543, 544, 545, 546, 503, 546, 547, 548, 549, 505, 539, 498, 499, 506, 507, 508, 510, 512, 514, 518, 517, 516] (by decide +kernel) (by decide +kernel)
theorem zth_2 : ∀ w ∈ Cond.classLink RX11 116 "java/lang/IllegalStateException" :: Cond.initialized "java/lang/IllegalStateException" :: vx_atS RX11 120 "java/lang/IllegalStateException" zNm, w ∈ zW ∨ w ∈ zN := zWN [569, 52, 48, 519, 528, 532, 535, 537, 520, 521, 66, 67, 522, 527, 533, 553, 509, 554, 511, 555, 513, 523, 525, 515, 549, 550, 552, 515, 580, 581, 582, 543, 501, 543, 544, 545, 546, 503, 546, 547, 548, 549, 505, 579, 570, 571, 572, 530, 573, 574, 575, 576, 518, 517, 577] (by decide +kernel) (by decide +kernel)
