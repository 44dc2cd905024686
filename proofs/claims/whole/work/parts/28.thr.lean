/-! the words of throwing -/
theorem zWN {ws : List Cond} (ps : List Nat) (hp : ws = ps.filterMap (fun i => lw_tbl[i]?)) (h : (ws.all fun w => goodWord w || zIsN w) = true) : ∀ w ∈ ws, w ∈ zW ∨ w ∈ zN := by
  intro w hw
  have h1 := List.all_eq_true.mp h w hw
  rw [hp] at hw
  obtain ⟨i, -, hi⟩ := List.mem_filterMap.mp hw
  rw [Bool.or_eq_true] at h1
  exact h1.imp (fun g => zW_in (List.mem_of_getElem? hi) g) (fun g => List.mem_filter.mpr ⟨List.mem_of_getElem? hi, g⟩)
theorem zth_0 : ∀ w ∈ Cond.classLink RX11 228 "java/lang/IndexOutOfBoundsException" :: Cond.initialized "java/lang/IndexOutOfBoundsException" :: vx_atS RX11 232 "java/lang/IndexOutOfBoundsException" zNm, w ∈ zW ∨ w ∈ zN := zWN [725, 94, 84, 557, 566, 570, 573, 575, 558, 559, 102, 103, 560, 565, 571, 591, 547, 592, 549, 593, 551, 561, 563, 553, 587, 588, 590, 553, 736, 737, 738, 581, 539, 581, 582, 583, 584, 541, 584, 585, 586, 587, 543, 735, 726, 727, 728, 569, 729, 730, 731, 732, 556, 555, 733] (by decide +kernel) (by decide +kernel)
theorem zth_1 : ∀ w ∈ Cond.classLink RX11 132 "java/lang/IllegalArgumentException" :: Cond.initialized "java/lang/IllegalArgumentException" :: vx_atS RX11 136 "java/lang/IllegalArgumentException" zNm, w ∈ zW ∨ w ∈ zN := zWN [535, 87, 84, 557, 566, 570, 573, 575, 558, 559, 102, 103, 560, 565, 571, 591, 547, 592, 549, 593, 551, 561, 563, 553, 587, 588, 590, 553, 578, 579, 580, 581, 539, 581, 582, 583, 584, 541, 584, 585, 586, 587, 543, 577, 536, 537, 544, 545, 546, 548, 550, 552, 556, 555, 554] (by decide +kernel) (by decide +kernel)
theorem zth_2 : ∀ w ∈ Cond.classLink RX11 116 "java/lang/IllegalStateException" :: Cond.initialized "java/lang/IllegalStateException" :: vx_atS RX11 120 "java/lang/IllegalStateException" zNm, w ∈ zW ∨ w ∈ zN := zWN [607, 88, 84, 557, 566, 570, 573, 575, 558, 559, 102, 103, 560, 565, 571, 591, 547, 592, 549, 593, 551, 561, 563, 553, 587, 588, 590, 553, 618, 619, 620, 581, 539, 581, 582, 583, 584, 541, 584, 585, 586, 587, 543, 617, 608, 609, 610, 568, 611, 612, 613, 614, 556, 555, 615] (by decide +kernel) (by decide +kernel)
