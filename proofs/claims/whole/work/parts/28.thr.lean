/-! the words of throwing -/
theorem zWN {ws : List Cond} (ps : List Nat) (hp : ws = ps.filterMap (fun i => lw_tbl[i]?)) (h : (ws.all fun w => goodWord w || zIsN w) = true) : ∀ w ∈ ws, w ∈ zW ∨ w ∈ zN := by
  intro w hw
  have h1 := List.all_eq_true.mp h w hw
  rw [hp] at hw
  obtain ⟨i, -, hi⟩ := List.mem_filterMap.mp hw
  rw [Bool.or_eq_true] at h1
  exact h1.imp (fun g => zW_in (List.mem_of_getElem? hi) g) (fun g => List.mem_filter.mpr ⟨List.mem_of_getElem? hi, g⟩)
theorem zth_0 : ∀ w ∈ Cond.classLink RX11 228 "java/lang/IndexOutOfBoundsException" :: Cond.initialized "java/lang/IndexOutOfBoundsException" :: vx_atS RX11 232 "java/lang/IndexOutOfBoundsException" zNm, w ∈ zW ∨ w ∈ zN := zWN [726, 94, 84, 558, 567, 571, 574, 576, 559, 560, 102, 103, 561, 566, 572, 592, 548, 593, 550, 594, 552, 562, 564, 554, 588, 589, 591, 554, 737, 738, 739, 582, 540, 582, 583, 584, 585, 542, 585, 586, 587, 588, 544, 736, 727, 728, 729, 570, 730, 731, 732, 733, 557, 556, 734] (by decide +kernel) (by decide +kernel)
theorem zth_1 : ∀ w ∈ Cond.classLink RX11 132 "java/lang/IllegalArgumentException" :: Cond.initialized "java/lang/IllegalArgumentException" :: vx_atS RX11 136 "java/lang/IllegalArgumentException" zNm, w ∈ zW ∨ w ∈ zN := zWN [536, 87, 84, 558, 567, 571, 574, 576, 559, 560, 102, 103, 561, 566, 572, 592, 548, 593, 550, 594, 552, 562, 564, 554, 588, 589, 591, 554, 579, 580, 581, 582, 540, 582, 583, 584, 585, 542, 585, 586, 587, 588, 544, 578, 537, 538, 545, 546, 547, 549, 551, 553, 557, 556, 555] (by decide +kernel) (by decide +kernel)
theorem zth_2 : ∀ w ∈ Cond.classLink RX11 116 "java/lang/IllegalStateException" :: Cond.initialized "java/lang/IllegalStateException" :: vx_atS RX11 120 "java/lang/IllegalStateException" zNm, w ∈ zW ∨ w ∈ zN := zWN [608, 88, 84, 558, 567, 571, 574, 576, 559, 560, 102, 103, 561, 566, 572, 592, 548, 593, 550, 594, 552, 562, 564, 554, 588, 589, 591, 554, 619, 620, 621, 582, 540, 582, 583, 584, 585, 542, 585, 586, 587, 588, 544, 618, 609, 610, 611, 569, 612, 613, 614, 615, 557, 556, 616] (by decide +kernel) (by decide +kernel)
