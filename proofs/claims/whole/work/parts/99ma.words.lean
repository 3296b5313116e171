/-! the law's words stand in the tables -/
theorem lin_r1 : ∀ w ∈ wsL_law0_r1, k2_isCode w = false → w ∈ lw_tbl := by decide +kernel
theorem lin_r2 : ∀ w ∈ wsL_law0_r2, k2_isCode w = false → w ∈ lw_tbl := by decide +kernel
theorem lin_r3 : ∀ w ∈ wsL_law0_r3, k2_isCode w = false → w ∈ lw_tbl := by decide +kernel
theorem lin_r4 : ∀ w ∈ wsL_law0_r4, k2_isCode w = false → w ∈ lw_tbl := by decide +kernel
theorem lin_r5 : ∀ w ∈ wsL_law0_r5, k2_isCode w = false → w ∈ lw_tbl := by decide +kernel
theorem lin_r6 : ∀ w ∈ wsL_law0_r6, k2_isCode w = false → w ∈ lw_tbl := by decide +kernel
theorem lin_r7 : ∀ w ∈ wsL_law0_r7, k2_isCode w = false → w ∈ lw_tbl := by decide +kernel
theorem lin_r8 : ∀ w ∈ wsL_law0_r8, k2_isCode w = false → w ∈ lw_tbl := by decide +kernel
theorem lin_r9 : ∀ w ∈ wsL_law0_r9, k2_isCode w = false → w ∈ lw_tbl := by decide +kernel
theorem lin_r10 : ∀ w ∈ wsL_law0_r10, k2_isCode w = false → w ∈ lw_tbl := by decide +kernel
theorem lin_r11 : ∀ w ∈ wsL_law0_r11, k2_isCode w = false → w ∈ lw_tbl := by decide +kernel
theorem lin_r12 : ∀ w ∈ wsL_law0_r12, k2_isCode w = false → w ∈ lw_tbl := by decide +kernel
theorem lin_r13 : ∀ w ∈ wsL_law0_r13, k2_isCode w = false → w ∈ lw_tbl := by decide +kernel
theorem lin_r14 : ∀ w ∈ wsL_law0_r14, k2_isCode w = false → w ∈ lw_tbl := by decide +kernel
theorem lin_r15 : ∀ w ∈ wsL_law0_r15, k2_isCode w = false → w ∈ lw_tbl := by decide +kernel
theorem lin_r16 : ∀ w ∈ wsL_law0_r16, k2_isCode w = false → w ∈ lw_tbl := by decide +kernel
theorem lin_r17 : ∀ w ∈ wsL_law0_r17, k2_isCode w = false → w ∈ lw_tbl := by decide +kernel
theorem lin_r18 : ∀ w ∈ wsL_law0_r18, k2_isCode w = false → w ∈ lw_tbl := by decide +kernel
theorem lin_r19 : ∀ w ∈ wsL_law0_r19, k2_isCode w = false → w ∈ lw_tbl := by decide +kernel
theorem lin_r20 : ∀ w ∈ wsL_law0_r20, k2_isCode w = false → w ∈ lw_tbl := by decide +kernel
theorem lin_r21 : ∀ w ∈ wsL_law0_r21, k2_isCode w = false → w ∈ lw_tbl := by decide +kernel
theorem lin_r22 : ∀ w ∈ wsL_law0_r22, k2_isCode w = false → w ∈ lw_tbl := by decide +kernel
theorem lin_r23 : ∀ w ∈ wsL_law0_r23, k2_isCode w = false → w ∈ lw_tbl := by decide +kernel
theorem lin_r24 : ∀ w ∈ wsL_law0_r24, k2_isCode w = false → w ∈ lw_tbl := by decide +kernel
theorem lin_r25 : ∀ w ∈ wsL_law0_r25, k2_isCode w = false → w ∈ lw_tbl := by decide +kernel
theorem lin_r26 : ∀ w ∈ wsL_law0_r26, k2_isCode w = false → w ∈ lw_tbl := by decide +kernel
theorem lin_wsX60 : ∀ w ∈ wsX60, k2_isCode w = false → w ∈ lw_tbl := by decide +kernel
theorem lin_wsX70 : ∀ w ∈ wsX70, k2_isCode w = false → w ∈ lw_tbl := by decide +kernel
theorem lin_wsX10 : ∀ w ∈ wsX10, k2_isCode w = false → w ∈ lw_tbl := by decide +kernel
theorem lin_wsX30 : ∀ w ∈ wsX30, k2_isCode w = false → w ∈ lw_tbl := by decide +kernel
theorem lin_wsX20 : ∀ w ∈ wsX20, k2_isCode w = false → w ∈ lw_tbl := by decide +kernel
theorem lin_wsX40 : ∀ w ∈ wsX40, k2_isCode w = false → w ∈ lw_tbl := by decide +kernel
theorem lin_wsX50 : ∀ w ∈ wsX50, k2_isCode w = false → w ∈ lw_tbl := by decide +kernel
theorem lin_wsX00 : ∀ w ∈ wsX00, k2_isCode w = false → w ∈ lw_tbl := by decide +kernel
set_option maxRecDepth 20000 in
theorem lin_n : ∀ w ∈ wsL_law0, k2_isCode w = false → w ∈ lw_tbl := (fun w h => (List.mem_append.mp h).elim ((fun w h => (List.mem_append.mp h).elim ((fun w h => (List.mem_append.mp h).elim ((fun w h => (List.mem_append.mp h).elim ((fun w h => (List.mem_append.mp h).elim ((fun w h => (List.mem_append.mp h).elim ((fun w h => (List.mem_append.mp h).elim ((fun w h => (List.mem_append.mp h).elim ((fun w h => (List.mem_append.mp h).elim ((fun w h => (List.mem_append.mp h).elim (lin_r1 w) ((fun w h => (List.mem_append.mp h).elim (lin_r2 w) ((fun w h => (List.mem_append.mp h).elim (lin_r3 w) ((fun w h => (List.mem_append.mp h).elim (lin_r4 w) ((fun w h => (List.mem_append.mp h).elim (lin_r5 w) ((fun w h => (List.mem_append.mp h).elim (lin_r6 w) ((fun w h => (List.mem_append.mp h).elim (lin_r7 w) ((fun w h => (List.mem_append.mp h).elim (lin_r8 w) ((fun w h => (List.mem_append.mp h).elim (lin_r9 w) ((fun w h => (List.mem_append.mp h).elim (lin_r10 w) ((fun w h => (List.mem_append.mp h).elim (lin_r11 w) ((fun w h => (List.mem_append.mp h).elim (lin_r12 w) ((fun w h => (List.mem_append.mp h).elim (lin_r13 w) ((fun w h => (List.mem_append.mp h).elim (lin_r14 w) ((fun w h => (List.mem_append.mp h).elim (lin_r15 w) ((fun w h => (List.mem_append.mp h).elim (lin_r16 w) ((fun w h => (List.mem_append.mp h).elim (lin_r17 w) ((fun w h => (List.mem_append.mp h).elim (lin_r18 w) ((fun w h => (List.mem_append.mp h).elim (lin_r19 w) ((fun w h => (List.mem_append.mp h).elim (lin_r20 w) ((fun w h => (List.mem_append.mp h).elim (lin_r21 w) ((fun w h => (List.mem_append.mp h).elim (lin_r22 w) ((fun w h => (List.mem_append.mp h).elim (lin_r23 w) ((fun w h => (List.mem_append.mp h).elim (lin_r24 w) ((fun w h => (List.mem_append.mp h).elim (lin_r25 w) (lin_r26 w)) w)) w)) w)) w)) w)) w)) w)) w)) w)) w)) w)) w)) w)) w)) w)) w)) w)) w)) w)) w)) w)) w)) w)) w)) w) (lin_wsX60 w)) w) (lin_wsX70 w)) w) (lin_wsX10 w)) w) (lin_wsX30 w)) w) (lin_wsX20 w)) w) (lin_wsX40 w)) w) (lin_wsX50 w)) w) (lin_wsX00 w)) w) ((fun w h => absurd h List.not_mem_nil) w))
set_option maxRecDepth 20000 in
theorem lin_c : wsL_law0.filter k2_isCode = ([34, 37, 669, 63, 741, 745, 737, 140, 144, 163, 182, 749, 752, 755, 759, 189, 194, 200, 206, 247, 251, 255, 259, 265, 328, 378, 382, 387, 391, 395, 400, 405, 410, 414, 418, 422, 427, 431, 434, 437, 440, 444, 450, 763, 457, 461, 767, 771, 469, 775, 478, 481, 486, 490, 779, 783, 787, 791, 794, 799, 802, 498, 505, 508, 807, 811, 517, 521, 525, 529, 534, 815, 541, 819, 548, 556, 823, 564, 570, 574, 827, 830, 833, 585, 589, 594, 598, 602, 837, 841, 610, 616, 625, 631, 635, 845, 643, 651, 657, 849, 854, 859, 863, 664, 867] : List Nat).filterMap (fun i => lw_tbl[i]?) := rfl
theorem wsL_law_in0 : ∀ w ∈ wsL_law0, w ∈ lw_tbl := fun w h => by
  by_cases hc : k2_isCode w = true
  · have h1 : w ∈ wsL_law0.filter k2_isCode := List.mem_filter.mpr ⟨h, hc⟩
    rw [lin_c] at h1
    obtain ⟨i, -, hi⟩ := List.mem_filterMap.mp h1
    exact List.mem_of_getElem? hi
  · exact lin_n w h (by simpa using hc)
theorem wsL_law_x0 : ∀ w ∈ (vx_atS RX6 28 "java/lang/IllegalStateException" ["java/lang/RuntimeException", "java/lang/Exception"]).filter goodWord, w ∈ lw_tbl := by decide +kernel
theorem wsL_law_x1 : ∀ w ∈ (vx_atS RX6 194 "java/lang/IndexOutOfBoundsException" ["java/lang/RuntimeException", "java/lang/Exception"]).filter goodWord, w ∈ lw_tbl := by decide +kernel
theorem wsL_law_x2 : ∀ w ∈ (vx_atS RX6 207 "java/lang/IllegalArgumentException" ["java/lang/RuntimeException", "java/lang/Exception"]).filter goodWord, w ∈ lw_tbl := by decide +kernel
theorem wsL_law_in : ∀ w ∈ wsL_law, w ∈ lw_tbl := fun w h => (List.mem_append.mp h).elim (fun h => (List.mem_append.mp h).elim (fun h => (List.mem_append.mp h).elim (fun h => wsL_law_in0 w h) (fun h => wsL_law_x0 w h)) (fun h => wsL_law_x1 w h)) (fun h => wsL_law_x2 w h)
theorem inlX0 : ∀ w ∈ wsX00, w ∈ wsL_law := fun _ h => List.mem_append_left _ (List.mem_append_left _ (List.mem_append_left _ (List.mem_append_left _ (List.mem_append_right _ h))))
theorem inX0 : ∀ w ∈ wsX00, w ∈ lw_tbl := fun w h => wsL_law_in w (inlX0 w h)
theorem inlX1 : ∀ w ∈ wsX10, w ∈ wsL_law := fun _ h => List.mem_append_left _ (List.mem_append_left _ (List.mem_append_left _ (List.mem_append_left _ (List.mem_append_left _ (List.mem_append_left _ (List.mem_append_left _ (List.mem_append_left _ (List.mem_append_left _ (List.mem_append_right _ h)))))))))
theorem inX1 : ∀ w ∈ wsX10, w ∈ lw_tbl := fun w h => wsL_law_in w (inlX1 w h)
theorem inlX2 : ∀ w ∈ wsX20, w ∈ wsL_law := fun _ h => List.mem_append_left _ (List.mem_append_left _ (List.mem_append_left _ (List.mem_append_left _ (List.mem_append_left _ (List.mem_append_left _ (List.mem_append_left _ (List.mem_append_right _ h)))))))
theorem inX2 : ∀ w ∈ wsX20, w ∈ lw_tbl := fun w h => wsL_law_in w (inlX2 w h)
theorem inlX3 : ∀ w ∈ wsX30, w ∈ wsL_law := fun _ h => List.mem_append_left _ (List.mem_append_left _ (List.mem_append_left _ (List.mem_append_left _ (List.mem_append_left _ (List.mem_append_left _ (List.mem_append_left _ (List.mem_append_left _ (List.mem_append_right _ h))))))))
theorem inX3 : ∀ w ∈ wsX30, w ∈ lw_tbl := fun w h => wsL_law_in w (inlX3 w h)
theorem inlX4 : ∀ w ∈ wsX40, w ∈ wsL_law := fun _ h => List.mem_append_left _ (List.mem_append_left _ (List.mem_append_left _ (List.mem_append_left _ (List.mem_append_left _ (List.mem_append_left _ (List.mem_append_right _ h))))))
theorem inX4 : ∀ w ∈ wsX40, w ∈ lw_tbl := fun w h => wsL_law_in w (inlX4 w h)
theorem inlX5 : ∀ w ∈ wsX50, w ∈ wsL_law := fun _ h => List.mem_append_left _ (List.mem_append_left _ (List.mem_append_left _ (List.mem_append_left _ (List.mem_append_left _ (List.mem_append_right _ h)))))
theorem inX5 : ∀ w ∈ wsX50, w ∈ lw_tbl := fun w h => wsL_law_in w (inlX5 w h)
theorem inlX6 : ∀ w ∈ wsX60, w ∈ wsL_law := fun _ h => List.mem_append_left _ (List.mem_append_left _ (List.mem_append_left _ (List.mem_append_left _ (List.mem_append_left _ (List.mem_append_left _ (List.mem_append_left _ (List.mem_append_left _ (List.mem_append_left _ (List.mem_append_left _ (List.mem_append_left _ (List.mem_append_right _ h)))))))))))
theorem inX6 : ∀ w ∈ wsX60, w ∈ lw_tbl := fun w h => wsL_law_in w (inlX6 w h)
theorem inlX7 : ∀ w ∈ wsX70, w ∈ wsL_law := fun _ h => List.mem_append_left _ (List.mem_append_left _ (List.mem_append_left _ (List.mem_append_left _ (List.mem_append_left _ (List.mem_append_left _ (List.mem_append_left _ (List.mem_append_left _ (List.mem_append_left _ (List.mem_append_left _ (List.mem_append_right _ h))))))))))
theorem inX7 : ∀ w ∈ wsX70, w ∈ lw_tbl := fun w h => wsL_law_in w (inlX7 w h)
