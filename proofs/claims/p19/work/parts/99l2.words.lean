/-! the law's words stand in the tables -/
theorem lin_r1 : ∀ w ∈ wsL_law0_r1, k2_isCode w = false → w ∈ lw_tbl := by decide +kernel
theorem lin_r2 : ∀ w ∈ wsL_law0_r2, k2_isCode w = false → w ∈ lw_tbl := by decide +kernel
theorem lin_r3 : ∀ w ∈ wsL_law0_r3, k2_isCode w = false → w ∈ lw_tbl := by decide +kernel
theorem lin_r4 : ∀ w ∈ wsL_law0_r4, k2_isCode w = false → w ∈ lw_tbl := by decide +kernel
theorem lin_r5 : ∀ w ∈ wsL_law0_r5, k2_isCode w = false → w ∈ lw_tbl := by decide +kernel
theorem lin_r6 : ∀ w ∈ wsL_law0_r6, k2_isCode w = false → w ∈ lw_tbl := by decide +kernel
theorem lin_r7 : ∀ w ∈ wsL_law0_r7, k2_isCode w = false → w ∈ lw_tbl := by decide +kernel
theorem lin_r8 : ∀ w ∈ wsL_law0_r8, k2_isCode w = false → w ∈ lw_tbl := by decide +kernel
theorem lin_r9 : ∀ w ∈ wsL_law0_r9, k2_isCode w = false → w ∈ lw_tbl := by decide +kernel
theorem lin_r10 : ∀ w ∈ wsL_law0_r10, k2_isCode w = false → w ∈ lw_tbl := by decide +kernel
theorem lin_r11 : ∀ w ∈ wsL_law0_r11, k2_isCode w = false → w ∈ lw_tbl := by decide +kernel
theorem lin_r12 : ∀ w ∈ wsL_law0_r12, k2_isCode w = false → w ∈ lw_tbl := by decide +kernel
theorem lin_r13 : ∀ w ∈ wsL_law0_r13, k2_isCode w = false → w ∈ lw_tbl := by decide +kernel
theorem lin_r14 : ∀ w ∈ wsL_law0_r14, k2_isCode w = false → w ∈ lw_tbl := by decide +kernel
theorem lin_r15 : ∀ w ∈ wsL_law0_r15, k2_isCode w = false → w ∈ lw_tbl := by decide +kernel
theorem lin_r16 : ∀ w ∈ wsL_law0_r16, k2_isCode w = false → w ∈ lw_tbl := by decide +kernel
theorem lin_r17 : ∀ w ∈ wsL_law0_r17, k2_isCode w = false → w ∈ lw_tbl := by decide +kernel
theorem lin_r18 : ∀ w ∈ wsL_law0_r18, k2_isCode w = false → w ∈ lw_tbl := by decide +kernel
theorem lin_r19 : ∀ w ∈ wsL_law0_r19, k2_isCode w = false → w ∈ lw_tbl := by decide +kernel
theorem lin_wsX60 : ∀ w ∈ wsX60, k2_isCode w = false → w ∈ lw_tbl := by decide +kernel
theorem lin_wsX10 : ∀ w ∈ wsX10, k2_isCode w = false → w ∈ lw_tbl := by decide +kernel
theorem lin_wsX30 : ∀ w ∈ wsX30, k2_isCode w = false → w ∈ lw_tbl := by decide +kernel
theorem lin_wsX20 : ∀ w ∈ wsX20, k2_isCode w = false → w ∈ lw_tbl := by decide +kernel
theorem lin_wsX40 : ∀ w ∈ wsX40, k2_isCode w = false → w ∈ lw_tbl := by decide +kernel
theorem lin_wsX50 : ∀ w ∈ wsX50, k2_isCode w = false → w ∈ lw_tbl := by decide +kernel
theorem lin_wsX00 : ∀ w ∈ wsX00, k2_isCode w = false → w ∈ lw_tbl := by decide +kernel
set_option maxRecDepth 20000 in
theorem lin_n : ∀ w ∈ wsL_law0, k2_isCode w = false → w ∈ lw_tbl := (fun w h => (List.mem_append.mp h).elim ((fun w h => (List.mem_append.mp h).elim ((fun w h => (List.mem_append.mp h).elim ((fun w h => (List.mem_append.mp h).elim ((fun w h => (List.mem_append.mp h).elim ((fun w h => (List.mem_append.mp h).elim ((fun w h => (List.mem_append.mp h).elim ((fun w h => (List.mem_append.mp h).elim ((fun w h => (List.mem_append.mp h).elim (lin_r1 w) ((fun w h => (List.mem_append.mp h).elim (lin_r2 w) ((fun w h => (List.mem_append.mp h).elim (lin_r3 w) ((fun w h => (List.mem_append.mp h).elim (lin_r4 w) ((fun w h => (List.mem_append.mp h).elim (lin_r5 w) ((fun w h => (List.mem_append.mp h).elim (lin_r6 w) ((fun w h => (List.mem_append.mp h).elim (lin_r7 w) ((fun w h => (List.mem_append.mp h).elim (lin_r8 w) ((fun w h => (List.mem_append.mp h).elim (lin_r9 w) ((fun w h => (List.mem_append.mp h).elim (lin_r10 w) ((fun w h => (List.mem_append.mp h).elim (lin_r11 w) ((fun w h => (List.mem_append.mp h).elim (lin_r12 w) ((fun w h => (List.mem_append.mp h).elim (lin_r13 w) ((fun w h => (List.mem_append.mp h).elim (lin_r14 w) ((fun w h => (List.mem_append.mp h).elim (lin_r15 w) ((fun w h => (List.mem_append.mp h).elim (lin_r16 w) ((fun w h => (List.mem_append.mp h).elim (lin_r17 w) ((fun w h => (List.mem_append.mp h).elim (lin_r18 w) (lin_r19 w)) w)) w)) w)) w)) w)) w)) w)) w)) w)) w)) w)) w)) w)) w)) w)) w)) w)) w) (lin_wsX60 w)) w) (lin_wsX10 w)) w) (lin_wsX30 w)) w) (lin_wsX20 w)) w) (lin_wsX40 w)) w) (lin_wsX50 w)) w) (lin_wsX00 w)) w) ((fun w h => absurd h List.not_mem_nil) w))
set_option maxRecDepth 20000 in
theorem lin_c : wsL_law0.filter k2_isCode = ([22, 25, 57, 129, 133, 152, 171, 175, 180, 186, 192, 233, 237, 241, 245, 251, 314, 364, 368, 373, 377, 381, 386, 391, 396, 400, 404, 408, 413, 417, 420, 423, 426, 430, 436, 440, 444, 449, 455, 458, 463, 467, 472, 475, 479, 482, 488, 494, 500, 505, 511, 515, 519, 527, 531, 535, 540, 544, 548, 553, 559, 568, 574, 578, 583, 591, 597, 601, 605, 610, 46, 638, 641, 616, 619, 622, 629, 613, 635] : List Nat).filterMap (fun i => lw_tbl[i]?) := rfl
theorem wsL_law_in0 : ∀ w ∈ wsL_law0, w ∈ lw_tbl := fun w h => by
  by_cases hc : k2_isCode w = true
  · have h1 : w ∈ wsL_law0.filter k2_isCode := List.mem_filter.mpr ⟨h, hc⟩
    rw [lin_c] at h1
    obtain ⟨i, -, hi⟩ := List.mem_filterMap.mp h1
    exact List.mem_of_getElem? hi
  · exact lin_n w h (by simpa using hc)
theorem wsL_law_x0 : ∀ w ∈ (vx_atS RX6 28 "java/lang/IllegalStateException" ["java/lang/RuntimeException", "java/lang/Exception"]).filter goodWord, w ∈ lw_tbl := by decide +kernel
theorem wsL_law_x1 : ∀ w ∈ (vx_atS RX6 194 "java/lang/IndexOutOfBoundsException" ["java/lang/RuntimeException", "java/lang/Exception"]).filter goodWord, w ∈ lw_tbl := by decide +kernel
theorem wsL_law_x2 : ∀ w ∈ (vx_atS RX6 207 "java/lang/IllegalArgumentException" ["java/lang/RuntimeException", "java/lang/Exception"]).filter goodWord, w ∈ lw_tbl := by decide +kernel
theorem wsL_law_in : ∀ w ∈ wsL_law, w ∈ lw_tbl := fun w h => (List.mem_append.mp h).elim (fun h => (List.mem_append.mp h).elim (fun h => (List.mem_append.mp h).elim (fun h => wsL_law_in0 w h) (fun h => wsL_law_x0 w h)) (fun h => wsL_law_x1 w h)) (fun h => wsL_law_x2 w h)
theorem inlX0 : ∀ w ∈ wsX00, w ∈ wsL_law := fun _ h => List.mem_append_left _ (List.mem_append_left _ (List.mem_append_left _ (List.mem_append_left _ (List.mem_append_right _ h))))
theorem inX0 : ∀ w ∈ wsX00, w ∈ lw_tbl := fun w h => wsL_law_in w (inlX0 w h)
theorem inlX1 : ∀ w ∈ wsX10, w ∈ wsL_law := fun _ h => List.mem_append_left _ (List.mem_append_left _ (List.mem_append_left _ (List.mem_append_left _ (List.mem_append_left _ (List.mem_append_left _ (List.mem_append_left _ (List.mem_append_left _ (List.mem_append_left _ (List.mem_append_right _ h)))))))))
theorem inX1 : ∀ w ∈ wsX10, w ∈ lw_tbl := fun w h => wsL_law_in w (inlX1 w h)
theorem inlX2 : ∀ w ∈ wsX20, w ∈ wsL_law := fun _ h => List.mem_append_left _ (List.mem_append_left _ (List.mem_append_left _ (List.mem_append_left _ (List.mem_append_left _ (List.mem_append_left _ (List.mem_append_left _ (List.mem_append_right _ h)))))))
theorem inX2 : ∀ w ∈ wsX20, w ∈ lw_tbl := fun w h => wsL_law_in w (inlX2 w h)
theorem inlX3 : ∀ w ∈ wsX30, w ∈ wsL_law := fun _ h => List.mem_append_left _ (List.mem_append_left _ (List.mem_append_left _ (List.mem_append_left _ (List.mem_append_left _ (List.mem_append_left _ (List.mem_append_left _ (List.mem_append_left _ (List.mem_append_right _ h))))))))
theorem inX3 : ∀ w ∈ wsX30, w ∈ lw_tbl := fun w h => wsL_law_in w (inlX3 w h)
theorem inlX4 : ∀ w ∈ wsX40, w ∈ wsL_law := fun _ h => List.mem_append_left _ (List.mem_append_left _ (List.mem_append_left _ (List.mem_append_left _ (List.mem_append_left _ (List.mem_append_left _ (List.mem_append_right _ h))))))
theorem inX4 : ∀ w ∈ wsX40, w ∈ lw_tbl := fun w h => wsL_law_in w (inlX4 w h)
theorem inlX5 : ∀ w ∈ wsX50, w ∈ wsL_law := fun _ h => List.mem_append_left _ (List.mem_append_left _ (List.mem_append_left _ (List.mem_append_left _ (List.mem_append_left _ (List.mem_append_right _ h)))))
theorem inX5 : ∀ w ∈ wsX50, w ∈ lw_tbl := fun w h => wsL_law_in w (inlX5 w h)
theorem inlX6 : ∀ w ∈ wsX60, w ∈ wsL_law := fun _ h => List.mem_append_left _ (List.mem_append_left _ (List.mem_append_left _ (List.mem_append_left _ (List.mem_append_left _ (List.mem_append_left _ (List.mem_append_left _ (List.mem_append_left _ (List.mem_append_left _ (List.mem_append_left _ (List.mem_append_right _ h))))))))))
theorem inX6 : ∀ w ∈ wsX60, w ∈ lw_tbl := fun w h => wsL_law_in w (inlX6 w h)
