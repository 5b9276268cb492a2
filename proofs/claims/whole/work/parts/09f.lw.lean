theorem lw_i12 : ∀ w ∈ wsL_law0_r12, w ∈ lw_tbl := by decide +kernel
theorem lw_i13 : ∀ w ∈ wsL_law0_r13, w ∈ lw_tbl := by decide +kernel
theorem lw_i14 : ∀ w ∈ wsL_law0_r14, w ∈ lw_tbl := by decide +kernel
theorem lw_i15 : ∀ w ∈ wsL_law0_r15, w ∈ lw_tbl := by decide +kernel
theorem lw_i16 : ∀ w ∈ wsL_law0_r16, w ∈ lw_tbl := by decide +kernel
theorem lw_i17 : ∀ w ∈ wsL_law0_r17, w ∈ lw_tbl := by decide +kernel
theorem lw_i18 : ∀ w ∈ wsL_law0_r18, w ∈ lw_tbl := by decide +kernel
theorem lw_i19 : ∀ w ∈ wsL_law0_r19, w ∈ lw_tbl := by decide +kernel
theorem lw_i20 : ∀ w ∈ wsL_law0_r20, w ∈ lw_tbl := by decide +kernel
theorem lw_i21 : ∀ w ∈ wsL_law0_r21, w ∈ lw_tbl := by decide +kernel
theorem lw_i22 : ∀ w ∈ wsL_law0_r22, w ∈ lw_tbl := by decide +kernel
theorem lw_jX3 : ∀ w ∈ wsX30, w ∈ lw_tbl := by decide +kernel
theorem lw_jX4 : ∀ w ∈ wsX40, w ∈ lw_tbl := by decide +kernel
theorem lw_jX0 : ∀ w ∈ wsX00, w ∈ lw_tbl := by decide +kernel
theorem lw_jX1 : ∀ w ∈ wsX10, w ∈ lw_tbl := by decide +kernel
theorem lw_jX2 : ∀ w ∈ wsX20, w ∈ lw_tbl := by decide +kernel
theorem wsL_law_in0 : ∀ w ∈ wsL_law0, w ∈ lw_tbl := List.forall_mem_append.mpr ⟨List.forall_mem_append.mpr ⟨List.forall_mem_append.mpr ⟨List.forall_mem_append.mpr ⟨List.forall_mem_append.mpr ⟨List.forall_mem_append.mpr ⟨List.forall_mem_append.mpr ⟨lw_i1, List.forall_mem_append.mpr ⟨lw_i2, List.forall_mem_append.mpr ⟨lw_i3, List.forall_mem_append.mpr ⟨lw_i4, List.forall_mem_append.mpr ⟨lw_i5, List.forall_mem_append.mpr ⟨lw_i6, List.forall_mem_append.mpr ⟨lw_i7, List.forall_mem_append.mpr ⟨lw_i8, List.forall_mem_append.mpr ⟨lw_i9, List.forall_mem_append.mpr ⟨lw_i10, List.forall_mem_append.mpr ⟨lw_i11, List.forall_mem_append.mpr ⟨lw_i12, List.forall_mem_append.mpr ⟨lw_i13, List.forall_mem_append.mpr ⟨lw_i14, List.forall_mem_append.mpr ⟨lw_i15, List.forall_mem_append.mpr ⟨lw_i16, List.forall_mem_append.mpr ⟨lw_i17, List.forall_mem_append.mpr ⟨lw_i18, List.forall_mem_append.mpr ⟨lw_i19, List.forall_mem_append.mpr ⟨lw_i20, List.forall_mem_append.mpr ⟨lw_i21, lw_i22⟩⟩⟩⟩⟩⟩⟩⟩⟩⟩⟩⟩⟩⟩⟩⟩⟩⟩⟩⟩⟩, lw_jX3⟩, lw_jX4⟩, lw_jX0⟩, lw_jX1⟩, lw_jX2⟩, fun _ h => absurd h List.not_mem_nil⟩
theorem wsL_law_x0 : ∀ w ∈ (vx_at0 RX3 46 "java/lang/IllegalArgumentException" ["java/lang/RuntimeException", "java/lang/Exception"]).filter goodWord, w ∈ lw_tbl := by decide +kernel
theorem wsL_law_x1 : ∀ w ∈ (vx_at0 RX3 49 "java/lang/ArithmeticException" ["java/lang/RuntimeException", "java/lang/Exception"]).filter goodWord, w ∈ lw_tbl := by decide +kernel
theorem wsL_law_x2 : ∀ w ∈ (vx_at0 RX3 59 "java/util/NoSuchElementException" ["java/lang/RuntimeException", "java/lang/Exception"]).filter goodWord, w ∈ lw_tbl := by decide +kernel
theorem wsL_law_in : ∀ w ∈ wsL_law, w ∈ lw_tbl := fun w h => (List.mem_append.mp h).elim (fun h => (List.mem_append.mp h).elim (fun h => (List.mem_append.mp h).elim (fun h => wsL_law_in0 w h) (fun h => wsL_law_x0 w h)) (fun h => wsL_law_x1 w h)) (fun h => wsL_law_x2 w h)
theorem inlX0 : ∀ w ∈ wsX00, w ∈ wsL_law := fun _ h => List.mem_append_left _ (List.mem_append_left _ (List.mem_append_left _ (List.mem_append_left _ (List.mem_append_left _ (List.mem_append_left _ (List.mem_append_right _ h))))))
theorem inX0 : ∀ w ∈ wsX00, w ∈ lw_tbl := fun w h => wsL_law_in w (inlX0 w h)
theorem inlX1 : ∀ w ∈ wsX10, w ∈ wsL_law := fun _ h => List.mem_append_left _ (List.mem_append_left _ (List.mem_append_left _ (List.mem_append_left _ (List.mem_append_left _ (List.mem_append_right _ h)))))
theorem inX1 : ∀ w ∈ wsX10, w ∈ lw_tbl := fun w h => wsL_law_in w (inlX1 w h)
theorem inlX2 : ∀ w ∈ wsX20, w ∈ wsL_law := fun _ h => List.mem_append_left _ (List.mem_append_left _ (List.mem_append_left _ (List.mem_append_left _ (List.mem_append_right _ h))))
theorem inX2 : ∀ w ∈ wsX20, w ∈ lw_tbl := fun w h => wsL_law_in w (inlX2 w h)
theorem inlX3 : ∀ w ∈ wsX30, w ∈ wsL_law := fun _ h => List.mem_append_left _ (List.mem_append_left _ (List.mem_append_left _ (List.mem_append_left _ (List.mem_append_left _ (List.mem_append_left _ (List.mem_append_left _ (List.mem_append_left _ (List.mem_append_right _ h))))))))
theorem inX3 : ∀ w ∈ wsX30, w ∈ lw_tbl := fun w h => wsL_law_in w (inlX3 w h)
theorem inlX4 : ∀ w ∈ wsX40, w ∈ wsL_law := fun _ h => List.mem_append_left _ (List.mem_append_left _ (List.mem_append_left _ (List.mem_append_left _ (List.mem_append_left _ (List.mem_append_left _ (List.mem_append_left _ (List.mem_append_right _ h)))))))
theorem inX4 : ∀ w ∈ wsX40, w ∈ lw_tbl := fun w h => wsL_law_in w (inlX4 w h)
theorem inJ9 : ∀ w ∈ wsJ90, w ∈ lw_tbl := by decide +kernel
