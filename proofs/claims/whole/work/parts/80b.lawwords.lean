theorem wsL_wsX40_in : ∀ w ∈ wsX40, w ∈ lw_tbl := by decide +kernel
theorem wsL_wsX50_in : ∀ w ∈ wsX50, w ∈ lw_tbl := by decide +kernel
theorem wsL_wsX30_in : ∀ w ∈ wsX30, w ∈ lw_tbl := by decide +kernel
theorem wsL_wsX20_in : ∀ w ∈ wsX20, w ∈ lw_tbl := by decide +kernel
theorem wsL_wsX00_in : ∀ w ∈ wsX00, w ∈ lw_tbl := by decide +kernel
theorem wsL_wsX10_in : ∀ w ∈ wsX10, w ∈ lw_tbl := by decide +kernel
theorem wsL_law_in0 : ∀ w ∈ wsL_law0, w ∈ lw_tbl := by
  intro w h
  unfold wsL_law0 at h
  rcases List.mem_append.mp h with h | h
  rotate_left
  · exact absurd h List.not_mem_nil
  rcases List.mem_append.mp h with h | h
  rotate_left
  · exact wsL_wsX10_in w h
  rcases List.mem_append.mp h with h | h
  rotate_left
  · exact wsL_wsX00_in w h
  rcases List.mem_append.mp h with h | h
  rotate_left
  · exact wsL_wsX20_in w h
  rcases List.mem_append.mp h with h | h
  rotate_left
  · exact wsL_wsX30_in w h
  rcases List.mem_append.mp h with h | h
  rotate_left
  · exact wsL_wsX50_in w h
  rcases List.mem_append.mp h with h | h
  rotate_left
  · exact wsL_wsX40_in w h
  rcases List.mem_append.mp h with h | h
  · exact wsL_law_r1_in w h
  rcases List.mem_append.mp h with h | h
  · exact wsL_law_r2_in w h
  rcases List.mem_append.mp h with h | h
  · exact wsL_law_r3_in w h
  rcases List.mem_append.mp h with h | h
  · exact wsL_law_r4_in w h
  rcases List.mem_append.mp h with h | h
  · exact wsL_law_r5_in w h
  rcases List.mem_append.mp h with h | h
  · exact wsL_law_r6_in w h
  rcases List.mem_append.mp h with h | h
  · exact wsL_law_r7_in w h
  rcases List.mem_append.mp h with h | h
  · exact wsL_law_r8_in w h
  rcases List.mem_append.mp h with h | h
  · exact wsL_law_r9_in w h
  rcases List.mem_append.mp h with h | h
  · exact wsL_law_r10_in w h
  rcases List.mem_append.mp h with h | h
  · exact wsL_law_r11_in w h
  rcases List.mem_append.mp h with h | h
  · exact wsL_law_r12_in w h
  rcases List.mem_append.mp h with h | h
  · exact wsL_law_r13_in w h
  rcases List.mem_append.mp h with h | h
  · exact wsL_law_r14_in w h
  rcases List.mem_append.mp h with h | h
  · exact wsL_law_r15_in w h
  rcases List.mem_append.mp h with h | h
  · exact wsL_law_r16_in w h
  rcases List.mem_append.mp h with h | h
  · exact wsL_law_r17_in w h
  rcases List.mem_append.mp h with h | h
  · exact wsL_law_r18_in w h
  rcases List.mem_append.mp h with h | h
  · exact wsL_law_r19_in w h
  rcases List.mem_append.mp h with h | h
  · exact wsL_law_r20_in w h
  rcases List.mem_append.mp h with h | h
  · exact wsL_law_r21_in w h
  rcases List.mem_append.mp h with h | h
  · exact wsL_law_r22_in w h
  exact wsL_law_r23_in w h
theorem wsL_law_x0 : ∀ w ∈ (vx_at0 RX4 176 "java/lang/IllegalArgumentException" ["java/lang/RuntimeException", "java/lang/Exception"]).filter goodWord, w ∈ lw_tbl := by decide +kernel
theorem wsL_law_x1 : ∀ w ∈ (vx_at0 RX4 173 "java/lang/IndexOutOfBoundsException" ["java/lang/RuntimeException", "java/lang/Exception"]).filter goodWord, w ∈ lw_tbl := by decide +kernel
theorem wsL_law_in : ∀ w ∈ wsL_law, w ∈ lw_tbl := fun w h => (List.mem_append.mp h).elim (fun h => (List.mem_append.mp h).elim (fun h => wsL_law_in0 w h) (fun h => wsL_law_x0 w h)) (fun h => wsL_law_x1 w h)
theorem inlX0 : ∀ w ∈ wsX00, w ∈ wsL_law := fun _ h => List.mem_append_left _ (List.mem_append_left _ (List.mem_append_left _ (List.mem_append_left _ (List.mem_append_right _ h))))
theorem inX0 : ∀ w ∈ wsX00, w ∈ lw_tbl := fun w h => wsL_law_in w (inlX0 w h)
theorem inlX1 : ∀ w ∈ wsX10, w ∈ wsL_law := fun _ h => List.mem_append_left _ (List.mem_append_left _ (List.mem_append_left _ (List.mem_append_right _ h)))
theorem inX1 : ∀ w ∈ wsX10, w ∈ lw_tbl := fun w h => wsL_law_in w (inlX1 w h)
theorem inlX2 : ∀ w ∈ wsX20, w ∈ wsL_law := fun _ h => List.mem_append_left _ (List.mem_append_left _ (List.mem_append_left _ (List.mem_append_left _ (List.mem_append_left _ (List.mem_append_right _ h)))))
theorem inX2 : ∀ w ∈ wsX20, w ∈ lw_tbl := fun w h => wsL_law_in w (inlX2 w h)
theorem inlX3 : ∀ w ∈ wsX30, w ∈ wsL_law := fun _ h => List.mem_append_left _ (List.mem_append_left _ (List.mem_append_left _ (List.mem_append_left _ (List.mem_append_left _ (List.mem_append_left _ (List.mem_append_right _ h))))))
theorem inX3 : ∀ w ∈ wsX30, w ∈ lw_tbl := fun w h => wsL_law_in w (inlX3 w h)
theorem inlX4 : ∀ w ∈ wsX40, w ∈ wsL_law := fun _ h => List.mem_append_left _ (List.mem_append_left _ (List.mem_append_left _ (List.mem_append_left _ (List.mem_append_left _ (List.mem_append_left _ (List.mem_append_left _ (List.mem_append_left _ (List.mem_append_right _ h))))))))
theorem inX4 : ∀ w ∈ wsX40, w ∈ lw_tbl := fun w h => wsL_law_in w (inlX4 w h)
theorem inlX5 : ∀ w ∈ wsX50, w ∈ wsL_law := fun _ h => List.mem_append_left _ (List.mem_append_left _ (List.mem_append_left _ (List.mem_append_left _ (List.mem_append_left _ (List.mem_append_left _ (List.mem_append_left _ (List.mem_append_right _ h)))))))
theorem inX5 : ∀ w ∈ wsX50, w ∈ lw_tbl := fun w h => wsL_law_in w (inlX5 w h)
theorem inJ9 : ∀ w ∈ wsJ90, w ∈ lw_tbl := by decide +kernel
