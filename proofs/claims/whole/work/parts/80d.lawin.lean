set_option maxRecDepth 20000 in
theorem wsL_in_X9 : ∀ w ∈ wsX90, w ∈ lw_tbl := in_r _ [323, 325, 327, 329, 331, 333, 335, 337, 339, 341] (by decide +kernel)
set_option maxRecDepth 20000 in
theorem wsL_in_X10 : ∀ w ∈ wsX100, w ∈ lw_tbl := in_r _ [803, 805, 807, 809, 811, 813, 815, 817, 819, 821, 823, 825, 827, 829, 831, 833, 835, 837, 839, 841, 843, 845, 847, 849, 851, 853, 855, 857, 859, 861, 863, 865, 867] (by decide +kernel)
set_option maxRecDepth 20000 in
theorem wsL_in_X0 : ∀ w ∈ wsX00, w ∈ lw_tbl := in_r _ [128, 130, 132, 134, 136, 138] (by decide +kernel)
set_option maxRecDepth 20000 in
theorem wsL_in_X4 : ∀ w ∈ wsX40, w ∈ lw_tbl := in_r _ [158, 160, 162] (by decide +kernel)
set_option maxRecDepth 20000 in
theorem wsL_in_X5 : ∀ w ∈ wsX50, w ∈ lw_tbl := in_r _ [176, 178, 180, 182, 184] (by decide +kernel)
set_option maxRecDepth 20000 in
theorem wsL_in_X3 : ∀ w ∈ wsX30, w ∈ lw_tbl := in_r _ [203, 205, 207, 209, 211, 213, 215] (by decide +kernel)
set_option maxRecDepth 20000 in
theorem wsL_in_X2 : ∀ w ∈ wsX20, w ∈ lw_tbl := in_r _ [231, 233, 235, 237, 239] (by decide +kernel)
set_option maxRecDepth 20000 in
theorem wsL_in_X6 : ∀ w ∈ wsX60, w ∈ lw_tbl := in_r _ [252, 254, 256] (by decide +kernel)
set_option maxRecDepth 20000 in
theorem wsL_in_X8 : ∀ w ∈ wsX80, w ∈ lw_tbl := in_r _ [268, 270, 272] (by decide +kernel)
set_option maxRecDepth 20000 in
theorem wsL_in_X1 : ∀ w ∈ wsX10, w ∈ lw_tbl := in_r _ [286, 288] (by decide +kernel)
set_option maxRecDepth 20000 in
theorem wsL_in_X7 : ∀ w ∈ wsX70, w ∈ lw_tbl := in_r _ [304, 306, 308, 310] (by decide +kernel)
theorem wsL_law_in : ∀ w ∈ wsL_law, w ∈ lw_tbl := by
  intro w h
  unfold wsL_law at h
  have h := (List.mem_append.mp h).resolve_right (fun z => absurd z List.not_mem_nil)
  rcases (List.mem_append.mp h) with h | h9
  rotate_left
  · exact wsL_in_X7 w h9
  rcases (List.mem_append.mp h) with h | h9
  rotate_left
  · exact wsL_in_X1 w h9
  rcases (List.mem_append.mp h) with h | h9
  rotate_left
  · exact wsL_in_X8 w h9
  rcases (List.mem_append.mp h) with h | h9
  rotate_left
  · exact wsL_in_X6 w h9
  rcases (List.mem_append.mp h) with h | h9
  rotate_left
  · exact wsL_in_X2 w h9
  rcases (List.mem_append.mp h) with h | h9
  rotate_left
  · exact wsL_in_X3 w h9
  rcases (List.mem_append.mp h) with h | h9
  rotate_left
  · exact wsL_in_X5 w h9
  rcases (List.mem_append.mp h) with h | h9
  rotate_left
  · exact wsL_in_X4 w h9
  rcases (List.mem_append.mp h) with h | h9
  rotate_left
  · exact wsL_in_X0 w h9
  rcases (List.mem_append.mp h) with h | h9
  rotate_left
  · exact wsL_in_X10 w h9
  rcases (List.mem_append.mp h) with h | h9
  rotate_left
  · exact wsL_in_X9 w h9
  rcases (List.mem_append.mp h) with h9 | h
  · exact wsL_in_1 w h9
  rcases (List.mem_append.mp h) with h9 | h
  · exact wsL_in_2 w h9
  rcases (List.mem_append.mp h) with h9 | h
  · exact wsL_in_3 w h9
  rcases (List.mem_append.mp h) with h9 | h
  · exact wsL_in_4 w h9
  rcases (List.mem_append.mp h) with h9 | h
  · exact wsL_in_5 w h9
  rcases (List.mem_append.mp h) with h9 | h
  · exact wsL_in_6 w h9
  rcases (List.mem_append.mp h) with h9 | h
  · exact wsL_in_7 w h9
  rcases (List.mem_append.mp h) with h9 | h
  · exact wsL_in_8 w h9
  rcases (List.mem_append.mp h) with h9 | h
  · exact wsL_in_9 w h9
  rcases (List.mem_append.mp h) with h9 | h
  · exact wsL_in_10 w h9
  rcases (List.mem_append.mp h) with h9 | h
  · exact wsL_in_11 w h9
  rcases (List.mem_append.mp h) with h9 | h
  · exact wsL_in_12 w h9
  rcases (List.mem_append.mp h) with h9 | h
  · exact wsL_in_13 w h9
  rcases (List.mem_append.mp h) with h9 | h
  · exact wsL_in_14 w h9
  rcases (List.mem_append.mp h) with h9 | h
  · exact wsL_in_15 w h9
  rcases (List.mem_append.mp h) with h9 | h
  · exact wsL_in_16 w h9
  rcases (List.mem_append.mp h) with h9 | h
  · exact wsL_in_17 w h9
  rcases (List.mem_append.mp h) with h9 | h
  · exact wsL_in_18 w h9
  rcases (List.mem_append.mp h) with h9 | h
  · exact wsL_in_19 w h9
  rcases (List.mem_append.mp h) with h9 | h
  · exact wsL_in_20 w h9
  rcases (List.mem_append.mp h) with h9 | h
  · exact wsL_in_21 w h9
  rcases (List.mem_append.mp h) with h9 | h
  · exact wsL_in_22 w h9
  rcases (List.mem_append.mp h) with h9 | h
  · exact wsL_in_23 w h9
  rcases (List.mem_append.mp h) with h9 | h
  · exact wsL_in_24 w h9
  rcases (List.mem_append.mp h) with h9 | h
  · exact wsL_in_25 w h9
  rcases (List.mem_append.mp h) with h9 | h
  · exact wsL_in_26 w h9
  rcases (List.mem_append.mp h) with h9 | h
  · exact wsL_in_27 w h9
  rcases (List.mem_append.mp h) with h9 | h
  · exact wsL_in_28 w h9
  rcases (List.mem_append.mp h) with h9 | h
  · exact wsL_in_29 w h9
  rcases (List.mem_append.mp h) with h9 | h
  · exact wsL_in_30 w h9
  rcases (List.mem_append.mp h) with h9 | h
  · exact wsL_in_31 w h9
  exact wsL_in_32 w h
theorem inlX0 : ∀ w ∈ wsX00, w ∈ wsL_law := fun _ h => List.mem_append_left _ (List.mem_append_left _ (List.mem_append_left _ (List.mem_append_left _ (List.mem_append_left _ (List.mem_append_left _ (List.mem_append_left _ (List.mem_append_left _ (List.mem_append_left _ (List.mem_append_right _ h)))))))))
theorem inX0 : ∀ w ∈ wsX00, w ∈ lw_tbl := fun w h => wsL_law_in w (inlX0 w h)
theorem inlX1 : ∀ w ∈ wsX10, w ∈ wsL_law := fun _ h => List.mem_append_left _ (List.mem_append_left _ (List.mem_append_right _ h))
theorem inX1 : ∀ w ∈ wsX10, w ∈ lw_tbl := fun w h => wsL_law_in w (inlX1 w h)
theorem inlX2 : ∀ w ∈ wsX20, w ∈ wsL_law := fun _ h => List.mem_append_left _ (List.mem_append_left _ (List.mem_append_left _ (List.mem_append_left _ (List.mem_append_left _ (List.mem_append_right _ h)))))
theorem inX2 : ∀ w ∈ wsX20, w ∈ lw_tbl := fun w h => wsL_law_in w (inlX2 w h)
theorem inlX3 : ∀ w ∈ wsX30, w ∈ wsL_law := fun _ h => List.mem_append_left _ (List.mem_append_left _ (List.mem_append_left _ (List.mem_append_left _ (List.mem_append_left _ (List.mem_append_left _ (List.mem_append_right _ h))))))
theorem inX3 : ∀ w ∈ wsX30, w ∈ lw_tbl := fun w h => wsL_law_in w (inlX3 w h)
theorem inlX4 : ∀ w ∈ wsX40, w ∈ wsL_law := fun _ h => List.mem_append_left _ (List.mem_append_left _ (List.mem_append_left _ (List.mem_append_left _ (List.mem_append_left _ (List.mem_append_left _ (List.mem_append_left _ (List.mem_append_left _ (List.mem_append_right _ h))))))))
theorem inX4 : ∀ w ∈ wsX40, w ∈ lw_tbl := fun w h => wsL_law_in w (inlX4 w h)
theorem inlX5 : ∀ w ∈ wsX50, w ∈ wsL_law := fun _ h => List.mem_append_left _ (List.mem_append_left _ (List.mem_append_left _ (List.mem_append_left _ (List.mem_append_left _ (List.mem_append_left _ (List.mem_append_left _ (List.mem_append_right _ h)))))))
theorem inX5 : ∀ w ∈ wsX50, w ∈ lw_tbl := fun w h => wsL_law_in w (inlX5 w h)
theorem inlX6 : ∀ w ∈ wsX60, w ∈ wsL_law := fun _ h => List.mem_append_left _ (List.mem_append_left _ (List.mem_append_left _ (List.mem_append_left _ (List.mem_append_right _ h))))
theorem inX6 : ∀ w ∈ wsX60, w ∈ lw_tbl := fun w h => wsL_law_in w (inlX6 w h)
theorem inlX7 : ∀ w ∈ wsX70, w ∈ wsL_law := fun _ h => List.mem_append_left _ (List.mem_append_right _ h)
theorem inX7 : ∀ w ∈ wsX70, w ∈ lw_tbl := fun w h => wsL_law_in w (inlX7 w h)
theorem inlX8 : ∀ w ∈ wsX80, w ∈ wsL_law := fun _ h => List.mem_append_left _ (List.mem_append_left _ (List.mem_append_left _ (List.mem_append_right _ h)))
theorem inX8 : ∀ w ∈ wsX80, w ∈ lw_tbl := fun w h => wsL_law_in w (inlX8 w h)
theorem inlX9 : ∀ w ∈ wsX90, w ∈ wsL_law := fun _ h => List.mem_append_left _ (List.mem_append_left _ (List.mem_append_left _ (List.mem_append_left _ (List.mem_append_left _ (List.mem_append_left _ (List.mem_append_left _ (List.mem_append_left _ (List.mem_append_left _ (List.mem_append_left _ (List.mem_append_left _ (List.mem_append_right _ h)))))))))))
theorem inX9 : ∀ w ∈ wsX90, w ∈ lw_tbl := fun w h => wsL_law_in w (inlX9 w h)
theorem inlX10 : ∀ w ∈ wsX100, w ∈ wsL_law := fun _ h => List.mem_append_left _ (List.mem_append_left _ (List.mem_append_left _ (List.mem_append_left _ (List.mem_append_left _ (List.mem_append_left _ (List.mem_append_left _ (List.mem_append_left _ (List.mem_append_left _ (List.mem_append_left _ (List.mem_append_right _ h))))))))))
theorem inX10 : ∀ w ∈ wsX100, w ∈ lw_tbl := fun w h => wsL_law_in w (inlX10 w h)
set_option maxRecDepth 20000 in
theorem jNf_in : ∀ w ∈ jNf.map jkf, w ∈ lw_tbl := in_r _ [122, 127, 116, 154, 157, 200, 195, 202, 230, 228, 251, 283, 285, 300, 302, 298, 114, 125, 123, 153, 121, 115, 126, 297] (by decide +kernel)
set_option maxRecDepth 20000 in
theorem jNm_in : ∀ w ∈ jNm.map jkm, w ∈ lw_tbl := in_r _ [417, 429, 437, 445, 454, 465, 469, 477, 109, 534, 539, 551, 556, 582, 529, 593, 601, 605, 613, 625, 633, 641, 646, 658, 670, 145, 713, 725, 744, 758, 378, 708, 167, 189, 220, 244, 261, 278, 292, 359, 382, 513, 489, 493, 568, 573, 682, 739] (by decide +kernel)
