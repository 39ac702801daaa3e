theorem z_wsX90_in : ∀ w ∈ wsX90, w ∈ lw_tb2 := fun w h => (goodIn_r wsX90 [218, 220, 222, 224, 226, 228, 230, 232, 234] (by decide +kernel) (by decide +kernel) w h).1
theorem z_wsX20_in : ∀ w ∈ wsX20, w ∈ lw_tb2 := fun w h => (goodIn_r wsX20 [86, 88, 90, 92, 94, 96, 98, 100, 102, 104] (by decide +kernel) (by decide +kernel) w h).1
theorem z_wsX40_in : ∀ w ∈ wsX40, w ∈ lw_tb2 := fun w h => (goodIn_r wsX40 [120, 122, 124] (by decide +kernel) (by decide +kernel) w h).1
theorem z_wsX00_in : ∀ w ∈ wsX00, w ∈ lw_tb2 := fun w h => (goodIn_r wsX00 [134] (by decide +kernel) (by decide +kernel) w h).1
theorem z_wsX10_in : ∀ w ∈ wsX10, w ∈ lw_tb2 := fun w h => (goodIn_r wsX10 [144] (by decide +kernel) (by decide +kernel) w h).1
theorem z_wsX80_in : ∀ w ∈ wsX80, w ∈ lw_tb2 := fun w h => (goodIn_r wsX80 [162, 164, 166, 168, 170, 172, 174, 176] (by decide +kernel) (by decide +kernel) w h).1
theorem z_wsX30_in : ∀ w ∈ wsX30, w ∈ lw_tb2 := fun w h => (goodIn_r wsX30 [188, 190] (by decide +kernel) (by decide +kernel) w h).1
theorem z_wsX60_in : ∀ w ∈ wsX60, w ∈ lw_tb2 := fun w h => (goodIn_r wsX60 [202, 204, 206] (by decide +kernel) (by decide +kernel) w h).1
theorem z_wsJ00_in : ∀ w ∈ wsJ00, w ∈ lw_tb2 := fun w h => (goodIn_r wsJ00 [1146, 1148, 1150, 1152] (by decide +kernel) (by decide +kernel) w h).1
theorem z_wsJ40_in : ∀ w ∈ wsJ40, w ∈ lw_tb2 := fun w h => (goodIn_r wsJ40 [966, 968, 970, 972] (by decide +kernel) (by decide +kernel) w h).1
theorem wsL_law_in : ∀ w ∈ wsL_law, w ∈ lw_tb2 := ap_in (ap_in (ap_in (ap_in (ap_in (ap_in (ap_in (ap_in (ap_in (ap_in (ap_in (ap_in wsL_law_r1_in (ap_in wsL_law_r2_in (ap_in wsL_law_r3_in (ap_in wsL_law_r4_in (ap_in wsL_law_r5_in (ap_in wsL_law_r6_in (ap_in wsL_law_r7_in (ap_in wsL_law_r8_in (ap_in wsL_law_r9_in (ap_in wsL_law_r10_in (ap_in wsL_law_r11_in (ap_in wsL_law_r12_in (ap_in wsL_law_r13_in (ap_in wsL_law_r14_in (ap_in wsL_law_r15_in (ap_in wsL_law_r16_in (ap_in wsL_law_r17_in (ap_in wsL_law_r18_in (ap_in wsL_law_r19_in (ap_in wsL_law_r20_in (ap_in wsL_law_r21_in (ap_in wsL_law_r22_in (ap_in wsL_law_r23_in (ap_in wsL_law_r24_in (ap_in wsL_law_r25_in (ap_in wsL_law_r26_in (ap_in wsL_law_r27_in (ap_in wsL_law_r28_in (ap_in wsL_law_r29_in (ap_in wsL_law_r30_in (ap_in wsL_law_r31_in (ap_in wsL_law_r32_in (ap_in wsL_law_r33_in (ap_in wsL_law_r34_in (ap_in wsL_law_r35_in (ap_in wsL_law_r36_in (ap_in wsL_law_r37_in (ap_in wsL_law_r38_in (ap_in wsL_law_r39_in (ap_in wsL_law_r40_in (ap_in wsL_law_r41_in (ap_in wsL_law_r42_in (wsL_law_r43_in))))))))))))))))))))))))))))))))))))))))))) z_wsX90_in) z_wsX20_in) z_wsX40_in) z_wsX00_in) z_wsX10_in) z_wsX80_in) z_wsX30_in) z_wsX60_in) z_wsJ00_in) z_wsJ40_in) (fun _ h => nomatch h)
theorem inlX0 : ∀ w ∈ wsX00, w ∈ wsL_law := fun _ h => List.mem_append_left _ (List.mem_append_left _ (List.mem_append_left _ (List.mem_append_left _ (List.mem_append_left _ (List.mem_append_left _ (List.mem_append_left _ (List.mem_append_right _ h)))))))
theorem inX0 : ∀ w ∈ wsX00, w ∈ lw_tb2 := fun w h => wsL_law_in w (inlX0 w h)
theorem inlX1 : ∀ w ∈ wsX10, w ∈ wsL_law := fun _ h => List.mem_append_left _ (List.mem_append_left _ (List.mem_append_left _ (List.mem_append_left _ (List.mem_append_left _ (List.mem_append_left _ (List.mem_append_right _ h))))))
theorem inX1 : ∀ w ∈ wsX10, w ∈ lw_tb2 := fun w h => wsL_law_in w (inlX1 w h)
theorem inlX2 : ∀ w ∈ wsX20, w ∈ wsL_law := fun _ h => List.mem_append_left _ (List.mem_append_left _ (List.mem_append_left _ (List.mem_append_left _ (List.mem_append_left _ (List.mem_append_left _ (List.mem_append_left _ (List.mem_append_left _ (List.mem_append_left _ (List.mem_append_right _ h)))))))))
theorem inX2 : ∀ w ∈ wsX20, w ∈ lw_tb2 := fun w h => wsL_law_in w (inlX2 w h)
theorem inlX3 : ∀ w ∈ wsX30, w ∈ wsL_law := fun _ h => List.mem_append_left _ (List.mem_append_left _ (List.mem_append_left _ (List.mem_append_left _ (List.mem_append_right _ h))))
theorem inX3 : ∀ w ∈ wsX30, w ∈ lw_tb2 := fun w h => wsL_law_in w (inlX3 w h)
theorem inlX4 : ∀ w ∈ wsX40, w ∈ wsL_law := fun _ h => List.mem_append_left _ (List.mem_append_left _ (List.mem_append_left _ (List.mem_append_left _ (List.mem_append_left _ (List.mem_append_left _ (List.mem_append_left _ (List.mem_append_left _ (List.mem_append_right _ h))))))))
theorem inX4 : ∀ w ∈ wsX40, w ∈ lw_tb2 := fun w h => wsL_law_in w (inlX4 w h)
theorem inX5 : ∀ w ∈ wsX50, w ∈ lw_tb2 := by decide +kernel
theorem inlX6 : ∀ w ∈ wsX60, w ∈ wsL_law := fun _ h => List.mem_append_left _ (List.mem_append_left _ (List.mem_append_left _ (List.mem_append_right _ h)))
theorem inX6 : ∀ w ∈ wsX60, w ∈ lw_tb2 := fun w h => wsL_law_in w (inlX6 w h)
theorem inX7 : ∀ w ∈ wsX70, w ∈ lw_tb2 := by decide +kernel
theorem inlX8 : ∀ w ∈ wsX80, w ∈ wsL_law := fun _ h => List.mem_append_left _ (List.mem_append_left _ (List.mem_append_left _ (List.mem_append_left _ (List.mem_append_left _ (List.mem_append_right _ h)))))
theorem inX8 : ∀ w ∈ wsX80, w ∈ lw_tb2 := fun w h => wsL_law_in w (inlX8 w h)
theorem inlX9 : ∀ w ∈ wsX90, w ∈ wsL_law := fun _ h => List.mem_append_left _ (List.mem_append_left _ (List.mem_append_left _ (List.mem_append_left _ (List.mem_append_left _ (List.mem_append_left _ (List.mem_append_left _ (List.mem_append_left _ (List.mem_append_left _ (List.mem_append_left _ (List.mem_append_right _ h))))))))))
theorem inX9 : ∀ w ∈ wsX90, w ∈ lw_tb2 := fun w h => wsL_law_in w (inlX9 w h)
theorem inX10 : ∀ w ∈ wsX100, w ∈ lw_tb2 := by decide +kernel
theorem inJx145de : ∀ w ∈ wsJx145de0, w ∈ lw_tb2 := by decide +kernel
theorem inJ5 : ∀ w ∈ wsJ50, w ∈ lw_tb2 := by decide +kernel
theorem inJx2cfe8 : ∀ w ∈ wsJx2cfe80, w ∈ lw_tb2 := by decide +kernel
theorem inJx9f9b0 : ∀ w ∈ wsJx9f9b00, w ∈ lw_tb2 := by decide +kernel
theorem inJx8e188 : ∀ w ∈ wsJx8e1880, w ∈ lw_tb2 := by decide +kernel
theorem inJxb160c : ∀ w ∈ wsJxb160c0, w ∈ lw_tb2 := by decide +kernel
theorem inJxe99ae : ∀ w ∈ wsJxe99ae0, w ∈ lw_tb2 := by decide +kernel
theorem inJxf58ca : ∀ w ∈ wsJxf58ca0, w ∈ lw_tb2 := by decide +kernel
theorem inJ6 : ∀ w ∈ wsJ60, w ∈ lw_tb2 := by decide +kernel
theorem inJ9 : ∀ w ∈ wsJ90, w ∈ lw_tb2 := by decide +kernel
theorem inJxd2413 : ∀ w ∈ wsJxd24130, w ∈ lw_tb2 := by decide +kernel
theorem inlJ0 : ∀ w ∈ wsJ00, w ∈ wsL_law := fun _ h => List.mem_append_left _ (List.mem_append_left _ (List.mem_append_right _ h))
theorem inJ0 : ∀ w ∈ wsJ00, w ∈ lw_tb2 := fun w h => wsL_law_in w (inlJ0 w h)
theorem inlJ4 : ∀ w ∈ wsJ40, w ∈ wsL_law := fun _ h => List.mem_append_left _ (List.mem_append_right _ h)
theorem inJ4 : ∀ w ∈ wsJ40, w ∈ lw_tb2 := fun w h => wsL_law_in w (inlJ4 w h)
theorem inJ1 : ∀ w ∈ wsJ10, w ∈ lw_tb2 := by decide +kernel
theorem inJ2 : ∀ w ∈ wsJ20, w ∈ lw_tb2 := by decide +kernel
theorem inJ10 : ∀ w ∈ wsJ100, w ∈ lw_tb2 := by decide +kernel
theorem inJxfd54e : ∀ w ∈ wsJxfd54e0, w ∈ lw_tb2 := by decide +kernel
theorem inJx3cf43 : ∀ w ∈ wsJx3cf430, w ∈ lw_tb2 := by decide +kernel
theorem inJ7 : ∀ w ∈ wsJ70, w ∈ lw_tb2 := by decide +kernel
theorem inJ8 : ∀ w ∈ wsJ80, w ∈ lw_tb2 := by decide +kernel
theorem inJ3 : ∀ w ∈ wsJ30, w ∈ lw_tb2 := by decide +kernel
