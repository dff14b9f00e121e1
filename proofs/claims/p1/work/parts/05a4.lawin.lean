set_option maxRecDepth 100000 in
theorem wsL_law_in0 : ∀ w ∈ wsL_law0, w ∈ lw_tbl := fun w h => ((List.mem_append.mp h).elim (fun h => ((List.mem_append.mp h).elim (fun h => ((List.mem_append.mp h).elim (fun h => ((List.mem_append.mp h).elim (fun h => ((List.mem_append.mp h).elim (fun h => ((List.mem_append.mp h).elim (fun h => ((List.mem_append.mp h).elim (fun h => ((List.mem_append.mp h).elim (fun h => ((List.mem_append.mp h).elim (fun h => ((List.mem_append.mp h).elim (fun h => ((List.mem_append.mp h).elim (fun h => ((List.mem_append.mp h).elim (fun h => ((List.mem_append.mp h).elim (fun h => ((List.mem_append.mp h).elim (fun h => ((List.mem_append.mp h).elim (fun h => ((List.mem_append.mp h).elim (fun h => ((List.mem_append.mp h).elim (fun h => ((List.mem_append.mp h).elim (wsL_law0_r1_in w) (fun h => ((List.mem_append.mp h).elim (wsL_law0_r2_in w) (fun h => ((List.mem_append.mp h).elim (wsL_law0_r3_in w) (fun h => ((List.mem_append.mp h).elim (wsL_law0_r4_in w) (fun h => ((List.mem_append.mp h).elim (wsL_law0_r5_in w) (fun h => ((List.mem_append.mp h).elim (wsL_law0_r6_in w) (fun h => ((List.mem_append.mp h).elim (wsL_law0_r7_in w) (fun h => ((List.mem_append.mp h).elim (wsL_law0_r8_in w) (fun h => ((List.mem_append.mp h).elim (wsL_law0_r9_in w) (fun h => ((List.mem_append.mp h).elim (wsL_law0_r10_in w) (fun h => ((List.mem_append.mp h).elim (wsL_law0_r11_in w) (fun h => ((List.mem_append.mp h).elim (wsL_law0_r12_in w) (fun h => ((List.mem_append.mp h).elim (wsL_law0_r13_in w) (fun h => ((List.mem_append.mp h).elim (wsL_law0_r14_in w) (fun h => ((List.mem_append.mp h).elim (wsL_law0_r15_in w) (fun h => ((List.mem_append.mp h).elim (wsL_law0_r16_in w) (fun h => ((List.mem_append.mp h).elim (wsL_law0_r17_in w) (fun h => ((List.mem_append.mp h).elim (wsL_law0_r18_in w) (fun h => ((List.mem_append.mp h).elim (wsL_law0_r19_in w) (fun h => ((List.mem_append.mp h).elim (wsL_law0_r20_in w) (fun h => ((List.mem_append.mp h).elim (wsL_law0_r21_in w) (fun h => ((List.mem_append.mp h).elim (wsL_law0_r22_in w) (fun h => ((List.mem_append.mp h).elim (wsL_law0_r23_in w) (fun h => ((List.mem_append.mp h).elim (wsL_law0_r24_in w) (fun h => ((List.mem_append.mp h).elim (wsL_law0_r25_in w) (fun h => ((List.mem_append.mp h).elim (wsL_law0_r26_in w) (fun h => ((List.mem_append.mp h).elim (wsL_law0_r27_in w) (fun h => ((List.mem_append.mp h).elim (wsL_law0_r28_in w) (fun h => ((List.mem_append.mp h).elim (wsL_law0_r29_in w) (fun h => ((List.mem_append.mp h).elim (wsL_law0_r30_in w) (fun h => ((List.mem_append.mp h).elim (wsL_law0_r31_in w) (fun h => ((List.mem_append.mp h).elim (wsL_law0_r32_in w) (fun h => ((List.mem_append.mp h).elim (wsL_law0_r33_in w) (fun h => ((List.mem_append.mp h).elim (wsL_law0_r34_in w) (fun h => ((List.mem_append.mp h).elim (wsL_law0_r35_in w) (fun h => ((List.mem_append.mp h).elim (wsL_law0_r36_in w) (fun h => ((List.mem_append.mp h).elim (wsL_law0_r37_in w) (fun h => ((List.mem_append.mp h).elim (wsL_law0_r38_in w) (fun h => ((List.mem_append.mp h).elim (wsL_law0_r39_in w) (fun h => ((List.mem_append.mp h).elim (wsL_law0_r40_in w) (fun h => ((List.mem_append.mp h).elim (wsL_law0_r41_in w) (fun h => ((List.mem_append.mp h).elim (wsL_law0_r42_in w) (fun h => ((List.mem_append.mp h).elim (wsL_law0_r43_in w) (fun h => ((List.mem_append.mp h).elim (wsL_law0_r44_in w) (fun h => ((List.mem_append.mp h).elim (wsL_law0_r45_in w) (fun h => ((List.mem_append.mp h).elim (wsL_law0_r46_in w) (fun h => ((List.mem_append.mp h).elim (wsL_law0_r47_in w) (fun h => ((List.mem_append.mp h).elim (wsL_law0_r48_in w) (fun h => ((List.mem_append.mp h).elim (wsL_law0_r49_in w) (fun h => ((List.mem_append.mp h).elim (wsL_law0_r50_in w) (fun h => ((List.mem_append.mp h).elim (wsL_law0_r51_in w) (fun h => ((List.mem_append.mp h).elim (wsL_law0_r52_in w) (fun h => ((List.mem_append.mp h).elim (wsL_law0_r53_in w) (fun h => ((List.mem_append.mp h).elim (wsL_law0_r54_in w) (fun h => ((List.mem_append.mp h).elim (wsL_law0_r55_in w) (fun h => ((List.mem_append.mp h).elim (wsL_law0_r56_in w) (fun h => ((List.mem_append.mp h).elim (wsL_law0_r57_in w) (fun h => ((List.mem_append.mp h).elim (wsL_law0_r58_in w) (fun h => ((List.mem_append.mp h).elim (wsL_law0_r59_in w) (fun h => ((List.mem_append.mp h).elim (wsL_law0_r60_in w) (fun h => ((List.mem_append.mp h).elim (wsL_law0_r61_in w) (fun h => ((List.mem_append.mp h).elim (wsL_law0_r62_in w) (fun h => (wsL_law0_r63_in w h)))))))))))))))))))))))))))))))))))))))))))))))))))))))))))))))))))))))))))))))))))))))))))))))))))))))))))))))))))))))))))))) (wsX110_in w))) (wsX120_in w))) (wsX50_in w))) (wsX60_in w))) (wsX30_in w))) (wsX40_in w))) (wsX70_in w))) (wsX90_in w))) (wsX100_in w))) (wsX20_in w))) (wsX10_in w))) (wsX00_in w))) (wsX80_in w))) (wsJx4a65c0_in w))) (wsJ60_in w))) (wsJx354110_in w))) (fun h => absurd h List.not_mem_nil))
set_option maxHeartbeats 20000000 in
set_option maxRecDepth 100000 in
theorem wsL_law_in : ∀ w ∈ wsL_law, w ∈ lw_tbl := fun w h => (List.mem_append.mp h).elim (fun h => (List.mem_append.mp h).elim (fun h => (List.mem_append.mp h).elim (fun h => (List.mem_append.mp h).elim (fun h => (List.mem_append.mp h).elim (fun h => (List.mem_append.mp h).elim (fun h => (List.mem_append.mp h).elim (fun h => (List.mem_append.mp h).elim (fun h => wsL_law_in0 w h) (fun h => wsL_law_x0 w h)) (fun h => wsL_law_x1 w h)) (fun h => wsL_law_x2 w h)) (fun h => wsL_law_x3 w h)) (fun h => wsL_law_x4 w h)) (fun h => wsL_law_x5 w h)) (fun h => wsL_law_x6 w h)) (fun h => wsL_law_x7 w h)
set_option maxHeartbeats 20000000 in
set_option maxRecDepth 100000 in
theorem inlX0 : ∀ w ∈ wsX00, w ∈ wsL_law := fun _ h => List.mem_append_left _ (List.mem_append_left _ (List.mem_append_left _ (List.mem_append_left _ (List.mem_append_left _ (List.mem_append_left _ (List.mem_append_left _ (List.mem_append_left _ (List.mem_append_left _ (List.mem_append_left _ (List.mem_append_left _ (List.mem_append_left _ (List.mem_append_left _ (List.mem_append_right _ h)))))))))))))
set_option maxHeartbeats 20000000 in
set_option maxRecDepth 100000 in
theorem inX0 : ∀ w ∈ wsX00, w ∈ lw_tbl := fun w h => wsL_law_in w (inlX0 w h)
set_option maxHeartbeats 20000000 in
set_option maxRecDepth 100000 in
theorem inlX1 : ∀ w ∈ wsX10, w ∈ wsL_law := fun _ h => List.mem_append_left _ (List.mem_append_left _ (List.mem_append_left _ (List.mem_append_left _ (List.mem_append_left _ (List.mem_append_left _ (List.mem_append_left _ (List.mem_append_left _ (List.mem_append_left _ (List.mem_append_left _ (List.mem_append_left _ (List.mem_append_left _ (List.mem_append_left _ (List.mem_append_left _ (List.mem_append_right _ h))))))))))))))
set_option maxHeartbeats 20000000 in
set_option maxRecDepth 100000 in
theorem inX1 : ∀ w ∈ wsX10, w ∈ lw_tbl := fun w h => wsL_law_in w (inlX1 w h)
set_option maxHeartbeats 20000000 in
set_option maxRecDepth 100000 in
theorem inlX2 : ∀ w ∈ wsX20, w ∈ wsL_law := fun _ h => List.mem_append_left _ (List.mem_append_left _ (List.mem_append_left _ (List.mem_append_left _ (List.mem_append_left _ (List.mem_append_left _ (List.mem_append_left _ (List.mem_append_left _ (List.mem_append_left _ (List.mem_append_left _ (List.mem_append_left _ (List.mem_append_left _ (List.mem_append_left _ (List.mem_append_left _ (List.mem_append_left _ (List.mem_append_right _ h)))))))))))))))
set_option maxHeartbeats 20000000 in
set_option maxRecDepth 100000 in
theorem inX2 : ∀ w ∈ wsX20, w ∈ lw_tbl := fun w h => wsL_law_in w (inlX2 w h)
set_option maxHeartbeats 20000000 in
set_option maxRecDepth 100000 in
theorem inlX3 : ∀ w ∈ wsX30, w ∈ wsL_law := fun _ h => List.mem_append_left _ (List.mem_append_left _ (List.mem_append_left _ (List.mem_append_left _ (List.mem_append_left _ (List.mem_append_left _ (List.mem_append_left _ (List.mem_append_left _ (List.mem_append_left _ (List.mem_append_left _ (List.mem_append_left _ (List.mem_append_left _ (List.mem_append_left _ (List.mem_append_left _ (List.mem_append_left _ (List.mem_append_left _ (List.mem_append_left _ (List.mem_append_left _ (List.mem_append_left _ (List.mem_append_left _ (List.mem_append_right _ h))))))))))))))))))))
set_option maxHeartbeats 20000000 in
set_option maxRecDepth 100000 in
theorem inX3 : ∀ w ∈ wsX30, w ∈ lw_tbl := fun w h => wsL_law_in w (inlX3 w h)
set_option maxHeartbeats 20000000 in
set_option maxRecDepth 100000 in
theorem inlX4 : ∀ w ∈ wsX40, w ∈ wsL_law := fun _ h => List.mem_append_left _ (List.mem_append_left _ (List.mem_append_left _ (List.mem_append_left _ (List.mem_append_left _ (List.mem_append_left _ (List.mem_append_left _ (List.mem_append_left _ (List.mem_append_left _ (List.mem_append_left _ (List.mem_append_left _ (List.mem_append_left _ (List.mem_append_left _ (List.mem_append_left _ (List.mem_append_left _ (List.mem_append_left _ (List.mem_append_left _ (List.mem_append_left _ (List.mem_append_left _ (List.mem_append_right _ h)))))))))))))))))))
set_option maxHeartbeats 20000000 in
set_option maxRecDepth 100000 in
theorem inX4 : ∀ w ∈ wsX40, w ∈ lw_tbl := fun w h => wsL_law_in w (inlX4 w h)
set_option maxHeartbeats 20000000 in
set_option maxRecDepth 100000 in
theorem inlX5 : ∀ w ∈ wsX50, w ∈ wsL_law := fun _ h => List.mem_append_left _ (List.mem_append_left _ (List.mem_append_left _ (List.mem_append_left _ (List.mem_append_left _ (List.mem_append_left _ (List.mem_append_left _ (List.mem_append_left _ (List.mem_append_left _ (List.mem_append_left _ (List.mem_append_left _ (List.mem_append_left _ (List.mem_append_left _ (List.mem_append_left _ (List.mem_append_left _ (List.mem_append_left _ (List.mem_append_left _ (List.mem_append_left _ (List.mem_append_left _ (List.mem_append_left _ (List.mem_append_left _ (List.mem_append_left _ (List.mem_append_right _ h))))))))))))))))))))))
set_option maxHeartbeats 20000000 in
set_option maxRecDepth 100000 in
theorem inX5 : ∀ w ∈ wsX50, w ∈ lw_tbl := fun w h => wsL_law_in w (inlX5 w h)
set_option maxHeartbeats 20000000 in
set_option maxRecDepth 100000 in
theorem inlX6 : ∀ w ∈ wsX60, w ∈ wsL_law := fun _ h => List.mem_append_left _ (List.mem_append_left _ (List.mem_append_left _ (List.mem_append_left _ (List.mem_append_left _ (List.mem_append_left _ (List.mem_append_left _ (List.mem_append_left _ (List.mem_append_left _ (List.mem_append_left _ (List.mem_append_left _ (List.mem_append_left _ (List.mem_append_left _ (List.mem_append_left _ (List.mem_append_left _ (List.mem_append_left _ (List.mem_append_left _ (List.mem_append_left _ (List.mem_append_left _ (List.mem_append_left _ (List.mem_append_left _ (List.mem_append_right _ h)))))))))))))))))))))
set_option maxHeartbeats 20000000 in
set_option maxRecDepth 100000 in
theorem inX6 : ∀ w ∈ wsX60, w ∈ lw_tbl := fun w h => wsL_law_in w (inlX6 w h)
set_option maxHeartbeats 20000000 in
set_option maxRecDepth 100000 in
theorem inlX7 : ∀ w ∈ wsX70, w ∈ wsL_law := fun _ h => List.mem_append_left _ (List.mem_append_left _ (List.mem_append_left _ (List.mem_append_left _ (List.mem_append_left _ (List.mem_append_left _ (List.mem_append_left _ (List.mem_append_left _ (List.mem_append_left _ (List.mem_append_left _ (List.mem_append_left _ (List.mem_append_left _ (List.mem_append_left _ (List.mem_append_left _ (List.mem_append_left _ (List.mem_append_left _ (List.mem_append_left _ (List.mem_append_left _ (List.mem_append_right _ h))))))))))))))))))
set_option maxHeartbeats 20000000 in
set_option maxRecDepth 100000 in
theorem inX7 : ∀ w ∈ wsX70, w ∈ lw_tbl := fun w h => wsL_law_in w (inlX7 w h)
set_option maxHeartbeats 20000000 in
set_option maxRecDepth 100000 in
theorem inlX8 : ∀ w ∈ wsX80, w ∈ wsL_law := fun _ h => List.mem_append_left _ (List.mem_append_left _ (List.mem_append_left _ (List.mem_append_left _ (List.mem_append_left _ (List.mem_append_left _ (List.mem_append_left _ (List.mem_append_left _ (List.mem_append_left _ (List.mem_append_left _ (List.mem_append_left _ (List.mem_append_left _ (List.mem_append_right _ h))))))))))))
set_option maxHeartbeats 20000000 in
set_option maxRecDepth 100000 in
theorem inX8 : ∀ w ∈ wsX80, w ∈ lw_tbl := fun w h => wsL_law_in w (inlX8 w h)
set_option maxHeartbeats 20000000 in
set_option maxRecDepth 100000 in
theorem inlX9 : ∀ w ∈ wsX90, w ∈ wsL_law := fun _ h => List.mem_append_left _ (List.mem_append_left _ (List.mem_append_left _ (List.mem_append_left _ (List.mem_append_left _ (List.mem_append_left _ (List.mem_append_left _ (List.mem_append_left _ (List.mem_append_left _ (List.mem_append_left _ (List.mem_append_left _ (List.mem_append_left _ (List.mem_append_left _ (List.mem_append_left _ (List.mem_append_left _ (List.mem_append_left _ (List.mem_append_left _ (List.mem_append_right _ h)))))))))))))))))
set_option maxHeartbeats 20000000 in
set_option maxRecDepth 100000 in
theorem inX9 : ∀ w ∈ wsX90, w ∈ lw_tbl := fun w h => wsL_law_in w (inlX9 w h)
set_option maxHeartbeats 20000000 in
set_option maxRecDepth 100000 in
theorem inlX10 : ∀ w ∈ wsX100, w ∈ wsL_law := fun _ h => List.mem_append_left _ (List.mem_append_left _ (List.mem_append_left _ (List.mem_append_left _ (List.mem_append_left _ (List.mem_append_left _ (List.mem_append_left _ (List.mem_append_left _ (List.mem_append_left _ (List.mem_append_left _ (List.mem_append_left _ (List.mem_append_left _ (List.mem_append_left _ (List.mem_append_left _ (List.mem_append_left _ (List.mem_append_left _ (List.mem_append_right _ h))))))))))))))))
set_option maxHeartbeats 20000000 in
set_option maxRecDepth 100000 in
theorem inX10 : ∀ w ∈ wsX100, w ∈ lw_tbl := fun w h => wsL_law_in w (inlX10 w h)
set_option maxHeartbeats 20000000 in
set_option maxRecDepth 100000 in
theorem inlX11 : ∀ w ∈ wsX110, w ∈ wsL_law := fun _ h => List.mem_append_left _ (List.mem_append_left _ (List.mem_append_left _ (List.mem_append_left _ (List.mem_append_left _ (List.mem_append_left _ (List.mem_append_left _ (List.mem_append_left _ (List.mem_append_left _ (List.mem_append_left _ (List.mem_append_left _ (List.mem_append_left _ (List.mem_append_left _ (List.mem_append_left _ (List.mem_append_left _ (List.mem_append_left _ (List.mem_append_left _ (List.mem_append_left _ (List.mem_append_left _ (List.mem_append_left _ (List.mem_append_left _ (List.mem_append_left _ (List.mem_append_left _ (List.mem_append_left _ (List.mem_append_right _ h))))))))))))))))))))))))
set_option maxHeartbeats 20000000 in
set_option maxRecDepth 100000 in
theorem inX11 : ∀ w ∈ wsX110, w ∈ lw_tbl := fun w h => wsL_law_in w (inlX11 w h)
set_option maxHeartbeats 20000000 in
set_option maxRecDepth 100000 in
theorem inlX12 : ∀ w ∈ wsX120, w ∈ wsL_law := fun _ h => List.mem_append_left _ (List.mem_append_left _ (List.mem_append_left _ (List.mem_append_left _ (List.mem_append_left _ (List.mem_append_left _ (List.mem_append_left _ (List.mem_append_left _ (List.mem_append_left _ (List.mem_append_left _ (List.mem_append_left _ (List.mem_append_left _ (List.mem_append_left _ (List.mem_append_left _ (List.mem_append_left _ (List.mem_append_left _ (List.mem_append_left _ (List.mem_append_left _ (List.mem_append_left _ (List.mem_append_left _ (List.mem_append_left _ (List.mem_append_left _ (List.mem_append_left _ (List.mem_append_right _ h)))))))))))))))))))))))
set_option maxHeartbeats 20000000 in
set_option maxRecDepth 100000 in
theorem inX12 : ∀ w ∈ wsX120, w ∈ lw_tbl := fun w h => wsL_law_in w (inlX12 w h)
set_option maxHeartbeats 20000000 in
set_option maxRecDepth 100000 in
theorem inJx00060 : ∀ w ∈ wsJx000600, w ∈ lw_tbl := by decide +kernel
set_option maxHeartbeats 20000000 in
set_option maxRecDepth 100000 in
theorem inlJ6 : ∀ w ∈ wsJ60, w ∈ wsL_law := fun _ h => List.mem_append_left _ (List.mem_append_left _ (List.mem_append_left _ (List.mem_append_left _ (List.mem_append_left _ (List.mem_append_left _ (List.mem_append_left _ (List.mem_append_left _ (List.mem_append_left _ (List.mem_append_left _ (List.mem_append_right _ h))))))))))
set_option maxHeartbeats 20000000 in
set_option maxRecDepth 100000 in
theorem inJ6 : ∀ w ∈ wsJ60, w ∈ lw_tbl := fun w h => wsL_law_in w (inlJ6 w h)
set_option maxHeartbeats 20000000 in
set_option maxRecDepth 100000 in
theorem inJ0 : ∀ w ∈ wsJ00, w ∈ lw_tbl := by decide +kernel
set_option maxHeartbeats 20000000 in
set_option maxRecDepth 100000 in
theorem inlJx35411 : ∀ w ∈ wsJx354110, w ∈ wsL_law := fun _ h => List.mem_append_left _ (List.mem_append_left _ (List.mem_append_left _ (List.mem_append_left _ (List.mem_append_left _ (List.mem_append_left _ (List.mem_append_left _ (List.mem_append_left _ (List.mem_append_left _ (List.mem_append_right _ h)))))))))
set_option maxHeartbeats 20000000 in
set_option maxRecDepth 100000 in
theorem inJx35411 : ∀ w ∈ wsJx354110, w ∈ lw_tbl := fun w h => wsL_law_in w (inlJx35411 w h)
set_option maxHeartbeats 20000000 in
set_option maxRecDepth 100000 in
theorem inlJx4a65c : ∀ w ∈ wsJx4a65c0, w ∈ wsL_law := fun _ h => List.mem_append_left _ (List.mem_append_left _ (List.mem_append_left _ (List.mem_append_left _ (List.mem_append_left _ (List.mem_append_left _ (List.mem_append_left _ (List.mem_append_left _ (List.mem_append_left _ (List.mem_append_left _ (List.mem_append_left _ (List.mem_append_right _ h)))))))))))
set_option maxHeartbeats 20000000 in
set_option maxRecDepth 100000 in
theorem inJx4a65c : ∀ w ∈ wsJx4a65c0, w ∈ lw_tbl := fun w h => wsL_law_in w (inlJx4a65c w h)
